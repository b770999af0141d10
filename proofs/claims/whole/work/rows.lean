section
-- ===== PART A: goes FIRST, ahead of the names: the tables' words, and 'selects' of the private methods out of them =====
/-- a private method of a class that the tables say can be made, by its rows of tables_1 -/
def lw_okq (q : MethodName × Nat) : Prop := (q.1.cls ≠ "java/lang/invoke/MethodHandle" ∧ q.1.cls ≠ "java/lang/invoke/VarHandle") ∧ Cond.instantiable q.1.cls q.2 ∈ tables_1 ∧ Cond.privateMethod q.1 ∈ tables_1 ∧ Cond.instanceMethod q.1 ∈ tables_1
theorem lw_p0 : lw_okq (⟨"TaleSums$Tape", "advance", "()V"⟩, 4) := ⟨⟨by decide +kernel, by decide +kernel⟩, List.mem_of_getElem? (i := 30) (by decide +kernel), List.mem_of_getElem? (i := 217) (by decide +kernel), List.mem_of_getElem? (i := 218) (by decide +kernel)⟩
theorem lw_p1 : lw_okq (⟨"TaleSums$Tape", "find", "(Ljava/lang/String;II)I"⟩, 4) := ⟨⟨by decide +kernel, by decide +kernel⟩, List.mem_of_getElem? (i := 30) (by decide +kernel), List.mem_of_getElem? (i := 255) (by decide +kernel), List.mem_of_getElem? (i := 256) (by decide +kernel)⟩
theorem lw_p2 : lw_okq (⟨"TaleSums$Reader", "readQuestion", "(LTaleSums$Story;)Z"⟩, 1) := ⟨⟨by decide +kernel, by decide +kernel⟩, List.mem_of_getElem? (i := 50) (by decide +kernel), List.mem_of_getElem? (i := 297) (by decide +kernel), List.mem_of_getElem? (i := 298) (by decide +kernel)⟩
theorem lw_p3 : lw_okq (⟨"TaleSums$Reader", "takeAskedSort", "()I"⟩, 1) := ⟨⟨by decide +kernel, by decide +kernel⟩, List.mem_of_getElem? (i := 50) (by decide +kernel), List.mem_of_getElem? (i := 307) (by decide +kernel), List.mem_of_getElem? (i := 308) (by decide +kernel)⟩
theorem lw_p4 : lw_okq (⟨"TaleSums$Reader", "readSentence", "(LTaleSums$Story;)Z"⟩, 1) := ⟨⟨by decide +kernel, by decide +kernel⟩, List.mem_of_getElem? (i := 50) (by decide +kernel), List.mem_of_getElem? (i := 333) (by decide +kernel), List.mem_of_getElem? (i := 334) (by decide +kernel)⟩
theorem lw_p5 : lw_okq (⟨"TaleSums$Reader", "readHas", "(LTaleSums$Story;I)Z"⟩, 1) := ⟨⟨by decide +kernel, by decide +kernel⟩, List.mem_of_getElem? (i := 50) (by decide +kernel), List.mem_of_getElem? (i := 345) (by decide +kernel), List.mem_of_getElem? (i := 346) (by decide +kernel)⟩
theorem lw_p6 : lw_okq (⟨"TaleSums$Reader", "readUnit", "(LTaleSums$Story;)Z"⟩, 1) := ⟨⟨by decide +kernel, by decide +kernel⟩, List.mem_of_getElem? (i := 50) (by decide +kernel), List.mem_of_getElem? (i := 355) (by decide +kernel), List.mem_of_getElem? (i := 356) (by decide +kernel)⟩
theorem lw_p7 : lw_okq (⟨"TaleSums$Reader", "readSecond", "(LTaleSums$Story;I)Z"⟩, 1) := ⟨⟨by decide +kernel, by decide +kernel⟩, List.mem_of_getElem? (i := 50) (by decide +kernel), List.mem_of_getElem? (i := 360) (by decide +kernel), List.mem_of_getElem? (i := 361) (by decide +kernel)⟩
theorem lw_p8 : lw_okq (⟨"TaleSums$Reader", "readPlain", "(LTaleSums$Story;I)Z"⟩, 1) := ⟨⟨by decide +kernel, by decide +kernel⟩, List.mem_of_getElem? (i := 50) (by decide +kernel), List.mem_of_getElem? (i := 367) (by decide +kernel), List.mem_of_getElem? (i := 368) (by decide +kernel)⟩
theorem lw_p9 : lw_okq (⟨"TaleSums$Sums", "makeLaws", "()V"⟩, 14) := ⟨⟨by decide +kernel, by decide +kernel⟩, List.mem_of_getElem? (i := 103) (by decide +kernel), List.mem_of_getElem? (i := 400) (by decide +kernel), List.mem_of_getElem? (i := 401) (by decide +kernel)⟩
theorem lw_p10 : lw_okq (⟨"TaleSums$Sums", "weigh", "([JIIII)V"⟩, 14) := ⟨⟨by decide +kernel, by decide +kernel⟩, List.mem_of_getElem? (i := 103) (by decide +kernel), List.mem_of_getElem? (i := 419) (by decide +kernel), List.mem_of_getElem? (i := 420) (by decide +kernel)⟩
theorem lw_p11 : lw_okq (⟨"TaleSums$Sums", "addFacts", "()V"⟩, 14) := ⟨⟨by decide +kernel, by decide +kernel⟩, List.mem_of_getElem? (i := 103) (by decide +kernel), List.mem_of_getElem? (i := 440) (by decide +kernel), List.mem_of_getElem? (i := 441) (by decide +kernel)⟩
theorem lw_p12 : lw_okq (⟨"TaleSums$Sums", "isFact", "(I)Z"⟩, 14) := ⟨⟨by decide +kernel, by decide +kernel⟩, List.mem_of_getElem? (i := 103) (by decide +kernel), List.mem_of_getElem? (i := 448) (by decide +kernel), List.mem_of_getElem? (i := 449) (by decide +kernel)⟩
theorem lw_p13 : lw_okq (⟨"TaleSums$Sums", "settleAmounts", "()V"⟩, 14) := ⟨⟨by decide +kernel, by decide +kernel⟩, List.mem_of_getElem? (i := 103) (by decide +kernel), List.mem_of_getElem? (i := 480) (by decide +kernel), List.mem_of_getElem? (i := 481) (by decide +kernel)⟩
theorem lw_p14 : lw_okq (⟨"TaleSums$Sums", "settleAnswer", "()V"⟩, 14) := ⟨⟨by decide +kernel, by decide +kernel⟩, List.mem_of_getElem? (i := 103) (by decide +kernel), List.mem_of_getElem? (i := 487) (by decide +kernel), List.mem_of_getElem? (i := 488) (by decide +kernel)⟩
theorem lw_p15 : lw_okq (⟨"TaleSums$Sums", "hasAnswer", "()Z"⟩, 14) := ⟨⟨by decide +kernel, by decide +kernel⟩, List.mem_of_getElem? (i := 103) (by decide +kernel), List.mem_of_getElem? (i := 517) (by decide +kernel), List.mem_of_getElem? (i := 518) (by decide +kernel)⟩
def lw_privs_1 : List (MethodName × Nat) := [(⟨"TaleSums$Tape", "advance", "()V"⟩, 4), (⟨"TaleSums$Tape", "find", "(Ljava/lang/String;II)I"⟩, 4), (⟨"TaleSums$Reader", "readQuestion", "(LTaleSums$Story;)Z"⟩, 1), (⟨"TaleSums$Reader", "takeAskedSort", "()I"⟩, 1), (⟨"TaleSums$Reader", "readSentence", "(LTaleSums$Story;)Z"⟩, 1), (⟨"TaleSums$Reader", "readHas", "(LTaleSums$Story;I)Z"⟩, 1), (⟨"TaleSums$Reader", "readUnit", "(LTaleSums$Story;)Z"⟩, 1), (⟨"TaleSums$Reader", "readSecond", "(LTaleSums$Story;I)Z"⟩, 1), (⟨"TaleSums$Reader", "readPlain", "(LTaleSums$Story;I)Z"⟩, 1), (⟨"TaleSums$Sums", "makeLaws", "()V"⟩, 14), (⟨"TaleSums$Sums", "weigh", "([JIIII)V"⟩, 14), (⟨"TaleSums$Sums", "addFacts", "()V"⟩, 14), (⟨"TaleSums$Sums", "isFact", "(I)Z"⟩, 14), (⟨"TaleSums$Sums", "settleAmounts", "()V"⟩, 14), (⟨"TaleSums$Sums", "settleAnswer", "()V"⟩, 14), (⟨"TaleSums$Sums", "hasAnswer", "()Z"⟩, 14)]
theorem lw_r1 : ∀ q ∈ lw_privs_1, lw_okq q := List.forall_mem_cons.mpr ⟨lw_p0, List.forall_mem_cons.mpr ⟨lw_p1, List.forall_mem_cons.mpr ⟨lw_p2, List.forall_mem_cons.mpr ⟨lw_p3, List.forall_mem_cons.mpr ⟨lw_p4, List.forall_mem_cons.mpr ⟨lw_p5, List.forall_mem_cons.mpr ⟨lw_p6, List.forall_mem_cons.mpr ⟨lw_p7, List.forall_mem_cons.mpr ⟨lw_p8, List.forall_mem_cons.mpr ⟨lw_p9, List.forall_mem_cons.mpr ⟨lw_p10, List.forall_mem_cons.mpr ⟨lw_p11, List.forall_mem_cons.mpr ⟨lw_p12, List.forall_mem_cons.mpr ⟨lw_p13, List.forall_mem_cons.mpr ⟨lw_p14, List.forall_mem_cons.mpr ⟨lw_p15, fun _ h => absurd h List.not_mem_nil⟩⟩⟩⟩⟩⟩⟩⟩⟩⟩⟩⟩⟩⟩⟩⟩
theorem lw_p16 : lw_okq (⟨"TaleSums$Sums", "topAt", "(III)J"⟩, 14) := ⟨⟨by decide +kernel, by decide +kernel⟩, List.mem_of_getElem? (i := 103) (by decide +kernel), List.mem_of_getElem? (i := 534) (by decide +kernel), List.mem_of_getElem? (i := 535) (by decide +kernel)⟩
theorem lw_p17 : lw_okq (⟨"TaleSums$Sums", "isSettledBy", "(I)Z"⟩, 14) := ⟨⟨by decide +kernel, by decide +kernel⟩, List.mem_of_getElem? (i := 103) (by decide +kernel), List.mem_of_getElem? (i := 546) (by decide +kernel), List.mem_of_getElem? (i := 547) (by decide +kernel)⟩
theorem lw_p18 : lw_okq (⟨"TaleSums$Sums", "factsOf", "(I)I"⟩, 14) := ⟨⟨by decide +kernel, by decide +kernel⟩, List.mem_of_getElem? (i := 103) (by decide +kernel), List.mem_of_getElem? (i := 550) (by decide +kernel), List.mem_of_getElem? (i := 551) (by decide +kernel)⟩
theorem lw_p19 : lw_okq (⟨"TaleSums$Sums", "seekFewest", "(II)I"⟩, 14) := ⟨⟨by decide +kernel, by decide +kernel⟩, List.mem_of_getElem? (i := 103) (by decide +kernel), List.mem_of_getElem? (i := 563) (by decide +kernel), List.mem_of_getElem? (i := 564) (by decide +kernel)⟩
theorem lw_p20 : lw_okq (⟨"TaleSums$Sums", "isStrange", "(III)Z"⟩, 14) := ⟨⟨by decide +kernel, by decide +kernel⟩, List.mem_of_getElem? (i := 103) (by decide +kernel), List.mem_of_getElem? (i := 592) (by decide +kernel), List.mem_of_getElem? (i := 593) (by decide +kernel)⟩
theorem lw_p21 : lw_okq (⟨"TaleSums$Changes", "dropFirst", "()V"⟩, 3) := ⟨⟨by decide +kernel, by decide +kernel⟩, List.mem_of_getElem? (i := 60) (by decide +kernel), List.mem_of_getElem? (i := 613) (by decide +kernel), List.mem_of_getElem? (i := 614) (by decide +kernel)⟩
theorem lw_p22 : lw_okq (⟨"java/lang/Throwable", "fillInStackTrace", "(I)Ljava/lang/Throwable;"⟩, 6) := ⟨⟨by decide +kernel, by decide +kernel⟩, List.mem_of_getElem? (i := 698) (by decide +kernel), List.mem_of_getElem? (i := 696) (by decide +kernel), List.mem_of_getElem? (i := 697) (by decide +kernel)⟩
theorem lw_p23 : lw_okq (⟨"TaleSumsModel", "put4", "(I)V"⟩, 27) := ⟨⟨by decide +kernel, by decide +kernel⟩, List.mem_of_getElem? (i := 723) (by decide +kernel), List.mem_of_getElem? (i := 822) (by decide +kernel), List.mem_of_getElem? (i := 823) (by decide +kernel)⟩
theorem lw_p24 : lw_okq (⟨"TaleSumsModel", "reads", "()I"⟩, 27) := ⟨⟨by decide +kernel, by decide +kernel⟩, List.mem_of_getElem? (i := 723) (by decide +kernel), List.mem_of_getElem? (i := 834) (by decide +kernel), List.mem_of_getElem? (i := 835) (by decide +kernel)⟩
theorem lw_p25 : lw_okq (⟨"TaleSumsModel", "next", "()V"⟩, 27) := ⟨⟨by decide +kernel, by decide +kernel⟩, List.mem_of_getElem? (i := 723) (by decide +kernel), List.mem_of_getElem? (i := 838) (by decide +kernel), List.mem_of_getElem? (i := 839) (by decide +kernel)⟩
theorem lw_p26 : lw_okq (⟨"TaleSumsModel", "is", "(Ljava/lang/String;)Z"⟩, 27) := ⟨⟨by decide +kernel, by decide +kernel⟩, List.mem_of_getElem? (i := 723) (by decide +kernel), List.mem_of_getElem? (i := 849) (by decide +kernel), List.mem_of_getElem? (i := 850) (by decide +kernel)⟩
theorem lw_p27 : lw_okq (⟨"TaleSumsModel", "name", "()I"⟩, 27) := ⟨⟨by decide +kernel, by decide +kernel⟩, List.mem_of_getElem? (i := 723) (by decide +kernel), List.mem_of_getElem? (i := 855) (by decide +kernel), List.mem_of_getElem? (i := 856) (by decide +kernel)⟩
theorem lw_p28 : lw_okq (⟨"TaleSumsModel", "sentence", "()Z"⟩, 27) := ⟨⟨by decide +kernel, by decide +kernel⟩, List.mem_of_getElem? (i := 723) (by decide +kernel), List.mem_of_getElem? (i := 870) (by decide +kernel), List.mem_of_getElem? (i := 871) (by decide +kernel)⟩
theorem lw_p29 : lw_okq (⟨"TaleSumsModel", "takesName", "(Z)Z"⟩, 27) := ⟨⟨by decide +kernel, by decide +kernel⟩, List.mem_of_getElem? (i := 723) (by decide +kernel), List.mem_of_getElem? (i := 874) (by decide +kernel), List.mem_of_getElem? (i := 875) (by decide +kernel)⟩
theorem lw_p30 : lw_okq (⟨"TaleSumsModel", "takes", "(Ljava/lang/String;)Z"⟩, 27) := ⟨⟨by decide +kernel, by decide +kernel⟩, List.mem_of_getElem? (i := 723) (by decide +kernel), List.mem_of_getElem? (i := 879) (by decide +kernel), List.mem_of_getElem? (i := 880) (by decide +kernel)⟩
theorem lw_p31 : lw_okq (⟨"TaleSumsModel", "takesNumber", "()Z"⟩, 27) := ⟨⟨by decide +kernel, by decide +kernel⟩, List.mem_of_getElem? (i := 723) (by decide +kernel), List.mem_of_getElem? (i := 884) (by decide +kernel), List.mem_of_getElem? (i := 885) (by decide +kernel)⟩
def lw_privs_2 : List (MethodName × Nat) := [(⟨"TaleSums$Sums", "topAt", "(III)J"⟩, 14), (⟨"TaleSums$Sums", "isSettledBy", "(I)Z"⟩, 14), (⟨"TaleSums$Sums", "factsOf", "(I)I"⟩, 14), (⟨"TaleSums$Sums", "seekFewest", "(II)I"⟩, 14), (⟨"TaleSums$Sums", "isStrange", "(III)Z"⟩, 14), (⟨"TaleSums$Changes", "dropFirst", "()V"⟩, 3), (⟨"java/lang/Throwable", "fillInStackTrace", "(I)Ljava/lang/Throwable;"⟩, 6), (⟨"TaleSumsModel", "put4", "(I)V"⟩, 27), (⟨"TaleSumsModel", "reads", "()I"⟩, 27), (⟨"TaleSumsModel", "next", "()V"⟩, 27), (⟨"TaleSumsModel", "is", "(Ljava/lang/String;)Z"⟩, 27), (⟨"TaleSumsModel", "name", "()I"⟩, 27), (⟨"TaleSumsModel", "sentence", "()Z"⟩, 27), (⟨"TaleSumsModel", "takesName", "(Z)Z"⟩, 27), (⟨"TaleSumsModel", "takes", "(Ljava/lang/String;)Z"⟩, 27), (⟨"TaleSumsModel", "takesNumber", "()Z"⟩, 27)]
theorem lw_r2 : ∀ q ∈ lw_privs_2, lw_okq q := List.forall_mem_cons.mpr ⟨lw_p16, List.forall_mem_cons.mpr ⟨lw_p17, List.forall_mem_cons.mpr ⟨lw_p18, List.forall_mem_cons.mpr ⟨lw_p19, List.forall_mem_cons.mpr ⟨lw_p20, List.forall_mem_cons.mpr ⟨lw_p21, List.forall_mem_cons.mpr ⟨lw_p22, List.forall_mem_cons.mpr ⟨lw_p23, List.forall_mem_cons.mpr ⟨lw_p24, List.forall_mem_cons.mpr ⟨lw_p25, List.forall_mem_cons.mpr ⟨lw_p26, List.forall_mem_cons.mpr ⟨lw_p27, List.forall_mem_cons.mpr ⟨lw_p28, List.forall_mem_cons.mpr ⟨lw_p29, List.forall_mem_cons.mpr ⟨lw_p30, List.forall_mem_cons.mpr ⟨lw_p31, fun _ h => absurd h List.not_mem_nil⟩⟩⟩⟩⟩⟩⟩⟩⟩⟩⟩⟩⟩⟩⟩⟩
theorem lw_p32 : lw_okq (⟨"TaleSumsModel", "number", "()I"⟩, 27) := ⟨⟨by decide +kernel, by decide +kernel⟩, List.mem_of_getElem? (i := 723) (by decide +kernel), List.mem_of_getElem? (i := 888) (by decide +kernel), List.mem_of_getElem? (i := 889) (by decide +kernel)⟩
theorem lw_p33 : lw_okq (⟨"TaleSumsModel", "takesUnit", "()Z"⟩, 27) := ⟨⟨by decide +kernel, by decide +kernel⟩, List.mem_of_getElem? (i := 723) (by decide +kernel), List.mem_of_getElem? (i := 892) (by decide +kernel), List.mem_of_getElem? (i := 893) (by decide +kernel)⟩
theorem lw_p34 : lw_okq (⟨"TaleSumsModel", "unit", "()I"⟩, 27) := ⟨⟨by decide +kernel, by decide +kernel⟩, List.mem_of_getElem? (i := 723) (by decide +kernel), List.mem_of_getElem? (i := 896) (by decide +kernel), List.mem_of_getElem? (i := 897) (by decide +kernel)⟩
theorem lw_p35 : lw_okq (⟨"TaleSumsModel", "asks", "()Z"⟩, 27) := ⟨⟨by decide +kernel, by decide +kernel⟩, List.mem_of_getElem? (i := 723) (by decide +kernel), List.mem_of_getElem? (i := 919) (by decide +kernel), List.mem_of_getElem? (i := 920) (by decide +kernel)⟩
theorem lw_p36 : lw_okq (⟨"TaleSumsModel", "of", "(II)I"⟩, 27) := ⟨⟨by decide +kernel, by decide +kernel⟩, List.mem_of_getElem? (i := 723) (by decide +kernel), List.mem_of_getElem? (i := 937) (by decide +kernel), List.mem_of_getElem? (i := 938) (by decide +kernel)⟩
theorem lw_p37 : lw_okq (⟨"TaleSumsModel", "quarrelAt", "()I"⟩, 27) := ⟨⟨by decide +kernel, by decide +kernel⟩, List.mem_of_getElem? (i := 723) (by decide +kernel), List.mem_of_getElem? (i := 949) (by decide +kernel), List.mem_of_getElem? (i := 950) (by decide +kernel)⟩
theorem lw_p38 : lw_okq (⟨"TaleSumsModel", "isFact", "(I)Z"⟩, 27) := ⟨⟨by decide +kernel, by decide +kernel⟩, List.mem_of_getElem? (i := 723) (by decide +kernel), List.mem_of_getElem? (i := 953) (by decide +kernel), List.mem_of_getElem? (i := 954) (by decide +kernel)⟩
theorem lw_p39 : lw_okq (⟨"TaleSumsModel", "gather", "(II)Z"⟩, 27) := ⟨⟨by decide +kernel, by decide +kernel⟩, List.mem_of_getElem? (i := 723) (by decide +kernel), List.mem_of_getElem? (i := 957) (by decide +kernel), List.mem_of_getElem? (i := 958) (by decide +kernel)⟩
theorem lw_p40 : lw_okq (⟨"TaleSumsModel", "law", "(I)V"⟩, 27) := ⟨⟨by decide +kernel, by decide +kernel⟩, List.mem_of_getElem? (i := 723) (by decide +kernel), List.mem_of_getElem? (i := 961) (by decide +kernel), List.mem_of_getElem? (i := 962) (by decide +kernel)⟩
theorem lw_p41 : lw_okq (⟨"TaleSumsModel", "more", "(III)I"⟩, 27) := ⟨⟨by decide +kernel, by decide +kernel⟩, List.mem_of_getElem? (i := 723) (by decide +kernel), List.mem_of_getElem? (i := 965) (by decide +kernel), List.mem_of_getElem? (i := 966) (by decide +kernel)⟩
theorem lw_p42 : lw_okq (⟨"TaleSumsModel", "adds", "()Z"⟩, 27) := ⟨⟨by decide +kernel, by decide +kernel⟩, List.mem_of_getElem? (i := 723) (by decide +kernel), List.mem_of_getElem? (i := 970) (by decide +kernel), List.mem_of_getElem? (i := 971) (by decide +kernel)⟩
theorem lw_p43 : lw_okq (⟨"TaleSumsModel", "hasAnswer", "()Z"⟩, 27) := ⟨⟨by decide +kernel, by decide +kernel⟩, List.mem_of_getElem? (i := 723) (by decide +kernel), List.mem_of_getElem? (i := 984) (by decide +kernel), List.mem_of_getElem? (i := 985) (by decide +kernel)⟩
theorem lw_p44 : lw_okq (⟨"TaleSumsModel", "all", "()I"⟩, 27) := ⟨⟨by decide +kernel, by decide +kernel⟩, List.mem_of_getElem? (i := 723) (by decide +kernel), List.mem_of_getElem? (i := 988) (by decide +kernel), List.mem_of_getElem? (i := 989) (by decide +kernel)⟩
theorem lw_p45 : lw_okq (⟨"TaleSumsModel", "answersBy", "(I)Z"⟩, 27) := ⟨⟨by decide +kernel, by decide +kernel⟩, List.mem_of_getElem? (i := 723) (by decide +kernel), List.mem_of_getElem? (i := 992) (by decide +kernel), List.mem_of_getElem? (i := 993) (by decide +kernel)⟩
theorem lw_p46 : lw_okq (⟨"TaleSumsModel", "settles", "(II)Z"⟩, 27) := ⟨⟨by decide +kernel, by decide +kernel⟩, List.mem_of_getElem? (i := 723) (by decide +kernel), List.mem_of_getElem? (i := 996) (by decide +kernel), List.mem_of_getElem? (i := 997) (by decide +kernel)⟩
theorem lw_p47 : lw_okq (⟨"TaleSumsModel", "part", "(I)J"⟩, 27) := ⟨⟨by decide +kernel, by decide +kernel⟩, List.mem_of_getElem? (i := 723) (by decide +kernel), List.mem_of_getElem? (i := 1001) (by decide +kernel), List.mem_of_getElem? (i := 1002) (by decide +kernel)⟩
def lw_privs_3 : List (MethodName × Nat) := [(⟨"TaleSumsModel", "number", "()I"⟩, 27), (⟨"TaleSumsModel", "takesUnit", "()Z"⟩, 27), (⟨"TaleSumsModel", "unit", "()I"⟩, 27), (⟨"TaleSumsModel", "asks", "()Z"⟩, 27), (⟨"TaleSumsModel", "of", "(II)I"⟩, 27), (⟨"TaleSumsModel", "quarrelAt", "()I"⟩, 27), (⟨"TaleSumsModel", "isFact", "(I)Z"⟩, 27), (⟨"TaleSumsModel", "gather", "(II)Z"⟩, 27), (⟨"TaleSumsModel", "law", "(I)V"⟩, 27), (⟨"TaleSumsModel", "more", "(III)I"⟩, 27), (⟨"TaleSumsModel", "adds", "()Z"⟩, 27), (⟨"TaleSumsModel", "hasAnswer", "()Z"⟩, 27), (⟨"TaleSumsModel", "all", "()I"⟩, 27), (⟨"TaleSumsModel", "answersBy", "(I)Z"⟩, 27), (⟨"TaleSumsModel", "settles", "(II)Z"⟩, 27), (⟨"TaleSumsModel", "part", "(I)J"⟩, 27)]
theorem lw_r3 : ∀ q ∈ lw_privs_3, lw_okq q := List.forall_mem_cons.mpr ⟨lw_p32, List.forall_mem_cons.mpr ⟨lw_p33, List.forall_mem_cons.mpr ⟨lw_p34, List.forall_mem_cons.mpr ⟨lw_p35, List.forall_mem_cons.mpr ⟨lw_p36, List.forall_mem_cons.mpr ⟨lw_p37, List.forall_mem_cons.mpr ⟨lw_p38, List.forall_mem_cons.mpr ⟨lw_p39, List.forall_mem_cons.mpr ⟨lw_p40, List.forall_mem_cons.mpr ⟨lw_p41, List.forall_mem_cons.mpr ⟨lw_p42, List.forall_mem_cons.mpr ⟨lw_p43, List.forall_mem_cons.mpr ⟨lw_p44, List.forall_mem_cons.mpr ⟨lw_p45, List.forall_mem_cons.mpr ⟨lw_p46, List.forall_mem_cons.mpr ⟨lw_p47, fun _ h => absurd h List.not_mem_nil⟩⟩⟩⟩⟩⟩⟩⟩⟩⟩⟩⟩⟩⟩⟩⟩
theorem lw_p48 : lw_okq (⟨"TaleSumsModel", "stages", "()I"⟩, 27) := ⟨⟨by decide +kernel, by decide +kernel⟩, List.mem_of_getElem? (i := 723) (by decide +kernel), List.mem_of_getElem? (i := 1009) (by decide +kernel), List.mem_of_getElem? (i := 1010) (by decide +kernel)⟩
theorem lw_p49 : lw_okq (⟨"TaleSumsModel", "amounts", "(III)Z"⟩, 27) := ⟨⟨by decide +kernel, by decide +kernel⟩, List.mem_of_getElem? (i := 723) (by decide +kernel), List.mem_of_getElem? (i := 1013) (by decide +kernel), List.mem_of_getElem? (i := 1014) (by decide +kernel)⟩
theorem lw_p50 : lw_okq (⟨"TaleSumsModel", "facts", "()I"⟩, 27) := ⟨⟨by decide +kernel, by decide +kernel⟩, List.mem_of_getElem? (i := 723) (by decide +kernel), List.mem_of_getElem? (i := 1025) (by decide +kernel), List.mem_of_getElem? (i := 1026) (by decide +kernel)⟩
def lw_privs_4 : List (MethodName × Nat) := [(⟨"TaleSumsModel", "stages", "()I"⟩, 27), (⟨"TaleSumsModel", "amounts", "(III)Z"⟩, 27), (⟨"TaleSumsModel", "facts", "()I"⟩, 27)]
theorem lw_r4 : ∀ q ∈ lw_privs_4, lw_okq q := List.forall_mem_cons.mpr ⟨lw_p48, List.forall_mem_cons.mpr ⟨lw_p49, List.forall_mem_cons.mpr ⟨lw_p50, fun _ h => absurd h List.not_mem_nil⟩⟩⟩
def lw_privs : List (MethodName × Nat) := lw_privs_1 ++ (lw_privs_2 ++ (lw_privs_3 ++ (lw_privs_4)))
def lw_tbl : List Cond := k2_sels lw_privs ++ tables_1
theorem lw_privs_ok : ∀ q ∈ lw_privs, lw_okq q := by
  show ∀ q ∈ lw_privs_1 ++ (lw_privs_2 ++ (lw_privs_3 ++ (lw_privs_4))), lw_okq q
  exact List.forall_mem_append.mpr ⟨lw_r1, List.forall_mem_append.mpr ⟨lw_r2, List.forall_mem_append.mpr ⟨lw_r3, lw_r4⟩⟩⟩
end
section
/-- what the tables say of the class of arrays of arrays (a word that the printed rows below use and do not define) -/
def va_AOA (t : FieldType) (U : State) : Prop := (Cond.arrayOver (.array t)).before #[] U = true
theorem va_AOA.use {t : FieldType} {A : Array Value} {U : State} (h : va_AOA t U) : (Cond.arrayOver (.array t)).before A U = true := h
/-! ===== BEGIN words of one list among another's, by their places ===== -/
theorem goodIn_r {big : List Cond} (ws : List Cond) (ps : List Nat) (hp : ws = ps.filterMap (fun i => big[i]?)) (h : ws.all goodWord = true) : GoodIn big ws := by
  intro w hw
  have h1 := List.all_eq_true.mp h w hw
  rw [hp] at hw
  obtain ⟨i, -, hi⟩ := List.mem_filterMap.mp hw
  have hm : w ∈ big := by first | exact List.mem_of_getElem? hi | exact List.getElem?_mem hi
  exact ⟨hm, good_of_word h1⟩
theorem goodIn_app {big a b : List Cond} (ha : GoodIn big a) (hb : GoodIn big b) : GoodIn big (a ++ b) := fun w h => (List.mem_append.mp h).elim (ha w) (hb w)
theorem goodIn_ca {big a b : List Cond} {c : Cond} (ha : GoodIn big (c :: a)) (hb : GoodIn big b) : GoodIn big (c :: (a ++ b)) := fun w h => (List.mem_cons.mp h).elim (fun e => ha w (List.mem_cons.mpr (Or.inl e))) (fun h => (List.mem_append.mp h).elim (fun h => ha w (List.mem_cons.mpr (Or.inr h))) (hb w))
theorem goodIn_sub {big ws : List Cond} (hm : ∀ w ∈ ws, w ∈ big) (h : ws.all goodWord = true) : GoodIn big ws := fun w hw => ⟨hm w hw, good_of_word (List.all_eq_true.mp h w hw)⟩
/-! ===== END ===== -/

/-! ===== BEGIN new T[n][m]: the outer array a place, the inner ones among the pooled ===== -/
/-- f, but v at every address of l -/
def vr_up {α : Type} (f : Nat → α) (l : List Nat) (v : α) : Nat → α := fun a => if a ∈ l then v else f a
theorem vr_up_in {α : Type} {f : Nat → α} {l : List Nat} {v : α} {a : Nat} (h : a ∈ l) : vr_up f l v a = v := if_pos h
theorem vr_up_ne {α : Type} {f : Nat → α} {l : List Nat} {v : α} {a : Nat} (h : a ∉ l) : vr_up f l v a = f a := if_neg h
theorem vr_rows {L l : List Nat} {f : Nat → va_E} {e : va_E} (h : ∀ a, a ∈ l → a ∉ L) : va_pl L f ++ l.map (fun a => (a, e)) = va_pl (L ++ l) (vr_up f l e) := by
  unfold va_pl
  rw [List.map_append]
  congr 1
  · apply List.map_congr_left
    intro a ha
    rw [vr_up_ne (fun q => h a q ha)]
  · apply List.map_congr_left
    intro a ha
    rw [vr_up_in ha]
theorem vr_lay {X rows : va_W} {x : Nat × va_E} {pl : va_W} {D : va_G} {cl : List vw_C} {H : Heap} (hP : va_P D cl (((X ++ pl) ++ [x]) ++ rows) H) : va_P D cl ((X ++ [x]) ++ (pl ++ rows)) H := by
  rw [List.append_assoc (X ++ pl)] at hP
  have h := va_P.swap hP
  rw [← List.append_assoc X] at h
  have h2 := va_P.swap h
  rw [List.append_assoc (X ++ [x])] at h2
  exact h2
theorem vr_layD {X rows : va_W} {x : Nat × va_E} {pl : va_W} {A : Nat → Prop} (hD : va_D A (((X ++ pl) ++ [x]) ++ rows)) : va_D A ((X ++ [x]) ++ (pl ++ rows)) := by
  rw [List.append_assoc (X ++ pl)] at hD
  have h := va_D.swap hD
  rw [← List.append_assoc X] at h
  have h2 := va_D.swap h
  rw [List.append_assoc (X ++ [x])] at h2
  exact h2
theorem vr_outer (c : ClassId) (N h0 : Nat) : ∀ i : Nat, Jvm.Free.Multi.outerC c N h0 i = arrV c N (fun j => va_rf (if j < i then some (h0 + 1 + j) else none))
  | 0 => by
    show ({ cls := c, slots := Array.replicate N .null, vm := .none } : Cell) = _
    rw [arrV_new]
    refine congrArg (arrV c N) (funext fun j => ?_)
    simp [va_rf]
  | i + 1 => by
    show (Jvm.Free.Multi.outerC c N h0 i).setSlot i (.ref (h0 + 1 + i)) = _
    rw [vr_outer c N h0 i, arrV_store]
    refine congrArg (arrV c N) (funext fun j => ?_)
    by_cases e : j = i
    · subst e
      simp [updV, va_rf]
    · by_cases h : j < i
      · simp [updV, e, h, Nat.lt_succ_of_lt h]
      · simp [updV, e, h, show ¬ j < i + 1 by omega]
section VGM
variable {p : Program} {l : Launch} {e : Env} {R : Room} {s : State} {m : MethodId} {args : Array Value} {below : List Frame} {meth : Method} {c : Code} {H : Heap} {locs : List Loc} {cells slots : Nat} {Q : State → Prop}
variable {cc : ByteArray} {pc : Nat} {ls : Array Slot} {rest : List Value} {D : va_G} {cl : List vw_C} {A : Nat → Prop} {a : Nat} {tys : List (ClassId × FieldType)} {ws : va_W} {H0 : Heap}
theorem va_mna {X : va_W} {L : List Nat} {f : Nat → va_E} {cc : ByteArray} (hexec : p.tables.exec = Jvm.exec) (hb : c.code = cc) {own : String} {index : Nat} {ty : FieldType} {cy : ClassId} (hown : s.vm.findClass own = some m.cls) (hclink : (Cond.classLink own index ("[" ++ (FieldType.array ty).toString)).before args s = true) (hover : va_AOA ty s) (harr : (Cond.arrayClass ty).before args s = true) (hcy : s.vm.findClass (FieldType.array ty).toString = some cy)
    (hK : va_K D cl tys s) (hP : va_P D cl (X ++ va_pl L f) H) (hD : va_D A (X ++ va_pl L f)) (hS : va_S A H0 H locs) (hA : ∀ q, H0.size ≤ q → A q) {n k : Int32} {N' K' : Nat} {z : vp_A} (hn : ¬ n < 0) (hk : ¬ k < 0) (hN : n.toNatClampNeg = N') (hM : k.toNatClampNeg = K')
    (hb1 : N' * 4 ≤ 536870912) (hb2 : K' * componentBytes ty ≤ 536870912) (hb3 : K' ≤ 536870912) (hdf : fits ty (defaultValue ty) = true) (hdd : (defaultValue ty).isDefault = true) (hcells : cells + (1 + N') ≤ R.cells) (hslots : slots + (N' + N' * K') ≤ R.slots) (hz : ∀ c : ClassId, Jvm.Free.Multi.innerC c K' (defaultValue ty) = vp_cell c z) (hdg : decode cc pc = .ok (.multianewarray index 2, 4))
    (kk : ∀ (q : Nat) (r : Nat → Nat) (cA : ClassId) (H1 : Heap), (∀ i j : Nat, i < N' → j < N' → r i = r j → i = j) → (∀ i : Nat, i < N' → r i ∉ L) → va_K D cl (tys ++ [(cA, .array ty)]) s →
      va_P D cl ((X ++ [(q, .inl (cA, N', .inr (.inr (.inr (.inr (fun i => if i < N' then some (r i) else none))))))]) ++ va_pl (L ++ (List.range N').map r) (vr_up f ((List.range N').map r) (.inl (cy, z)))) H1 → va_D A ((X ++ [(q, .inl (cA, N', .inr (.inr (.inr (.inr (fun i => if i < N' then some (r i) else none))))))]) ++ va_pl (L ++ (List.range N').map r) (vr_up f ((List.range N').map r) (.inl (cy, z)))) → va_S A H0 H1 locs →
      W p l e R s m args below meth c H1 locs (cells + 1 + N') (slots + N' + N' * K') Q (F0 m (pc + 4) ls (.ref q :: rest))) : W p l e R s m args below meth c H locs cells slots Q (F0 m pc ls (.int k :: .int n :: rest)) := by
  subst hN
  subst hM
  intro T hT Xs
  obtain ⟨vm₁, cA, comp, -, fA, fC, hO, -, X', step⟩ := Xs.multianewarray2F hexec hown hclink (va_AOA.use hover) harr (g := F0 m pc ls (.int k :: .int n :: rest)) rfl (by rw [hb]; exact hdg) rfl hn hk hb1 hb2 hb3 hdf hdd hcells hslots
  have ec : some cy = some comp := hcy.symm.trans fC
  cases ec
  generalize hF : Jvm.Free.Multi.fill (T.setVm vm₁) cA cy n.toNatClampNeg k.toNatClampNeg (defaultValue ty) n.toNatClampNeg = F at X' step
  have hTh : (T.setVm vm₁).heap = H := hT
  obtain ⟨f1, f2, -, -⟩ := Jvm.Free.Multi.fill_facts (T.setVm vm₁) cA cy n.toNatClampNeg k.toNatClampNeg (defaultValue ty) n.toNatClampNeg
  rw [hF, hTh] at f1 f2
  have hold : ∀ x : Nat, x < H.size → F.heap[x]? = H[x]? := fun x hx => by
    have := Jvm.Free.Multi.fill_old (T.setVm vm₁) cA cy n.toNatClampNeg k.toNatClampNeg (defaultValue ty) (a := x) (by rw [hTh]; exact hx) n.toNatClampNeg
    rw [hF, hTh] at this
    exact this
  have hrow : ∀ j : Nat, j < n.toNatClampNeg → F.heap[H.size + 1 + j]? = some (vp_cell cy z) := fun j hj => by
    have := Jvm.Free.Multi.fill_inner (T.setVm vm₁) cA cy n.toNatClampNeg k.toNatClampNeg (defaultValue ty) n.toNatClampNeg j hj
    rw [hF, hTh, hz] at this
    exact this
  have hout : Jvm.Free.Multi.outerC cA n.toNatClampNeg H.size n.toNatClampNeg = vp_cell cA (n.toNatClampNeg, .inr (.inr (.inr (.inr (fun i => if i < n.toNatClampNeg then some (H.size + 1 + i) else none))))) := by
    rw [vp_cell_q]
    exact vr_outer cA n.toNatClampNeg H.size n.toNatClampNeg
  rw [hout] at f2
  have hlt : ∀ a, a ∈ L → a < H.size := fun a ha => by
    obtain ⟨k9, hk9⟩ := va_pl_get (X := X) (f := f) ha
    exact (hP k9 _ hk9).lt
  have hnl : ∀ i : Nat, i < n.toNatClampNeg → H.size + 1 + i ∉ L := fun i _ h => by
    have := hlt _ h
    omega
  have hnm : ∀ a, a ∈ (List.range n.toNatClampNeg).map (fun i => H.size + 1 + i) → a ∉ L := fun a ha h => by
    obtain ⟨i, -, rfl⟩ := List.mem_map.mp ha
    have := hlt _ h
    omega
  have hP0 : va_P D cl (X ++ va_pl L f) F.heap := hP.kept (fun k9 x hx => hold x.1 ((hP k9 x hx).lt))
  have hP1 : va_P D cl ((X ++ va_pl L f) ++ [(H.size, .inl (cA, n.toNatClampNeg, .inr (.inr (.inr (.inr (fun i => if i < n.toNatClampNeg then some (H.size + 1 + i) else none))))))]) F.heap := hP0.app (fun k9 x hx => by
    have h0 : k9 < 1 := (List.getElem?_eq_some_iff.mp hx).1
    rw [show k9 = 0 by omega] at hx
    cases hx
    exact f2)
  have hP2 : va_P D cl (((X ++ va_pl L f) ++ [(H.size, .inl (cA, n.toNatClampNeg, .inr (.inr (.inr (.inr (fun i => if i < n.toNatClampNeg then some (H.size + 1 + i) else none))))))]) ++ ((List.range n.toNatClampNeg).map (fun i => H.size + 1 + i)).map (fun a => (a, .inl (cy, z)))) F.heap := hP1.app (fun k9 x hx => by
    obtain ⟨a, ha, rfl⟩ := List.mem_map.mp (List.mem_of_getElem? hx)
    obtain ⟨i, hi, rfl⟩ := List.mem_map.mp ha
    exact hrow i (List.mem_range.mp hi))
  have hD2 : va_D A (((X ++ va_pl L f) ++ [(H.size, .inl (cA, n.toNatClampNeg, .inr (.inr (.inr (.inr (fun i => if i < n.toNatClampNeg then some (H.size + 1 + i) else none))))))]) ++ ((List.range n.toNatClampNeg).map (fun i => H.size + 1 + i)).map (fun a => (a, .inl (cy, z)))) := by
    have hD1 := hD.push (e := .inl (cA, n.toNatClampNeg, .inr (.inr (.inr (.inr (fun i => if i < n.toNatClampNeg then some (H.size + 1 + i) else none)))))) hP rfl (hA _ hS.1)
    generalize hW1 : (X ++ va_pl L f) ++ [(H.size, .inl (cA, n.toNatClampNeg, .inr (.inr (.inr (.inr (fun i => if i < n.toNatClampNeg then some (H.size + 1 + i) else none))))))] = W1 at hD1 hP1 ⊢
    have hle : ∀ (k9 : Nat) (x : Nat × va_E), W1[k9]? = some x → x.1 ≤ H.size := fun k9 x hx => by
      rw [← hW1] at hx
      by_cases hl : k9 < (X ++ va_pl L f).length
      · rw [List.getElem?_append_left hl] at hx
        exact Nat.le_of_lt ((hP k9 x hx).lt)
      · rw [List.getElem?_append_right (by omega)] at hx
        have h0 : k9 - (X ++ va_pl L f).length < 1 := (List.getElem?_eq_some_iff.mp hx).1
        rw [show k9 - (X ++ va_pl L f).length = 0 by omega] at hx
        cases hx
        exact Nat.le_refl _
    have hr : ∀ (k9 : Nat) (x : Nat × va_E), (((List.range n.toNatClampNeg).map (fun i => H.size + 1 + i)).map (fun a => ((a, .inl (cy, z)) : Nat × va_E)))[k9]? = some x → x.1 = H.size + 1 + k9 := fun k9 x hx => by
      rw [List.getElem?_map, List.getElem?_map] at hx
      by_cases h9 : k9 < n.toNatClampNeg
      · rw [List.getElem?_range h9] at hx
        cases hx
        rfl
      · have hn0 : (List.range n.toNatClampNeg)[k9]? = none := List.getElem?_eq_none (by rw [List.length_range]; omega)
        rw [hn0] at hx
        cases hx
    refine ⟨fun i j x y hi hj hxy => ?_, fun k9 x hx => ?_⟩
    · by_cases h1 : i < W1.length <;> by_cases h2 : j < W1.length
      · rw [List.getElem?_append_left h1] at hi
        rw [List.getElem?_append_left h2] at hj
        exact hD1.1 i j x y hi hj hxy
      · rw [List.getElem?_append_left h1] at hi
        rw [List.getElem?_append_right (by omega)] at hj
        have := hle _ _ hi
        have := hr _ _ hj
        omega
      · rw [List.getElem?_append_right (by omega)] at hi
        rw [List.getElem?_append_left h2] at hj
        have := hle _ _ hj
        have := hr _ _ hi
        omega
      · rw [List.getElem?_append_right (by omega)] at hi hj
        have := hr _ _ hi
        have := hr _ _ hj
        omega
    · by_cases h1 : k9 < W1.length
      · rw [List.getElem?_append_left h1] at hx
        exact hD1.2 k9 x hx
      · rw [List.getElem?_append_right (by omega)] at hx
        have := hr _ _ hx
        exact hA _ (by have := hS.1; omega)
  have hAr : ArrOfT s cA (.array ty) := fun N9 z9 => by
    obtain ⟨-, k9, hk9, cm9, hkk9⟩ := (hO 0 0 0).1
    exact ⟨(fun q hq => by cases hq), k9, hk9, cm9, hkk9⟩
  have hK2 : va_K D cl (tys ++ [(cA, .array ty)]) s := ⟨hK.1, fun k9 x hx => by
    by_cases hl : k9 < tys.length
    · rw [List.getElem?_append_left hl] at hx
      exact hK.2 k9 x hx
    · rw [List.getElem?_append_right (by omega)] at hx
      have h0 : k9 - tys.length < 1 := (List.getElem?_eq_some_iff.mp hx).1
      rw [show k9 - tys.length = 0 by omega] at hx
      cases hx
      exact ⟨hAr, fA⟩⟩
  obtain ⟨t, a1, b1⟩ := kk H.size (fun i => H.size + 1 + i) cA F.heap (fun i j _ _ h => by have h9 : H.size + 1 + i = H.size + 1 + j := h; omega) hnl hK2 (by rw [← vr_rows hnm]; exact vr_lay hP2) (by rw [← vr_rows hnm]; exact vr_layD hD2) ⟨by rw [f1]; have := hS.1; omega, fun x h1 h2 => (hold x (Nat.lt_of_lt_of_le h1 hS.1)).trans (hS.2.1 x h1 h2), hS.2.2⟩ F rfl X'
  refine ⟨t, step t ?_, b1⟩
  have e : T.heap.size = H.size := by rw [hT]
  rw [e]
  exact a1
end VGM
/-! ===== END ===== -/

/-! ===== BEGIN exceptions that leave a method, and their catching by the caller (launches without stack traces) ===== -/
section VXA
/-! The laws vx_back, vx_callV, vx_callS, vx_callSW, vx_throw0, vx_throwS follow proofs of the library, with one case more: JvmDerived/Free/Laws.lean (Back.of_free), Shelf42/LK1.lean (callV, callS), Shelf/KitTraced.lean (throwNew0V, throwNewS). -/
/-- where a method has thrown q: the class by its name, the cell, what was written, the world -/
def vx_T (XC : String → State → State → Prop) (st : State) (q : Addr) (t : State) (mc ms : Nat) (free : Addr → Prop) : Prop :=
  ∃ (E : String) (ce : Cell) (L : List Loc), XC E st t ∧ t.heap[q]? = some ce ∧ ce.vm = .none ∧ st.vm.findClass E = some ce.cls ∧ st.WarmedH t.vm ∧ st.sameButNew ({ t with vm := st.vm } : State) L mc ms ∧ ∀ z ∈ L, free z.base
def vx_Q (Qc : Array Value → State → Outcome → State → Prop) (XC : String → State → State → Prop) (mc ms : Nat) (free : Addr → Prop) : Array Value → State → Outcome → State → Prop := fun a st o t =>
  (Qc a st o t ∧ ∃ L, FrameEnd st o t L mc ms ∧ ∀ q ∈ L, free q.base) ∨ ∃ q, o = .threw q ∧ vx_T XC st q t mc ms free
/-- a callee that returns or throws -/
def vx_Met (l : Launch) (y : MethodName) (ws : List Cond) (rm : Room) (Pc : Array Value → State → Prop) (Qc : Array Value → State → Outcome → State → Prop) (XC : String → State → State → Prop) (mc ms : Nat) (free : Addr → Prop) : Prop :=
  MetFree l y (headSpec ws rm) Pc (fun _ _ _ _ _ => True) (vx_Q Qc XC mc ms free)
def vx_Post (XC : String → State → State → Prop) (mc ms : Nat) (free : Addr → Prop) : Pt → Array Value → Addr → Pt → Prop := fun A a q B =>
  ∃ (g : JFrame) (mk : MethodId) (t : State) (L : List Loc) (E : String) (ce : Cell), B.U.heap = t.heap ∧ B.U.vm = t.vm ∧ XC E (A.U.calling g mk a) t ∧ t.heap[q]? = some ce ∧ ce.vm = .none ∧ A.U.vm.findClass E = some ce.cls ∧ B.locs = A.locs ++ L ∧ (∀ z ∈ L, free z.base) ∧ B.cells = A.cells + mc ∧ B.slots = A.slots + ms
def vx_Back (l : Launch) (R : Room) (p : Program) (e : Env) (below : List Frame) (s : State) (sargs : Array Value) (y : MethodName) (len W9 : Nat)
    (Pre : Pt → Array Value → Prop) (Post : Pt → Array Value → Option Value → Pt → Prop) (PostX : Pt → Array Value → Addr → Pt → Prop) : Prop :=
  ∀ (m : MethodId) (meth : Method) (c : Code) (A : Pt) (g : JFrame) (ig : Instr) (mk : MethodId) (a : Array Value),
    Stand p l e R s m sargs below meth c A.U A.locs A.cells A.slots → g.method = m → g.locals.size = c.maxLocals → decode c.code g.pc = .ok (ig, len) →
    2 * g.monitorRoom + (g.stack.map fun v => v.category).sum ≤ W9 → A.U.methodNamed? y = some mk → Pre A a →
    (∃ (v : Option Value) (B : Pt), Stand p l e R s m sargs below meth c B.U B.locs B.cells B.slots ∧ Post A a v B ∧
      Steps p.tables e below (doInvoke e (A.U.setTop g) [] mk a).1 (B.U.setTop { g with pc := g.pc + len, stack := v.toList ++ g.stack })) ∨
    (∃ (q : Addr) (B : Pt), Stand p l e R s m sargs below meth c B.U B.locs B.cells B.slots ∧ PostX A a q B ∧
      Steps p.tables e below (doInvoke e (A.U.setTop g) [] mk a).1 ((B.U.setTop g).pushFrame (.throwing q)))
section Payer
variable {l : Launch} {R : Room} {p : Program} {e : Env} {below : List Frame} {s : State} {sargs : Array Value} {y : MethodName} {len W9 : Nat}
theorem vx_back {ws : List Cond} {rm : Room} {Pc : Array Value → State → Prop} {Qc : Array Value → State → Outcome → State → Prop} {XC : String → State → State → Prop} {mc ms : Nat} {free : Addr → Prop} {bytes : ByteArray} {maxL : Nat} {ret : Option FieldType}
    (hM : vx_Met l y ws rm Pc Qc XC mc ms free) (hblind : FrameBlind Pc) (hrc : rm.cells = mc) (hrs : rm.slots = ms)
    (hframes : rm.frames + 1 ≤ R.frames) (hlocals : W9 + (maxL + 11) + rm.locals ≤ R.locals)
    (hws : ∀ w ∈ ws, ∀ a' U, s.WarmedH U.vm → w.before a' U = true) (hcode : Cond.code y bytes maxL ret ∈ ws) (hinit : ∀ a' U, s.WarmedH U.vm → (Cond.initialized y.cls).before a' U = true) :
    vx_Back l R p e below s sargs y len W9 (PreOf R mc ms Pc) (PostOf Qc mc ms free) (vx_Post XC mc ms free) := by
  intro m meth c A g ig mk a X hg hsize hdg hW hn hp
  have h1 : (headSpec ws rm).pre.before a A.U = true := atoms_intro fun w hw => hws w hw _ _ X.warmed
  have h2 : (Cond.code y bytes maxL ret).before a A.U = true := hws _ hcode _ _ X.warmed
  have h3 : (Cond.initialized y.cls).before a A.U = true := hinit _ _ X.warmed
  have h4 : A.cells + (headSpec ws rm).room.cells ≤ R.cells := by rw [show (headSpec ws rm).room.cells = mc from hrc]; exact hp.1
  have h5 : A.slots + (headSpec ws rm).room.slots ≤ R.slots := by rw [show (headSpec ws rm).room.slots = ms from hrs]; exact hp.2.1
  have hPc : Pc a (A.U.calling g mk a) := hblind _ _ _ _ hp.2.2
  obtain ⟨U, Ls, c0, s0⟩ := A
  dsimp only [Pt.U, Pt.locs, Pt.cells, Pt.slots] at h1 h2 h3 h4 h5 X hn hPc ⊢
  obtain ⟨methY, cY, hmY, hcY, -, hlY, -, -, -, -⟩ := Cond.code_spec hn h2
  obtain ⟨kY, hkY, -⟩ := className_of_methodNamed hn
  have hinitY : kY.init = .initialized := Cond.initialized_spec (findClass_of_methodNamed hn) hkY h3
  have h : At U g.method c below := by rw [hg]; exact X.here
  have hlocals9 : W9 + (maxL + 11) + (headSpec ws rm).room.locals ≤ R.locals := hlocals
  have happ : (headSpec ws rm).appliesLoose y e.platform (U.calling g mk a) = true :=
    Spec.appliesLoose_calling (g := g) h hdg hn hkY hinitY
      (X.room_calling (g := g) (R' := (headSpec ws rm).room) hsize hmY hcY hframes (by rw [hlY]; omega) h4 h5) h1
  obtain ⟨mid, hmid⟩ := h.above
  have hfr : (U.setTop g).frames = (.java g :: mid) ++ below := by rw [State.frames_setTop' g h.top, hmid]; rfl
  obtain ⟨o, s₂, hsteps, -, hend, hq⟩ := Steps.callFree hM p X.admits X.cas X.clock (acts := []) hfr happ hPc trivial
  have hq' : vx_Q Qc XC mc ms free a (U.calling g mk a) o s₂ := hq
  rw [State.frames_setTop' g h.top] at hend
  obtain ⟨g₀, hg0⟩ := Option.isSome_iff_exists.mp h.top
  obtain ⟨r, hr⟩ := State.topJava?_eq_some.mp hg0
  have hr' : (({ U with heap := s₂.heap, slotsUsed := s₂.slotsUsed } : State).setVm s₂.vm).frames = .java g₀ :: r := hr
  rcases hq' with ⟨hqc, L, hfe, hL⟩ | ⟨q, rfl, E, ce, L, hx, hce, hcv, hcl, hW₂, hsm, hL⟩
  · obtain ⟨⟨v, rfl⟩, hW₂, e2, q2, q3, q4, q5, q6⟩ := id hfe
    have e3 : s₂ = ({ (U.calling g mk a).setFrames s₂.frames with heap := s₂.heap, slotsUsed := s₂.slotsUsed } : State).setVm s₂.vm := by
      have : s₂ = ({ s₂ with vm := (U.calling g mk a).vm } : State).setVm s₂.vm := rfl
      rw [e2] at this
      exact this
    obtain ⟨c₂, i₂, len₂, hc₂, hd₂, hf₂⟩ := hend
    have hW' : U.WarmedH s₂.vm := hW₂
    have hcc : c₂ = c := by
      have h1 : s₂.code? g.method = U.code? g.method := by
        rw [State.code?_eq, State.code?_eq, hW'.alike.method?]
      exact Option.some.inj (hc₂.symm.trans (h1.trans h.code))
    subst hcc
    have hlen : len₂ = len := by rw [hdg] at hd₂; cases hd₂; rfl
    subst hlen
    have hs₂ : s₂ = (({ U with heap := s₂.heap, slotsUsed := s₂.slotsUsed } : State).setVm s₂.vm).setTop { g with pc := g.pc + len₂, stack := v.toList ++ g.stack } := by
      refine e3.trans ?_
      rw [hf₂, State.calling_eq h.top, State.setFrames_setFrames, State.setTop_of_frames _ hr', hr]
      rfl
    have hsame : U.sameButNew ({ U with heap := s₂.heap, slotsUsed := s₂.slotsUsed } : State) L mc ms := by
      refine ⟨?_, q2, q3, q4, q5, q6⟩
      obtain ⟨t, ht, -⟩ := State.frames_cons hr
      show ({ U with heap := s₂.heap, slotsUsed := s₂.slotsUsed } : State) = { U.setFrames U.frames with heap := s₂.heap, slotsUsed := s₂.slotsUsed }
      rw [State.setFrames_self ht]
    subst hg
    refine Or.inl ⟨v, ⟨(({ U with heap := s₂.heap, slotsUsed := s₂.slotsUsed } : State).setVm s₂.vm), Ls ++ L, c0 + mc, s0 + ms⟩,
      ⟨X.admits, X.cas, X.clock, X.frames, X.room, X.hears, X.method, X.code, (X.here.setHeapUsed s₂.heap s₂.slotsUsed).setVm hW'.alike, X.tail, State.WarmedH.trans X.warmed hW', X.limits, X.bytes, X.same.trans (hsame.setVm s.vm)⟩,
      ⟨g, mk, s₂, L, rfl, rfl, hqc, rfl, hL, rfl, rfl⟩, ?_⟩
    show Steps p.tables e below _ ((({ U with heap := s₂.heap, slotsUsed := s₂.slotsUsed } : State).setVm s₂.vm).setTop { g with pc := g.pc + len₂, stack := v.toList ++ g.stack })
    rw [← hs₂]
    exact hsteps
  · obtain ⟨e2, q2, q3, q4, q5, q6⟩ := id hsm
    have e3 : s₂ = ({ (U.calling g mk a).setFrames s₂.frames with heap := s₂.heap, slotsUsed := s₂.slotsUsed } : State).setVm s₂.vm := by
      have : s₂ = ({ s₂ with vm := (U.calling g mk a).vm } : State).setVm s₂.vm := rfl
      rw [e2] at this
      exact this
    have hf₂ : s₂.frames = .throwing q :: .java g :: U.frames.tail := hend
    have hW' : U.WarmedH s₂.vm := hW₂
    have hs₂ : s₂ = ((({ U with heap := s₂.heap, slotsUsed := s₂.slotsUsed } : State).setVm s₂.vm).setTop g).pushFrame (.throwing q) := by
      refine e3.trans ?_
      rw [hf₂, State.calling_eq h.top, State.setFrames_setFrames, State.pushFrame, State.frames_setTop _ hr', State.setTop_of_frames _ hr', State.setFrames_setFrames, hr]
      rfl
    have hsame : U.sameButNew ({ U with heap := s₂.heap, slotsUsed := s₂.slotsUsed } : State) L mc ms := by
      refine ⟨?_, q2, q3, q4, q5, q6⟩
      obtain ⟨t, ht, -⟩ := State.frames_cons hr
      show ({ U with heap := s₂.heap, slotsUsed := s₂.slotsUsed } : State) = { U.setFrames U.frames with heap := s₂.heap, slotsUsed := s₂.slotsUsed }
      rw [State.setFrames_self ht]
    subst hg
    refine Or.inr ⟨q, ⟨(({ U with heap := s₂.heap, slotsUsed := s₂.slotsUsed } : State).setVm s₂.vm), Ls ++ L, c0 + mc, s0 + ms⟩,
      ⟨X.admits, X.cas, X.clock, X.frames, X.room, X.hears, X.method, X.code, (X.here.setHeapUsed s₂.heap s₂.slotsUsed).setVm hW'.alike, X.tail, State.WarmedH.trans X.warmed hW', X.limits, X.bytes, X.same.trans (hsame.setVm s.vm)⟩,
      ⟨g, mk, s₂, L, E, ce, rfl, rfl, hx, hce, hcv, hcl, rfl, hL, rfl, rfl⟩, ?_⟩
    show Steps p.tables e below _ (((({ U with heap := s₂.heap, slotsUsed := s₂.slotsUsed } : State).setVm s₂.vm).setTop g).pushFrame (.throwing q))
    rw [← hs₂]
    exact hsteps
end Payer
section Calls
variable {p : Program} {l : Launch} {e : Env} {R : Room} {s : State} {m : MethodId} {args : Array Value} {below : List Frame} {meth : Method} {c : Code} {T : State} {locs : List Loc} {cells slots : Nat}
theorem vx_callV (X : Stand p l e R s m args below meth c T locs cells slots) (hexec : p.tables.exec = Jvm.exec) {own C : String} {index : Nat} {y : MethodName} {bytes : ByteArray} {maxL : Nat} {ret : Option FieldType}
    (hown : s.vm.findClass own = some m.cls) (hlink : (Cond.methodLink own index y).before args s = true) (hinst : (Cond.instanceMethod y).before args s = true) (hsel : (Cond.selects C y y).before args s = true)
    (hcode : (Cond.code y bytes maxL ret).before args s = true) (hy : y.cls ≠ "java/lang/invoke/MethodHandle" ∧ y.cls ≠ "java/lang/invoke/VarHandle")
    {W9 : Nat} {Pre : Pt → Array Value → Prop} {Post : Pt → Array Value → Option Value → Pt → Prop} {PostX : Pt → Array Value → Addr → Pt → Prop} (hK : vx_Back l R p e below s args y 3 W9 Pre Post PostX)
    {b : Addr} {cellB : Cell} (hcell : T.heap[b]? = some cellB) (hobj : cellB.vm.isStatics = false) (hcls : s.vm.findClass C = some cellB.cls)
    {g : JFrame} (hg : g.method = m) (hsize : g.locals.size = c.maxLocals) {argsL rest : List Value} (hlen : ∀ sig, parseMethodDescriptor y.desc = some sig → argsL.length = sig.parameters.length)
    (hstack : g.stack = argsL.reverse ++ .ref b :: rest) (hW : 2 * g.monitorRoom + (rest.map fun v => v.category).sum ≤ W9) (hdg : decode c.code g.pc = .ok (.invokevirtual index, 3))
    (hpre : ∀ vm₁, s.WarmedH vm₁ → Pre ⟨T.setVm vm₁, locs, cells, slots⟩ (Value.ref b :: argsL).toArray) :
    (∃ (v : Option Value) (vm₁ : Vm) (B : Pt), s.WarmedH vm₁ ∧ Stand p l e R s m args below meth c B.U B.locs B.cells B.slots ∧ Post ⟨T.setVm vm₁, locs, cells, slots⟩ (Value.ref b :: argsL).toArray v B ∧
      ∀ target, Steps p.tables e below (B.U.setTop { g with pc := g.pc + 3, stack := v.toList ++ rest }) target → Steps p.tables e below (T.setTop g) target) ∨
    (∃ (q : Addr) (vm₁ : Vm) (B : Pt), s.WarmedH vm₁ ∧ Stand p l e R s m args below meth c B.U B.locs B.cells B.slots ∧ PostX ⟨T.setVm vm₁, locs, cells, slots⟩ (Value.ref b :: argsL).toArray q B ∧
      Steps p.tables e below (T.setTop g) ((B.U.setTop { g with stack := rest }).pushFrame (.throwing q))) := by
  obtain ⟨mk, methM, hnamed, hmethM, hstM, habM⟩ := Cond.instanceMethod_spec hinst
  obtain ⟨methM', cM, hmethM', -, -, -, -, -, -, hsigM⟩ := Cond.code_spec hnamed hcode
  cases hmethM.symm.trans hmethM'
  obtain ⟨c2, r2, m2, q1, q2, q3, q4, kP, hkP, hkPi⟩ := Cond.selects_spec hsel
  cases hcls.symm.trans q1
  cases (State.methodFound?_of_named hnamed hy).symm.trans q2
  cases hnamed.symm.trans q3
  have hselP : selectMethod e.platform s.vm cellB.cls mk = .method mk := by rw [Launch.admits_selectMethod X.admits]; exact q4
  obtain ⟨vm₁, X₁, hstep₁⟩ := X.invokevirtual hexec hown hlink hnamed hmethM hstM hkP hkPi hy (a := b) (cell := cellB) hcell
    (fun z h => by rw [h] at hobj; cases hobj) hselP hmethM habM hkP hkPi (g := g) hg (argsL := argsL) (rest := rest) (hlen _ hsigM) hstack hdg
  rcases hK m meth c ⟨T.setVm vm₁, locs, cells, slots⟩ { g with stack := rest } (.invokevirtual index) mk (Value.ref b :: argsL).toArray X₁ hg hsize hdg hW (X₁.named hnamed) (hpre vm₁ X₁.warmed) with ⟨v, B, X', hpost, hsteps⟩ | ⟨q, B, X', hpost, hsteps⟩
  · exact Or.inl ⟨v, vm₁, B, X₁.warmed, X', hpost, fun target h => hstep₁ _ fun acts => by rw [doInvoke_state]; exact hsteps.trans h⟩
  · exact Or.inr ⟨q, vm₁, B, X₁.warmed, X', hpost, hstep₁ _ fun acts => by rw [doInvoke_state]; exact hsteps⟩
theorem vx_callS (X : Stand p l e R s m args below meth c T locs cells slots) (hexec : p.tables.exec = Jvm.exec) {own : String} {index : Nat} {y : MethodName} {bytes : ByteArray} {maxL : Nat} {ret : Option FieldType}
    (hown : s.vm.findClass own = some m.cls) (hlink : (Cond.methodLink own index y).before args s = true) (hstat : (Cond.static y).before args s = true) (hinit : (Cond.initialized y.cls).before args s = true)
    (hcode : (Cond.code y bytes maxL ret).before args s = true) (hy : y.cls ≠ "java/lang/invoke/MethodHandle" ∧ y.cls ≠ "java/lang/invoke/VarHandle")
    {W9 : Nat} {Pre : Pt → Array Value → Prop} {Post : Pt → Array Value → Option Value → Pt → Prop} {PostX : Pt → Array Value → Addr → Pt → Prop} (hK : vx_Back l R p e below s args y 3 W9 Pre Post PostX)
    {g : JFrame} (hg : g.method = m) (hsize : g.locals.size = c.maxLocals) {argsL rest : List Value} (hlen : ∀ sig, parseMethodDescriptor y.desc = some sig → argsL.length = sig.parameters.length)
    (hstack : g.stack = argsL.reverse ++ rest) (hW : 2 * g.monitorRoom + (rest.map fun v => v.category).sum ≤ W9) (hdg : decode c.code g.pc = .ok (.invokestatic index, 3))
    (hpre : ∀ vm₁, s.WarmedH vm₁ → Pre ⟨T.setVm vm₁, locs, cells, slots⟩ argsL.toArray) :
    (∃ (v : Option Value) (vm₁ : Vm) (B : Pt), s.WarmedH vm₁ ∧ Stand p l e R s m args below meth c B.U B.locs B.cells B.slots ∧ Post ⟨T.setVm vm₁, locs, cells, slots⟩ argsL.toArray v B ∧
      ∀ target, Steps p.tables e below (B.U.setTop { g with pc := g.pc + 3, stack := v.toList ++ rest }) target → Steps p.tables e below (T.setTop g) target) ∨
    (∃ (q : Addr) (vm₁ : Vm) (B : Pt), s.WarmedH vm₁ ∧ Stand p l e R s m args below meth c B.U B.locs B.cells B.slots ∧ PostX ⟨T.setVm vm₁, locs, cells, slots⟩ argsL.toArray q B ∧
      Steps p.tables e below (T.setTop g) ((B.U.setTop { g with stack := rest }).pushFrame (.throwing q))) := by
  obtain ⟨mk, hnamed⟩ := Cond.code_named hcode
  obtain ⟨methM, cM, hmethM, -, -, -, -, -, -, hsigM⟩ := Cond.code_spec hnamed hcode
  have hstatic : methM.isStatic = true := Cond.static_spec hnamed hmethM hstat
  obtain ⟨kP, hkP, -⟩ := className_of_methodNamed hnamed
  have hinitP : kP.init = .initialized := Cond.initialized_spec (findClass_of_methodNamed hnamed) hkP hinit
  obtain ⟨vm₁, X₁, hstep₁⟩ := X.invokestatic hexec hown hlink hnamed hmethM hstatic hkP hinitP hy (g := g) hg (argsL := argsL) (rest := rest) (hlen _ hsigM) hstack hdg
  rcases hK m meth c ⟨T.setVm vm₁, locs, cells, slots⟩ { g with stack := rest } (.invokestatic index) mk argsL.toArray X₁ hg hsize hdg hW (X₁.named hnamed) (hpre vm₁ X₁.warmed) with ⟨v, B, X', hpost, hsteps⟩ | ⟨q, B, X', hpost, hsteps⟩
  · exact Or.inl ⟨v, vm₁, B, X₁.warmed, X', hpost, fun target h => hstep₁ _ fun acts => by rw [doInvoke_state]; exact hsteps.trans h⟩
  · exact Or.inr ⟨q, vm₁, B, X₁.warmed, X', hpost, hstep₁ _ fun acts => by rw [doInvoke_state]; exact hsteps⟩
end Calls
theorem vx_cls {s : State} {T : State} {vm₁ : Vm} {E : String} {k : ClassId} (hW : s.WarmedH vm₁) (h : (T.setVm vm₁).vm.findClass E = some k) : s.vm.findClass E = some k := by
  have h1 : vm₁.findClass E = some k := h
  rw [hW.alike.findClass] at h1
  exact h1
/-- the method's frame g, with q thrown over it -/
def vx_W (p : Program) (l : Launch) (e : Env) (R : Room) (s : State) (m : MethodId) (args : Array Value) (below : List Frame) (meth : Method) (c : Code) (H : Heap) (locs : List Loc) (cells slots : Nat) (Q : State → Prop) (g : JFrame) (q : Addr) : Prop :=
  ∀ T : State, T.heap = H → Stand p l e R s m args below meth c T locs cells slots → ∃ t, Steps p.tables e below ((T.setTop g).pushFrame (.throwing q)) t ∧ Q t
def vx_Run (p : Program) (l : Launch) (e : Env) (R : Room) (s : State) (m : MethodId) (args : Array Value) (below : List Frame) (meth : Method) (c : Code) (H : Heap) (locs : List Loc) (cells slots mc ms : Nat) (g : JFrame) (rest : List Value) (Qa : State → Outcome → State → Prop) (XC : String → State → State → Prop) (free : Addr → Prop) : Prop :=
  ∀ T : State, T.heap = H → Stand p l e R s m args below meth c T locs cells slots →
    (∃ (v : Option Value) (st₀ t T' : State) (L : List Loc), st₀.heap = H ∧ Stand p l e R s m args below meth c T' (locs ++ L) (cells + mc) (slots + ms) ∧ (∀ q ∈ L, free q.base) ∧ T'.heap = t.heap ∧ T'.vm = t.vm ∧ Qa st₀ (.returned v) t ∧
      Goes p e below T g T' { g with pc := g.pc + 3, stack := v.toList ++ rest }) ∨
    (∃ (q : Addr) (st₀ t T' : State) (L : List Loc) (E : String) (ce : Cell), st₀.heap = H ∧ Stand p l e R s m args below meth c T' (locs ++ L) (cells + mc) (slots + ms) ∧ (∀ z ∈ L, free z.base) ∧ T'.heap = t.heap ∧ T'.vm = t.vm ∧ XC E st₀ t ∧ t.heap[q]? = some ce ∧ ce.vm = .none ∧ s.vm.findClass E = some ce.cls ∧
      Steps p.tables e below (T.setTop g) ((T'.setTop { g with stack := rest }).pushFrame (.throwing q)))
def vx_X {S : Type} (px : S → Prop) (B : String → S → State → Prop) (A : Nat → Prop) : String → State → State → Prop := fun E st t => ∃ u : S, px u ∧ B E u t ∧ va_F A st t
section Runs
variable {p : Program} {l : Launch} {e : Env} {R : Room} {s : State} {m : MethodId} {args : Array Value} {below : List Frame} {meth : Method} {c : Code} {H : Heap} {locs : List Loc} {cells slots : Nat}
variable {y : MethodName} {bytes cc : ByteArray} {maxL nL mc ms n index : Nat} {ret : Option FieldType} {ws : List Cond} {rm : Room} {Pc : Array Value → State → Prop} {Qc : Array Value → State → Outcome → State → Prop} {XC : String → State → State → Prop} {free : Addr → Prop} {Ts : List Cond} {own C : String} {b : Addr} {As rest : List Value} {g : JFrame}
theorem vx_callBack (cb : CallB R s args own index y bytes maxL ret ws rm mc ms n) (hM : vx_Met l y ws rm Pc Qc XC mc ms free) (hbl : FrameBlind Pc) : vx_Back l R p e below s args y 3 8 (PreOf R mc ms Pc) (PostOf Qc mc ms free) (vx_Post XC mc ms free) := by
  obtain ⟨hrc, hrs, hfr, hlo, hws, hcw, -, hini, -⟩ := cb
  exact vx_back (bytes := bytes) (maxL := maxL) (ret := ret) hM hbl hrc hrs hfr hlo hws hcw (fun a' U hW => word_at hW (Or.inl (by first | rfl | simp [Cond.onTables, Cond.keeps, Cond.steady])) hini)
theorem vx_runV (S : CallFix p m c cc nL s args Ts own) (hM : vx_Met l y ws rm Pc Qc XC mc ms free) (cw : CallW R s args own C index y bytes maxL ret ws rm mc ms n) (hp : PreV s H C b Pc As)
    (hg : g.method = m) (hn : As.length = n) (hsize : g.locals.size = nL) (hstack : g.stack = As.reverse ++ .ref b :: rest) (hW : 2 * g.monitorRoom + (rest.map fun v => v.category).sum ≤ 8) (hdg : decode cc g.pc = .ok (.invokevirtual index, 3)) (hf : cells + mc ≤ R.cells ∧ slots + ms ≤ R.slots) :
    vx_Run p l e R s m args below meth c H locs cells slots mc ms g rest (Qc (Value.ref b :: As).toArray) XC free := by
  have hK : vx_Back l R p e below s args y 3 8 (PreOf R mc ms Pc) (PostOf Qc mc ms free) (vx_Post XC mc ms free) := vx_callBack cw.1 hM hp.1
  obtain ⟨⟨-, -, -, -, -, -, hcode, -, hy, hlen, hl⟩, hin, hse⟩ := cw
  obtain ⟨hx, hb, hml, ho, -⟩ := S
  obtain ⟨-, ⟨cellB, hcB, hoB, hclB⟩, hPc⟩ := hp
  intro T hT X
  rcases vx_callV X hx (C := C) (bytes := bytes) (maxL := maxL) (ret := ret) ho hl hin hse hcode hy hK (by rw [hT]; exact hcB) hoB hclB hg (hsize.trans hml.symm) (argsL := As) (rest := rest) (fun sig h => hn.trans (hlen sig h)) hstack hW (by rw [hb]; exact hdg)
    (fun vm₁ hW₁ => ⟨hf.1, hf.2, hPc (T.setVm vm₁) hT hW₁⟩) with ⟨v, vm₁, ⟨U', l2, c2, s2⟩, hW₁, X', ⟨g', mk, t, L, e1, e2, hq, h1, hL, h2, h3⟩, st⟩ | ⟨q, vm₁, ⟨U', l2, c2, s2⟩, hW₁, X', ⟨g', mk, t, L, E, ce, e1, e2, hq, hce, hcv, hcl, h1, hL, h2, h3⟩, st⟩
  · dsimp only [Pt.U, Pt.locs, Pt.cells, Pt.slots] at X' e1 e2 h1 h2 h3 st
    subst h1; subst h2; subst h3
    exact Or.inl ⟨v, (T.setVm vm₁).calling g' mk (Value.ref b :: As).toArray, t, U', L, hT, X', hL, e1, e2, hq, st⟩
  · dsimp only [Pt.U, Pt.locs, Pt.cells, Pt.slots] at X' e1 e2 h1 h2 h3 st hcl
    subst h1; subst h2; subst h3
    exact Or.inr ⟨q, (T.setVm vm₁).calling g' mk (Value.ref b :: As).toArray, t, U', L, E, ce, hT, X', hL, e1, e2, hq, hce, hcv, vx_cls hW₁ hcl, st⟩
theorem vx_runS (S : CallFix p m c cc nL s args Ts own) (hM : vx_Met l y ws rm Pc Qc XC mc ms free) (cw : CallB R s args own index y bytes maxL ret ws rm mc ms n ∧ (Cond.static y).before args s = true) (hp : PreS s H Pc As)
    (hg : g.method = m) (hn : As.length = n) (hsize : g.locals.size = nL) (hstack : g.stack = As.reverse ++ rest) (hW : 2 * g.monitorRoom + (rest.map fun v => v.category).sum ≤ 8) (hdg : decode cc g.pc = .ok (.invokestatic index, 3)) (hf : cells + mc ≤ R.cells ∧ slots + ms ≤ R.slots) :
    vx_Run p l e R s m args below meth c H locs cells slots mc ms g rest (Qc As.toArray) XC free := by
  have hK : vx_Back l R p e below s args y 3 8 (PreOf R mc ms Pc) (PostOf Qc mc ms free) (vx_Post XC mc ms free) := vx_callBack cw.1 hM hp.1
  obtain ⟨⟨-, -, -, -, -, -, hcode, hini, hy, hlen, hl⟩, hstt⟩ := cw
  obtain ⟨hx, hb, hml, ho, -⟩ := S
  intro T hT X
  rcases vx_callS X hx (bytes := bytes) (maxL := maxL) (ret := ret) ho hl hstt hini hcode hy hK hg (hsize.trans hml.symm) (argsL := As) (rest := rest) (fun sig h => hn.trans (hlen sig h)) hstack hW (by rw [hb]; exact hdg)
    (fun vm₁ hW₁ => ⟨hf.1, hf.2, hp.2 (T.setVm vm₁) hT hW₁⟩) with ⟨v, vm₁, ⟨U', l2, c2, s2⟩, hW₁, X', ⟨g', mk, t, L, e1, e2, hq, h1, hL, h2, h3⟩, st⟩ | ⟨q, vm₁, ⟨U', l2, c2, s2⟩, hW₁, X', ⟨g', mk, t, L, E, ce, e1, e2, hq, hce, hcv, hcl, h1, hL, h2, h3⟩, st⟩
  · dsimp only [Pt.U, Pt.locs, Pt.cells, Pt.slots] at X' e1 e2 h1 h2 h3 st
    subst h1; subst h2; subst h3
    exact Or.inl ⟨v, (T.setVm vm₁).calling g' mk As.toArray, t, U', L, hT, X', hL, e1, e2, hq, st⟩
  · dsimp only [Pt.U, Pt.locs, Pt.cells, Pt.slots] at X' e1 e2 h1 h2 h3 st hcl
    subst h1; subst h2; subst h3
    exact Or.inr ⟨q, (T.setVm vm₁).calling g' mk As.toArray, t, U', L, E, ce, hT, X', hL, e1, e2, hq, hce, hcv, vx_cls hW₁ hcl, st⟩
end Runs
section Rows
variable {p : Program} {l : Launch} {e : Env} {R : Room} {s : State} {m : MethodId} {args : Array Value} {below : List Frame} {meth : Method} {c : Code} {H : Heap} {locs : List Loc} {cells slots : Nat} {Q : State → Prop}
variable {mc ms : Nat} {free : Addr → Prop} {A0 A1 : Nat → Prop} {H0 : Heap} {a : Array Value} {pc : Nat} {ls : Array Slot} {st0 rest : List Value}
theorem vx_keep {st₀ t T' : State} {L : List Loc} (h0 : st₀.heap = H) (e1 : T'.heap = t.heap) (hS : va_S A0 H0 H locs) (hA : ∀ q, q < H.size → A1 q → A0 q) (hf : ∀ q, free q → A0 q) (hL : ∀ q ∈ L, free q.base) (hF : va_F A1 st₀ t) :
    H.size ≤ T'.heap.size ∧ (∀ q : Nat, q < H.size → ¬ A1 q → T'.heap[q]? = H[q]?) ∧ va_S A0 H0 T'.heap (locs ++ L) := by
  obtain ⟨hz, hk⟩ := hF
  rw [h0] at hz hk
  exact ⟨by rw [e1]; exact hz, fun q h1 h2 => by rw [e1]; exact hk q h1 h2,
    ⟨Nat.le_trans hS.1 (by rw [e1]; exact hz), fun q h1 h2 => by rw [e1, hk q (Nat.lt_of_lt_of_le h1 hS.1) (fun z => h2 (hA q (Nat.lt_of_lt_of_le h1 hS.1) z))]; exact hS.2.1 q h1 h2, fun q hq => by
      rcases List.mem_append.mp hq with h | h
      · exact hS.2.2 q h
      · exact hf _ (hL q h)⟩⟩
theorem vx_calli {S SX : Type} {post : Int32 → S → Prop} {px : SX → Prop} {B : S → State → Prop} {BX : String → SX → State → Prop} {AX : Nat → Prop} (hr : vx_Run p l e R s m args below meth c H locs cells slots mc ms (F0 m pc ls st0) rest (va_Qi post B A1 a) (vx_X px BX AX) free) (hS : va_S A0 H0 H locs) (hA : ∀ q, q < H.size → A1 q → A0 q) (hf : ∀ q, free q → A0 q) (hAX : ∀ q, q < H.size → AX q → A0 q)
    (kx : ∀ (E : String) (ce : Cell) (q9 : Addr) (u : SX) (t : State) (H1 : Heap) (locs1 : List Loc), t.heap = H1 → s.vm.Alike t.vm → px u → BX E u t → H.size ≤ H1.size → (∀ q : Nat, q < H.size → ¬ AX q → H1[q]? = H[q]?) → va_S A0 H0 H1 locs1 → H1[q9]? = some ce → ce.vm = .none → s.vm.findClass E = some ce.cls → vx_W p l e R s m args below meth c H1 locs1 (cells + mc) (slots + ms) Q (F0 m pc ls rest) q9)
    (kk : ∀ (r : Int32) (u : S) (t : State) (H1 : Heap) (locs1 : List Loc), t.heap = H1 → s.vm.Alike t.vm → post r u → B u t → H.size ≤ H1.size → (∀ q : Nat, q < H.size → ¬ A1 q → H1[q]? = H[q]?) → va_S A0 H0 H1 locs1 → W p l e R s m args below meth c H1 locs1 (cells + mc) (slots + ms) Q (F0 m (pc + 3) ls (.int r :: rest))) : W p l e R s m args below meth c H locs cells slots Q (F0 m pc ls st0) := by
  intro T hT X
  rcases hr T hT X with ⟨v, st₀, t, T', L, h0, X', hL, e1, e2, ⟨⟨r, u, hv, hp, hb⟩, hF⟩, st⟩ | ⟨q, st₀, t, T', L, E, ce, h0, X', hL, e1, e2, ⟨u, hp, hb, hF⟩, hce, hcv, hcl, st⟩
  · cases hv
    obtain ⟨k1, k2, k3⟩ := vx_keep h0 e1 hS hA hf hL hF
    obtain ⟨t2, a1, b1⟩ := kk r u t T'.heap (locs ++ L) e1.symm (by rw [← e2]; exact X'.warmed.alike) hp hb k1 k2 k3 T' rfl X'
    exact ⟨t2, st t2 a1, b1⟩
  · obtain ⟨k1, k2, k3⟩ := vx_keep h0 e1 hS hAX hf hL hF
    obtain ⟨t2, a1, b1⟩ := kx E ce q u t T'.heap (locs ++ L) e1.symm (by rw [← e2]; exact X'.warmed.alike) hp hb k1 k2 k3 (by rw [e1]; exact hce) hcv hcl T' rfl X'
    exact ⟨t2, st.trans a1, b1⟩
theorem vx_calll {S SX : Type} {post : Int64 → S → Prop} {px : SX → Prop} {B : S → State → Prop} {BX : String → SX → State → Prop} {AX : Nat → Prop} (hr : vx_Run p l e R s m args below meth c H locs cells slots mc ms (F0 m pc ls st0) rest (va_Ql post B A1 a) (vx_X px BX AX) free) (hS : va_S A0 H0 H locs) (hA : ∀ q, q < H.size → A1 q → A0 q) (hf : ∀ q, free q → A0 q) (hAX : ∀ q, q < H.size → AX q → A0 q)
    (kx : ∀ (E : String) (ce : Cell) (q9 : Addr) (u : SX) (t : State) (H1 : Heap) (locs1 : List Loc), t.heap = H1 → s.vm.Alike t.vm → px u → BX E u t → H.size ≤ H1.size → (∀ q : Nat, q < H.size → ¬ AX q → H1[q]? = H[q]?) → va_S A0 H0 H1 locs1 → H1[q9]? = some ce → ce.vm = .none → s.vm.findClass E = some ce.cls → vx_W p l e R s m args below meth c H1 locs1 (cells + mc) (slots + ms) Q (F0 m pc ls rest) q9)
    (kk : ∀ (r : Int64) (u : S) (t : State) (H1 : Heap) (locs1 : List Loc), t.heap = H1 → s.vm.Alike t.vm → post r u → B u t → H.size ≤ H1.size → (∀ q : Nat, q < H.size → ¬ A1 q → H1[q]? = H[q]?) → va_S A0 H0 H1 locs1 → W p l e R s m args below meth c H1 locs1 (cells + mc) (slots + ms) Q (F0 m (pc + 3) ls (.long r :: rest))) : W p l e R s m args below meth c H locs cells slots Q (F0 m pc ls st0) := by
  intro T hT X
  rcases hr T hT X with ⟨v, st₀, t, T', L, h0, X', hL, e1, e2, ⟨⟨r, u, hv, hp, hb⟩, hF⟩, st⟩ | ⟨q, st₀, t, T', L, E, ce, h0, X', hL, e1, e2, ⟨u, hp, hb, hF⟩, hce, hcv, hcl, st⟩
  · cases hv
    obtain ⟨k1, k2, k3⟩ := vx_keep h0 e1 hS hA hf hL hF
    obtain ⟨t2, a1, b1⟩ := kk r u t T'.heap (locs ++ L) e1.symm (by rw [← e2]; exact X'.warmed.alike) hp hb k1 k2 k3 T' rfl X'
    exact ⟨t2, st t2 a1, b1⟩
  · obtain ⟨k1, k2, k3⟩ := vx_keep h0 e1 hS hAX hf hL hF
    obtain ⟨t2, a1, b1⟩ := kx E ce q u t T'.heap (locs ++ L) e1.symm (by rw [← e2]; exact X'.warmed.alike) hp hb k1 k2 k3 (by rw [e1]; exact hce) hcv hcl T' rfl X'
    exact ⟨t2, st.trans a1, b1⟩
theorem vx_callf {S SX : Type} {post : UInt32 → S → Prop} {px : SX → Prop} {B : S → State → Prop} {BX : String → SX → State → Prop} {AX : Nat → Prop} (hr : vx_Run p l e R s m args below meth c H locs cells slots mc ms (F0 m pc ls st0) rest (va_Qf post B A1 a) (vx_X px BX AX) free) (hS : va_S A0 H0 H locs) (hA : ∀ q, q < H.size → A1 q → A0 q) (hf : ∀ q, free q → A0 q) (hAX : ∀ q, q < H.size → AX q → A0 q)
    (kx : ∀ (E : String) (ce : Cell) (q9 : Addr) (u : SX) (t : State) (H1 : Heap) (locs1 : List Loc), t.heap = H1 → s.vm.Alike t.vm → px u → BX E u t → H.size ≤ H1.size → (∀ q : Nat, q < H.size → ¬ AX q → H1[q]? = H[q]?) → va_S A0 H0 H1 locs1 → H1[q9]? = some ce → ce.vm = .none → s.vm.findClass E = some ce.cls → vx_W p l e R s m args below meth c H1 locs1 (cells + mc) (slots + ms) Q (F0 m pc ls rest) q9)
    (kk : ∀ (r : UInt32) (u : S) (t : State) (H1 : Heap) (locs1 : List Loc), t.heap = H1 → s.vm.Alike t.vm → post r u → B u t → H.size ≤ H1.size → (∀ q : Nat, q < H.size → ¬ A1 q → H1[q]? = H[q]?) → va_S A0 H0 H1 locs1 → W p l e R s m args below meth c H1 locs1 (cells + mc) (slots + ms) Q (F0 m (pc + 3) ls (.float r :: rest))) : W p l e R s m args below meth c H locs cells slots Q (F0 m pc ls st0) := by
  intro T hT X
  rcases hr T hT X with ⟨v, st₀, t, T', L, h0, X', hL, e1, e2, ⟨⟨r, u, hv, hp, hb⟩, hF⟩, st⟩ | ⟨q, st₀, t, T', L, E, ce, h0, X', hL, e1, e2, ⟨u, hp, hb, hF⟩, hce, hcv, hcl, st⟩
  · cases hv
    obtain ⟨k1, k2, k3⟩ := vx_keep h0 e1 hS hA hf hL hF
    obtain ⟨t2, a1, b1⟩ := kk r u t T'.heap (locs ++ L) e1.symm (by rw [← e2]; exact X'.warmed.alike) hp hb k1 k2 k3 T' rfl X'
    exact ⟨t2, st t2 a1, b1⟩
  · obtain ⟨k1, k2, k3⟩ := vx_keep h0 e1 hS hAX hf hL hF
    obtain ⟨t2, a1, b1⟩ := kx E ce q u t T'.heap (locs ++ L) e1.symm (by rw [← e2]; exact X'.warmed.alike) hp hb k1 k2 k3 (by rw [e1]; exact hce) hcv hcl T' rfl X'
    exact ⟨t2, st.trans a1, b1⟩
theorem vx_calld {S SX : Type} {post : UInt64 → S → Prop} {px : SX → Prop} {B : S → State → Prop} {BX : String → SX → State → Prop} {AX : Nat → Prop} (hr : vx_Run p l e R s m args below meth c H locs cells slots mc ms (F0 m pc ls st0) rest (va_Qd post B A1 a) (vx_X px BX AX) free) (hS : va_S A0 H0 H locs) (hA : ∀ q, q < H.size → A1 q → A0 q) (hf : ∀ q, free q → A0 q) (hAX : ∀ q, q < H.size → AX q → A0 q)
    (kx : ∀ (E : String) (ce : Cell) (q9 : Addr) (u : SX) (t : State) (H1 : Heap) (locs1 : List Loc), t.heap = H1 → s.vm.Alike t.vm → px u → BX E u t → H.size ≤ H1.size → (∀ q : Nat, q < H.size → ¬ AX q → H1[q]? = H[q]?) → va_S A0 H0 H1 locs1 → H1[q9]? = some ce → ce.vm = .none → s.vm.findClass E = some ce.cls → vx_W p l e R s m args below meth c H1 locs1 (cells + mc) (slots + ms) Q (F0 m pc ls rest) q9)
    (kk : ∀ (r : UInt64) (u : S) (t : State) (H1 : Heap) (locs1 : List Loc), t.heap = H1 → s.vm.Alike t.vm → post r u → B u t → H.size ≤ H1.size → (∀ q : Nat, q < H.size → ¬ A1 q → H1[q]? = H[q]?) → va_S A0 H0 H1 locs1 → W p l e R s m args below meth c H1 locs1 (cells + mc) (slots + ms) Q (F0 m (pc + 3) ls (.double r :: rest))) : W p l e R s m args below meth c H locs cells slots Q (F0 m pc ls st0) := by
  intro T hT X
  rcases hr T hT X with ⟨v, st₀, t, T', L, h0, X', hL, e1, e2, ⟨⟨r, u, hv, hp, hb⟩, hF⟩, st⟩ | ⟨q, st₀, t, T', L, E, ce, h0, X', hL, e1, e2, ⟨u, hp, hb, hF⟩, hce, hcv, hcl, st⟩
  · cases hv
    obtain ⟨k1, k2, k3⟩ := vx_keep h0 e1 hS hA hf hL hF
    obtain ⟨t2, a1, b1⟩ := kk r u t T'.heap (locs ++ L) e1.symm (by rw [← e2]; exact X'.warmed.alike) hp hb k1 k2 k3 T' rfl X'
    exact ⟨t2, st t2 a1, b1⟩
  · obtain ⟨k1, k2, k3⟩ := vx_keep h0 e1 hS hAX hf hL hF
    obtain ⟨t2, a1, b1⟩ := kx E ce q u t T'.heap (locs ++ L) e1.symm (by rw [← e2]; exact X'.warmed.alike) hp hb k1 k2 k3 (by rw [e1]; exact hce) hcv hcl T' rfl X'
    exact ⟨t2, st.trans a1, b1⟩
theorem vx_callv {S SX : Type} {post : S → Prop} {px : SX → Prop} {B : S → State → Prop} {BX : String → SX → State → Prop} {AX : Nat → Prop} (hr : vx_Run p l e R s m args below meth c H locs cells slots mc ms (F0 m pc ls st0) rest (va_Qv post B A1 a) (vx_X px BX AX) free) (hS : va_S A0 H0 H locs) (hA : ∀ q, q < H.size → A1 q → A0 q) (hf : ∀ q, free q → A0 q) (hAX : ∀ q, q < H.size → AX q → A0 q)
    (kx : ∀ (E : String) (ce : Cell) (q9 : Addr) (u : SX) (t : State) (H1 : Heap) (locs1 : List Loc), t.heap = H1 → s.vm.Alike t.vm → px u → BX E u t → H.size ≤ H1.size → (∀ q : Nat, q < H.size → ¬ AX q → H1[q]? = H[q]?) → va_S A0 H0 H1 locs1 → H1[q9]? = some ce → ce.vm = .none → s.vm.findClass E = some ce.cls → vx_W p l e R s m args below meth c H1 locs1 (cells + mc) (slots + ms) Q (F0 m pc ls rest) q9)
    (kk : ∀ (u : S) (t : State) (H1 : Heap) (locs1 : List Loc), t.heap = H1 → s.vm.Alike t.vm → post u → B u t → H.size ≤ H1.size → (∀ q : Nat, q < H.size → ¬ A1 q → H1[q]? = H[q]?) → va_S A0 H0 H1 locs1 → W p l e R s m args below meth c H1 locs1 (cells + mc) (slots + ms) Q (F0 m (pc + 3) ls (rest))) : W p l e R s m args below meth c H locs cells slots Q (F0 m pc ls st0) := by
  intro T hT X
  rcases hr T hT X with ⟨v, st₀, t, T', L, h0, X', hL, e1, e2, ⟨⟨u, hv, hp, hb⟩, hF⟩, st⟩ | ⟨q, st₀, t, T', L, E, ce, h0, X', hL, e1, e2, ⟨u, hp, hb, hF⟩, hce, hcv, hcl, st⟩
  · cases hv
    obtain ⟨k1, k2, k3⟩ := vx_keep h0 e1 hS hA hf hL hF
    obtain ⟨t2, a1, b1⟩ := kk u t T'.heap (locs ++ L) e1.symm (by rw [← e2]; exact X'.warmed.alike) hp hb k1 k2 k3 T' rfl X'
    exact ⟨t2, st t2 a1, b1⟩
  · obtain ⟨k1, k2, k3⟩ := vx_keep h0 e1 hS hAX hf hL hF
    obtain ⟨t2, a1, b1⟩ := kx E ce q u t T'.heap (locs ++ L) e1.symm (by rw [← e2]; exact X'.warmed.alike) hp hb k1 k2 k3 (by rw [e1]; exact hce) hcv hcl T' rfl X'
    exact ⟨t2, st.trans a1, b1⟩
/-- caught by the row x of this method's table; the rows ahead don't take it -/
theorem vx_catch {own name : String} {E : String} {ce : Cell} {q : Addr} (hown : s.vm.findClass own = some m.cls) (pre : List ExceptionTableEntry) (x : ExceptionTableEntry) (suf : List ExceptionTableEntry) (hsplit : c.exceptionTable.toList = pre ++ x :: suf)
    (hpass : ∀ z ∈ pre, covers z pc = false ∨ (z.catchType ≠ 0 ∧ ∃ nm : String, (Cond.classLink own z.catchType nm).before args s = true ∧ va_Nc E nm s)) (hx : covers x pc = true) (h0 : x.catchType ≠ 0)
    (hlink : (Cond.classLink own x.catchType name).before args s = true) (hcast : (Cond.castable E name).before args s = true) (hcell : H[q]? = some ce) (hv : ce.vm = .none) (hcl : s.vm.findClass E = some ce.cls)
    (kk : W p l e R s m args below meth c H locs cells slots Q (F0 m x.handlerPc ls [.ref q])) : vx_W p l e R s m args below meth c H locs cells slots Q (F0 m pc ls rest) q := by
  intro T hT X
  have hpl : e.platform.magicAccessors = ({} : Platform).magicAccessors := by rw [X.admits.platform]
  obtain ⟨c3, c4, hc3, hc4, hasg⟩ := Cond.castable_spec hcast
  cases Option.some.inj (hc3.symm.trans hcl)
  obtain ⟨c5, hc5, hcl5⟩ := Cond.classLink_spec hown hlink e.platform hpl
  cases Option.some.inj (hc4.symm.trans hc5)
  obtain ⟨vm', X', st⟩ := X.thenCaughtThrough q (g := F0 m pc ls rest) rfl (Steps.refl _) (by rw [hT]; exact hcell) (by rw [hv]; rfl) (by obtain ⟨k9, h9, -⟩ := Vm.findClass_spec hcl; exact ⟨k9, h9⟩) pre x suf hsplit
    (fun z hz => by
      rcases hpass z hz with h | ⟨hz0, nm, hl1, hn1⟩
      · exact Or.inl h
      · obtain ⟨c6, hc6, hcl6⟩ := Cond.classLink_spec hown hl1 e.platform hpl
        obtain ⟨a8, b8, h1, h2, h3⟩ := hn1
        cases Option.some.inj (h1.symm.trans hcl)
        cases Option.some.inj (h2.symm.trans hc6)
        exact Or.inr ⟨hz0, _, hcl6, h3⟩) hx (Or.inr ⟨h0, c4, hcl5, hasg⟩)
  obtain ⟨t, a1, b1⟩ := kk (T.setVm vm') hT X'
  exact ⟨t, st.trans a1, b1⟩
end Rows
section Ends
variable {p : Program} {l : Launch} {e : Env} {R : Room} {s : State} {m : MethodId} {args : Array Value} {below : List Frame} {meth : Method} {c : Code} {H : Heap} {locs : List Loc} {cells slots : Nat} {Q : State → Prop}
variable {mc ms : Nat} {free : Addr → Prop} {A0 A1 : Nat → Prop} {H0 : Heap} {a : Array Value} {ls : Array Slot} {st0 rest : List Value}
variable {Qc : Array Value → State → Outcome → State → Prop} {XC : String → State → State → Prop}
/-- what a body that may throw owes at its end -/
def vx_MQ (below : List Frame) (Qc : Array Value → State → Outcome → State → Prop) (XC : String → State → State → Prop) (a : Array Value) (s : State) (mc ms : Nat) (free : Addr → Prop) : State → Prop := fun t =>
  ∃ o, t.status = .running ∧ Ended t below o ∧ vx_Q Qc XC mc ms free a s o t
theorem vx_ret {g : JFrame} {mc ms : Nat} (k : W p l e R s m args below meth c H locs cells slots (MQ below Qc args s mc ms free) g) : W p l e R s m args below meth c H locs cells slots (vx_MQ below Qc XC args s mc ms free) g := by
  intro T hT X
  obtain ⟨t, a1, o, b1, b2, b3, b4⟩ := k T hT X
  exact ⟨t, a1, o, b1, b2, Or.inl ⟨b3, b4⟩⟩
/-- not caught here: it goes on to the caller -/
theorem vx_widen {g : JFrame} {q : Addr} {k n : Nat} (h1 : cells ≤ k) (h2 : slots ≤ n) (kk : vx_W p l e R s m args below meth c H locs k n Q g q) : vx_W p l e R s m args below meth c H locs cells slots Q g q := fun T hT X => kk T hT (stand_widen X h1 h2)
theorem vx_out {pc : Nat} {E : String} {ce : Cell} {q : Addr} {mc ms : Nat} (hout : ∀ x ∈ c.exceptionTable.toList, covers x pc = false) (hlocks : meth.locks = false) (hcell : H[q]? = some ce) (hv : ce.vm = .none) (hcl : s.vm.findClass E = some ce.cls)
    (hx : ∀ t : State, t.heap = H → s.vm.Alike t.vm → XC E s t) (hf : ∀ z ∈ locs, free z.base) (hc : cells ≤ mc) (hs : slots ≤ ms) :
    vx_W p l e R s m args below meth c H locs cells slots (vx_MQ below Qc XC args s mc ms free) (F0 m pc ls rest) q := by
  intro T hT X
  obtain ⟨st1, hrun, hend, hW, hsm⟩ := X.leaveThrown q (g := F0 m pc ls rest) rfl rfl rfl hout hlocks
  have hcell9 : (T.setFrames (.throwing q :: below)).heap[q]? = some ce := by
    show T.heap[q]? = some ce
    rw [hT]; exact hcell
  exact ⟨_, st1, .threw q, hrun, hend, Or.inr ⟨q, rfl, E, ce, locs, hx _ hT hW.alike, hcell9, hv, hcl, hW, hsm.mono hc hs, hf⟩⟩
theorem vx_frame {U : State} {k n : Nat} (h : s.sameButNew ({ U with vm := s.vm } : State) locs k n) : s.heap.size ≤ U.heap.size ∧ ∀ q : Nat, q < s.heap.size → (∀ z ∈ locs, z.base ≠ q) → U.heap[q]? = s.heap[q]? := by
  obtain ⟨-, h2, -, -, -, h6⟩ := h
  refine ⟨h2, fun q hq hz => ?_⟩
  obtain ⟨c9, e1, e2, e3, e4⟩ := h6 q _ (Array.getElem?_eq_getElem hq)
  have hs : c9.slots = (s.heap[q]).slots := Array.ext_getElem? fun i => e4 i fun hm => hz _ hm rfl
  have h9 : c9 = s.heap[q] := by
    rw [hs] at e2
    exact e2
  have e5 : U.heap[q]? = some c9 := e1
  rw [e5, h9, Array.getElem?_eq_getElem hq]
/-- the words of a throw but the four that speak of the heap -/
def vx_no (w : Cond) : Bool := decide (w ≠ .isRef (.static Bundle.tN "UNASSIGNED_STACK" Bundle.steD)) && decide (w ≠ .isRef (.static Bundle.tN "SUPPRESSED_SENTINEL" Bundle.listD)) && decide (w ≠ .laysStatic Bundle.tN "UNASSIGNED_STACK" Bundle.steD) && decide (w ≠ .laysStatic Bundle.tN "SUPPRESSED_SENTINEL" Bundle.listD)
def vx_at0 (own : String) (ic : Nat) (X : String) (names : List String) : List Cond := (Bundle.ownAtoms0 own ic X names).filter vx_no
def vx_atS (own : String) (ic : Nat) (X : String) (names : List String) : List Cond := (Bundle.ownAtoms own ic X names).filter vx_no
/-- a word that the tables alone decide, or a good one -/
def vx_ot (w : Cond) : Bool := w.onTables || goodWord w
theorem vx_ot_at {args a' : Array Value} {s U : State} {w : Cond} (hW : s.WarmedH U.vm) (hvm : s.vm = U.vm) (hg : vx_ot w = true) (h : w.before args s = true) : w.before a' U = true := by
  simp only [vx_ot, Bool.or_eq_true] at hg
  rcases hg with hg | hg
  · exact va_tabs hg hvm h
  · exact word_at hW (good_of_word hg) h
/-- a list's words: the good ones out of the method's own list, the others by premises of their own -/
theorem vx_hat {args : Array Value} {s : State} {L B : List Cond} (h1 : ∀ w ∈ L.filter goodWord, w.before args s = true) (h2 : ∀ w ∈ L.filter (fun w => !goodWord w), w ∈ B) (h3 : ∀ w ∈ B, w.before args s = true) : ∀ w ∈ L, w.before args s = true := by
  intro w hw
  by_cases g : goodWord w = true
  · exact h1 w (List.mem_filter.mpr ⟨hw, g⟩)
  · refine h3 w (h2 w (List.mem_filter.mpr ⟨hw, ?_⟩))
    show (!goodWord w) = true
    cases hgw : goodWord w
    · rfl
    · exact absurd hgw g
theorem vx_c {args : Array Value} {s : State} {w : Cond} {B : List Cond} (h : w.before args s = true) (t : ∀ w ∈ B, w.before args s = true) : ∀ w' ∈ w :: B, w'.before args s = true := fun w' h' => (List.mem_cons.mp h').elim (fun e => by rw [e]; exact h) (t w')
theorem vx_n {args : Array Value} {s : State} : ∀ w ∈ ([] : List Cond), w.before args s = true := fun _ h => nomatch h
theorem vx_own {args : Array Value} {s : State} {L : List Cond} (h1 : ∀ w ∈ L.filter vx_no, w.before args s = true)
    (hU : (Cond.isRef (.static Bundle.tN "UNASSIGNED_STACK" Bundle.steD)).before args s = true) (hN : (Cond.isRef (.static Bundle.tN "SUPPRESSED_SENTINEL" Bundle.listD)).before args s = true)
    (lU : (Cond.laysStatic Bundle.tN "UNASSIGNED_STACK" Bundle.steD).before args s = true) (lN : (Cond.laysStatic Bundle.tN "SUPPRESSED_SENTINEL" Bundle.listD).before args s = true) : ∀ w ∈ L, w.before args s = true := by
  intro w hw
  by_cases e1 : w = .isRef (.static Bundle.tN "UNASSIGNED_STACK" Bundle.steD)
  · rw [e1]; exact hU
  · by_cases e2 : w = .isRef (.static Bundle.tN "SUPPRESSED_SENTINEL" Bundle.listD)
    · rw [e2]; exact hN
    · by_cases e3 : w = .laysStatic Bundle.tN "UNASSIGNED_STACK" Bundle.steD
      · rw [e3]; exact lU
      · by_cases e4 : w = .laysStatic Bundle.tN "SUPPRESSED_SENTINEL" Bundle.listD
        · rw [e4]; exact lN
        · exact h1 w (List.mem_filter.mpr ⟨hw, by unfold vx_no; rw [decide_eq_true e1, decide_eq_true e2, decide_eq_true e3, decide_eq_true e4]; rfl⟩)
/-- where a static field lies, its class's statics cell in H -/
def vx_L (C n d : String) (A : Nat → Prop) (U : State) (H : Heap) : Prop := ∃ (c : ClassId) (k : Class) (i : Nat) (f : Field) (a : Nat) (cell : Cell), U.vm.findClass C = some c ∧ U.fieldFound? C n d = some (c, k, i, f) ∧ f.isStatic = true ∧ k.statics = some a ∧ H[a]? = some cell ∧ cell.vm.isStatics = true ∧ cell.cls = c ∧ f.slot < cell.slots.size ∧ k.staticTypes[f.slot]? = some f.type ∧ ¬ A a
theorem vx_L.moved {C n d : String} {A : Nat → Prop} {u U : State} {H : Heap} (hvm : u.vm.Alike U.vm) (h : vx_L C n d A u H) : vx_L C n d A U H := by
  obtain ⟨c, k, i, f, a, cell, h1, h2, h3, h4, h5, h6, h7, h8, h9, h10⟩ := h
  obtain ⟨k', hi', he⟩ := State.fieldFound?_setVm hvm h2
  exact ⟨c, k', i, f, a, cell, by rw [hvm.findClass]; exact h1, hi', h3, by rw [he]; exact h4, h5, h6, h7, h8, by rw [he]; exact h9, h10⟩
theorem vx_L.kept {C n d : String} {A : Nat → Prop} {U : State} {H H1 : Heap} (h : vx_L C n d A U H) (hq : ∀ a : Nat, a < H.size → ¬ A a → H1[a]? = H[a]?) : vx_L C n d A U H1 := by
  obtain ⟨c, k, i, f, a, cell, h1, h2, h3, h4, h5, h6, h7, h8, h9, h10⟩ := h
  exact ⟨c, k, i, f, a, cell, h1, h2, h3, h4, by rw [hq a (Array.getElem?_eq_some_iff.mp h5).1 h10]; exact h5, h6, h7, h8, h9, h10⟩
theorem vx_L.narrow {C n d : String} {A B : Nat → Prop} {U : State} {H : Heap} (h : vx_L C n d A U H) (hAB : ∀ q, B q → A q) : vx_L C n d B U H := by
  obtain ⟨c, k, i, f, a, cell, h1, h2, h3, h4, h5, h6, h7, h8, h9, h10⟩ := h
  exact ⟨c, k, i, f, a, cell, h1, h2, h3, h4, h5, h6, h7, h8, h9, fun z => h10 (hAB _ z)⟩
theorem vx_L.word {C n d : String} {A : Nat → Prop} {s : State} {args : Array Value} (h : vx_L C n d A s s.heap) : (Cond.laysStatic C n d).before args s = true := by
  obtain ⟨c, k, i, f, a, cell, h1, h2, h3, h4, h5, h6, h7, h8, h9, -⟩ := h
  show (Cond.laysStatic C n d).holds args s none s [] = true
  exact Cond.laysStatic_of h1 h2 h3 h4 h5 h6 h7 h8 h9
/-- .. and what it holds: null or some reference -/
def vx_Zq (C n d : String) (A : Nat → Prop) (U : State) (H : Heap) : Prop := va_Zq C n d A U H ∧ vx_L C n d A U H
theorem vx_Zq.moved {C n d : String} {A : Nat → Prop} {u U : State} {H : Heap} (hvm : u.vm.Alike U.vm) (h : vx_Zq C n d A u H) : vx_Zq C n d A U H := ⟨va_Zq.moved hvm h.1, vx_L.moved hvm h.2⟩
theorem vx_Zq.kept {C n d : String} {A : Nat → Prop} {U : State} {H H1 : Heap} (h : vx_Zq C n d A U H) (hq : ∀ a : Nat, a < H.size → ¬ A a → H1[a]? = H[a]?) : vx_Zq C n d A U H1 := ⟨va_Zq.kept h.1 hq, vx_L.kept h.2 hq⟩
theorem vx_Zq.narrow {C n d : String} {A B : Nat → Prop} {U : State} {H : Heap} (h : vx_Zq C n d A U H) (hAB : ∀ q, B q → A q) : vx_Zq C n d B U H := ⟨va_Zq.narrow h.1 hAB, vx_L.narrow h.2 hAB⟩
theorem vx_Zqof {args : Array Value} {s : State} {C n d : String} {A : Nat → Prop} (hl : (Cond.laysStatic C n d).before args s = true) (hini : (Cond.initialized C).before args s = true) (h : (Cond.isRef (.static C n d)).before args s = true) (hA : ∀ a : Nat, a < s.heap.size → ¬ A a) : vx_Zq C n d A s s.heap := by
  refine ⟨va_Zqof hl hini h hA, ?_⟩
  obtain ⟨c, k, i, f, a, cell, h1, h2, h3, h4, h5, h6, h7, h8, h9⟩ := Cond.laysStatic_spec hl
  exact ⟨c, k, i, f, a, cell, h1, h2, h3, h4, h5, h6, h7, h8, h9, hA a (Array.getElem?_eq_some_iff.mp h5).1⟩
theorem vx_isRef {C n d : String} {v : Value} {A : Nat → Prop} {s : State} {args : Array Value} (h : va_Z C n d v A s s.heap) (hv : v.isRef = true) : (Cond.isRef (.static C n d)).before args s = true := by
  obtain ⟨cf, kf, fi, f, a, cell, h1, h2, h3, h4, h5, h6, h7, -⟩ := h
  have he : (Term.static C n d).eval args s none [] s = some v := by
    simp [Term.eval, State.fieldNamed?, h1, h2, h4, h5, h6, h7]
  simp only [Cond.before, Cond.holds, Cond.value, he]
  cases v <;> simp_all [Value.isRef]
theorem vx_isRefq {C n d : String} {A : Nat → Prop} {s : State} {args : Array Value} (h : va_Zq C n d A s s.heap) : (Cond.isRef (.static C n d)).before args s = true := by
  rcases h with h | ⟨t, h⟩
  · exact vx_isRef h rfl
  · exact vx_isRef h rfl
/-- the same frame, seen from here: as if the method were called anew in this heap -/
theorem vx_rebase {T : State} (X : Stand p l e R s m args below meth c T locs cells slots) {R' : Room} (hf : R'.frames ≤ R.frames) (hl : R'.locals ≤ R.locals) (hc : cells + R'.cells ≤ R.cells) (hs : slots + R'.slots ≤ R.slots) :
    Stand p l e R' ((T.setVm s.vm).setFrames (.invoking m args :: below)) m args below meth c T [] 0 0 := by
  have htop : (T.setVm s.vm).topJava?.isSome := X.here.top
  have hF : ((T.setVm s.vm).setFrames (.invoking m args :: below)).frames = .invoking m args :: below := State.frames_setFrames _ (State.cur_lt_of_top htop)
  obtain ⟨g₀, hg0⟩ := Option.isSome_iff_exists.mp htop
  obtain ⟨r, hr⟩ := State.topJava?_eq_some.mp hg0
  have hl9 : e.platform.stackLimits (T.setVm s.vm).me = e.platform.stackLimits s.me := X.limits
  have hb9 : (T.setVm s.vm).me.stackBytes = s.me.stackBytes := X.bytes
  refine ⟨X.admits, X.cas, X.clock, hF, ?_, X.hears, X.method, X.code, X.here, X.tail, X.warmed, ?_, ?_, ?_⟩
  · have h := X.room
    have hU : ((T.setVm s.vm).setFrames (.invoking m args :: below)).localsInUse = s.localsInUse := by
      rw [State.localsInUse_invoking hF (meth := meth) (c := c) X.method X.code, State.localsInUse_invoking X.frames X.method X.code]
    simp only [State.hasRoom, Bool.and_eq_true, decide_eq_true_eq] at h ⊢
    obtain ⟨⟨⟨⟨h1, h2, h3, h4, h5, h6⟩, h7⟩, h8⟩, h9⟩ := h
    rw [X.frames, List.length_cons] at h2 h3
    have q1 := X.heapSize
    have q2 := X.used
    simp only [hF, hU, List.length_cons, State.stackLimits_setFrames, State.stackBytes_setFrames, hl9, hb9]
    refine ⟨⟨⟨⟨by omega, by omega, by omega, by omega, by omega, h6⟩, ?_⟩, ?_⟩, X.book⟩
    · show T.heap.size + R'.cells ≤ e.platform.maxCells
      omega
    · show T.slotsUsed + R'.slots ≤ e.platform.maxSlots
      omega
  · rw [State.stackLimits_setFrames]; rfl
  · rw [State.stackBytes_setFrames]; rfl
  · refine ⟨?_, Nat.le_refl _, Nat.le_refl _, ?_, ?_, fun a c9 h9 => ⟨c9, h9, rfl, rfl, fun _ _ => rfl⟩⟩
    · obtain ⟨t, ht, -⟩ := State.frames_cons hr
      show T.setVm s.vm = { ((T.setVm s.vm).setFrames (.invoking m args :: below)).setFrames (T.setVm s.vm).frames with heap := T.heap, slotsUsed := T.slotsUsed }
      rw [State.setFrames_setFrames, State.setFrames_self ht]
      rfl
    · show T.slotsUsed = T.slotsUsed + ((T.heap.toList.drop T.heap.size).map (·.slots.size)).sum
      rw [List.drop_eq_nil_of_le (Nat.le_of_eq Array.length_toList)]
      rfl
    · show ((T.heap.toList.drop T.heap.size).map (·.slots.size)).sum ≤ 0
      rw [List.drop_eq_nil_of_le (Nat.le_of_eq Array.length_toList)]
      exact Nat.le_refl _
/-- 'throw new E()': new; dup; invokespecial; athrow -/
theorem vx_throw0 {cc : ByteArray} {pc : Nat} (hexec : p.tables.exec = Jvm.exec) (hb : c.code = cc) (hl : l.stackTraces = false) {own cls : String} {names : List String} {ik ic mc ms : Nat} {A : Nat → Prop}
    (hown : s.vm.findClass own = some m.cls) (hcls : Bundle.fit cls = true) (hnames : ∀ n ∈ names, Bundle.fit n = true)
    (hk : (Cond.classLink own ik cls).before args s = true) (hini : (Cond.initialized cls).before args s = true) (hat : ∀ w ∈ vx_at0 own ic cls names, w.before args s = true)
    (hgood : ∀ w ∈ Cond.classLink own ik cls :: Cond.initialized cls :: vx_at0 own ic cls names, vx_ot w = true)
    (hU : vx_Zq Bundle.tN "UNASSIGNED_STACK" Bundle.steD A s s.heap) (hN : vx_Zq Bundle.tN "SUPPRESSED_SENTINEL" Bundle.listD A s s.heap) (hS : va_S A s.heap H locs) (hsize : ls.size = c.maxLocals)
    (d0 : decode cc pc = .ok (.new ik, 3)) (d3 : decode cc (pc + 3) = .ok (.dup, 1)) (d4 : decode cc (pc + 4) = .ok (.invokespecial ic, 3)) (d7 : decode cc (pc + 7) = .ok (.athrow, 1))
    (hout : ∀ x ∈ c.exceptionTable.toList, covers x (pc + 7) = false)
    (hRframes : names.length + 3 < R.frames) (hRlocals : (rest.map fun v => v.category).sum + (13 * (names.length + 1) + 42) ≤ R.locals) (hRcells : cells + 1 ≤ R.cells) (hRslots : slots + 6 ≤ R.slots) (hlocks : meth.locks = false)
    (hx : ∀ t : State, s.vm.Alike t.vm → H.size ≤ t.heap.size → (∀ q : Nat, q < H.size → t.heap[q]? = H[q]?) → XC cls s t)
    (hf : ∀ z ∈ locs, free z.base) (hc : cells + 1 ≤ mc) (hs : slots + 6 ≤ ms) :
    W p l e R s m args below meth c H locs cells slots (vx_MQ below Qc XC args s mc ms free) (F0 m pc ls rest) := by
  intro T hT X
  have htr : e.platform.stackTraces = false := (show e.platform.stackTraces = l.stackTraces by rw [X.admits.platform]).trans hl
  have Y := vx_rebase X (R' := { frames := R.frames, locals := R.locals, cells := 1, slots := 6 }) (Nat.le_refl _) (Nat.le_refl _) hRcells hRslots
  obtain ⟨s', hA⟩ : ∃ z, z = (T.setVm s.vm).setFrames (.invoking m args :: below) := ⟨_, rfl⟩
  rw [← hA] at Y
  have hvm : s'.vm = s.vm := by rw [hA]; rfl
  have hhp : s'.heap = H := by rw [hA]; exact hT
  have hW0 : s.WarmedH s'.vm := by rw [hvm]; exact State.WarmedH.refl s
  have hat' : ∀ w ∈ vx_at0 own ic cls names, w.before args s' = true := fun w hw => vx_ot_at hW0 hvm.symm (hgood w (List.mem_cons_of_mem _ (List.mem_cons_of_mem _ hw))) (hat w hw)
  have hk' : (Cond.classLink own ik cls).before args s' = true := vx_ot_at hW0 hvm.symm (hgood _ List.mem_cons_self) hk
  have hini' : (Cond.initialized cls).before args s' = true := vx_ot_at hW0 hvm.symm (hgood _ (List.mem_cons_of_mem _ List.mem_cons_self)) hini
  have hU' : vx_Zq Bundle.tN "UNASSIGNED_STACK" Bundle.steD A s' s'.heap := by rw [hhp]; exact vx_Zq.moved hW0.alike (hU.kept hS.2.1)
  have hN' : vx_Zq Bundle.tN "SUPPRESSED_SENTINEL" Bundle.listD A s' s'.heap := by rw [hhp]; exact vx_Zq.moved hW0.alike (hN.kept hS.2.1)
  have h : ∀ w ∈ Bundle.ownAtoms0 own ic cls names, w.before args s' = true := vx_own hat' (vx_isRefq hU'.1) (vx_isRefq hN'.1) hU'.2.word hN'.2.word
  have hown' : s'.vm.findClass own = some m.cls := by rw [hvm]; exact hown
  have hins : (Cond.instantiable cls 6).before args s' = true := h _ (by simp [Bundle.ownAtoms0])
  obtain ⟨vm₁, cX, kX, hfX, hkX, -, -, X₁, st1⟩ := Y.newCold hexec (own := own) (C := cls) (index := ik) (n := 6) hown' hk' hins hini'
    (g := F0 m pc ls rest) rfl (by rw [hb]; exact d0) (Nat.le_refl _) (Nat.le_refl _)
  generalize hT1 : (T.setVm vm₁).pushCell { cls := cX, slots := kX.instanceTypes.map defaultValue, vm := .none } = T1 at X₁ st1
  have hcat : (Value.ref T.heap.size).category = 1 := rfl
  have hcellA : T1.heap[T.heap.size]? = some (freshCell cX kX) := by rw [← hT1]; exact State.heap_pushCell_size _ _
  have d3' : decode c.code (pc + 3) = .ok (.dup, 1) := by rw [hb]; exact d3
  obtain ⟨U, hsteps, hrun, hend, hW, hsame, ce, hce, hO⟩ := X₁.ctorThrow0 hexec htr (own := own) (cls := cls) (names := names) (ic := ic) hown' hcls hnames h (fun x hx => nomatch hx) hfX hkX hcellA (by rw [hhp, hT]; exact Nat.le_refl _)
    (g := { method := m, pc := pc + 4, locals := ls, stack := .ref T.heap.size :: .ref T.heap.size :: rest, locked := none }) rfl hsize rfl rfl (rest := rest) rfl
    (by rw [hb]; exact d4) (by rw [hb]; exact d7) hout hRframes (by simp only [List.map_cons, List.sum_cons, hcat]; omega) hlocks
  obtain ⟨f1, f2⟩ := vx_frame hsame
  rw [hhp] at f1 f2
  have hWs : s.WarmedH U.vm := State.WarmedH.trans hW0 hW
  have hcl : s.vm.findClass cls = some ce.cls := by
    have h9 := hO.cls
    rw [hvm] at h9
    exact h9
  have hall : s.sameButNew ({ U with vm := s.vm } : State) locs mc ms := by
    subst hA
    obtain ⟨e1, e2⟩ := hsame
    rw [State.setFrames_setFrames] at e1
    have h2 : (T.setVm s.vm).sameButNew ({ U with vm := s.vm } : State) [] (0 + 1) (0 + 6) := ⟨e1, e2⟩
    have h3 := X.same.trans h2
    rw [List.append_nil] at h3
    exact h3.mono hc hs
  refine ⟨U, ?_, .threw T.heap.size, hrun, hend, Or.inr ⟨T.heap.size, rfl, cls, ce, locs, hx U hWs.alike f1 (fun q hq => f2 q hq (fun z hz => nomatch hz)), hce, hO.vm, hcl, hWs, hall, hf⟩⟩
  refine st1 _ ?_
  show Steps p.tables e below (T1.setTop { method := m, pc := pc + 3, locals := ls, stack := .ref T.heap.size :: rest, locked := none }) _
  jvm_step X₁.here [X₁.here.top, hexec, d3', Value.category]
  exact hsteps
/-- 'throw new E("text")': new; dup; ldc; invokespecial; athrow -/
theorem vx_throwS {cc : ByteArray} {pc : Nat} (hexec : p.tables.exec = Jvm.exec) (hb : c.code = cc) (hl : l.stackTraces = false) {own cls text : String} {names : List String} {ik is ic mc ms sa : Nat} {A : Nat → Prop}
    (hown : s.vm.findClass own = some m.cls) (hcls : Bundle.fit cls = true) (hnames : ∀ n ∈ names, Bundle.fit n = true)
    (hk : (Cond.classLink own ik cls).before args s = true) (hini : (Cond.initialized cls).before args s = true) (hstr : vk_R own is text sa s) (hat : ∀ w ∈ vx_atS own ic cls names, w.before args s = true)
    (hgood : ∀ w ∈ Cond.classLink own ik cls :: Cond.initialized cls :: vx_atS own ic cls names, vx_ot w = true)
    (hU : vx_Zq Bundle.tN "UNASSIGNED_STACK" Bundle.steD A s s.heap) (hN : vx_Zq Bundle.tN "SUPPRESSED_SENTINEL" Bundle.listD A s s.heap) (hS : va_S A s.heap H locs) (hsize : ls.size = c.maxLocals)
    (d0 : decode cc pc = .ok (.new ik, 3)) (d3 : decode cc (pc + 3) = .ok (.dup, 1)) (d4 : decode cc (pc + 4) = .ok (.ldc is, 2)) (d6 : decode cc (pc + 6) = .ok (.invokespecial ic, 3)) (d9 : decode cc (pc + 9) = .ok (.athrow, 1))
    (hout : ∀ x ∈ c.exceptionTable.toList, covers x (pc + 9) = false)
    (hRframes : names.length + 3 < R.frames) (hRlocals : (rest.map fun v => v.category).sum + (13 * (names.length + 1) + 43) ≤ R.locals) (hRcells : cells + 1 ≤ R.cells) (hRslots : slots + 6 ≤ R.slots) (hlocks : meth.locks = false)
    (hx : ∀ t : State, s.vm.Alike t.vm → H.size ≤ t.heap.size → (∀ q : Nat, q < H.size → t.heap[q]? = H[q]?) → XC cls s t)
    (hf : ∀ z ∈ locs, free z.base) (hc : cells + 1 ≤ mc) (hs : slots + 6 ≤ ms) :
    W p l e R s m args below meth c H locs cells slots (vx_MQ below Qc XC args s mc ms free) (F0 m pc ls rest) := by
  intro T hT X
  have htr : e.platform.stackTraces = false := (show e.platform.stackTraces = l.stackTraces by rw [X.admits.platform]).trans hl
  have Y := vx_rebase X (R' := { frames := R.frames, locals := R.locals, cells := 1, slots := 6 }) (Nat.le_refl _) (Nat.le_refl _) hRcells hRslots
  obtain ⟨s', hA⟩ : ∃ z, z = (T.setVm s.vm).setFrames (.invoking m args :: below) := ⟨_, rfl⟩
  rw [← hA] at Y
  have hvm : s'.vm = s.vm := by rw [hA]; rfl
  have hhp : s'.heap = H := by rw [hA]; exact hT
  have hW0 : s.WarmedH s'.vm := by rw [hvm]; exact State.WarmedH.refl s
  have hat' : ∀ w ∈ vx_atS own ic cls names, w.before args s' = true := fun w hw => vx_ot_at hW0 hvm.symm (hgood w (List.mem_cons_of_mem _ (List.mem_cons_of_mem _ hw))) (hat w hw)
  have hk' : (Cond.classLink own ik cls).before args s' = true := vx_ot_at hW0 hvm.symm (hgood _ List.mem_cons_self) hk
  have hini' : (Cond.initialized cls).before args s' = true := vx_ot_at hW0 hvm.symm (hgood _ (List.mem_cons_of_mem _ List.mem_cons_self)) hini
  have hU' : vx_Zq Bundle.tN "UNASSIGNED_STACK" Bundle.steD A s' s'.heap := by rw [hhp]; exact vx_Zq.moved hW0.alike (hU.kept hS.2.1)
  have hN' : vx_Zq Bundle.tN "SUPPRESSED_SENTINEL" Bundle.listD A s' s'.heap := by rw [hhp]; exact vx_Zq.moved hW0.alike (hN.kept hS.2.1)
  have h : ∀ w ∈ Bundle.ownAtoms own ic cls names, w.before args s' = true := vx_own hat' (vx_isRefq hU'.1) (vx_isRefq hN'.1) hU'.2.word hN'.2.word
  have hown' : s'.vm.findClass own = some m.cls := by rw [hvm]; exact hown
  have hins : (Cond.instantiable cls 6).before args s' = true := h _ (by simp [Bundle.ownAtoms])
  obtain ⟨vm₁, cX, kX, hfX, hkX, -, -, X₁, st1⟩ := Y.newCold hexec (own := own) (C := cls) (index := ik) (n := 6) hown' hk' hins hini'
    (g := F0 m pc ls rest) rfl (by rw [hb]; exact d0) (Nat.le_refl _) (Nat.le_refl _)
  generalize hT1 : (T.setVm vm₁).pushCell { cls := cX, slots := kX.instanceTypes.map defaultValue, vm := .none } = T1 at X₁ st1
  have hcat : (Value.ref T.heap.size).category = 1 := rfl
  have hcellA : T1.heap[T.heap.size]? = some (freshCell cX kX) := by rw [← hT1]; exact State.heap_pushCell_size _ _
  have d3' : decode c.code (pc + 3) = .ok (.dup, 1) := by rw [hb]; exact d3
  have d4' : decode c.code (pc + 4) = .ok (.ldc is, 2) := by rw [hb]; exact d4
  have hstr' : vk_R own is text sa s' := vk_R.warm hW0 hstr
  obtain ⟨U, hsteps, hrun, hend, hW, hsame, ce, hce, hO⟩ := X₁.ctorThrowS hexec htr (own := own) (cls := cls) (names := names) (ic := ic) hown' hcls hnames h (fun x hx => nomatch hx) hfX hkX hcellA (by rw [hhp, hT]; exact Nat.le_refl _) (msg := .ref sa) rfl
    (g := { method := m, pc := pc + 6, locals := ls, stack := .ref sa :: .ref T.heap.size :: .ref T.heap.size :: rest, locked := none }) rfl hsize rfl rfl (rest := rest) rfl
    (by rw [hb]; exact d6) (by rw [hb]; exact d9) hout hRframes (by simp only [List.map_cons, List.sum_cons, hcat]; omega) hlocks
  obtain ⟨f1, f2⟩ := vx_frame hsame
  rw [hhp] at f1 f2
  have hWs : s.WarmedH U.vm := State.WarmedH.trans hW0 hW
  have hcl : s.vm.findClass cls = some ce.cls := by
    have h9 := hO.cls
    rw [hvm] at h9
    exact h9
  have hall : s.sameButNew ({ U with vm := s.vm } : State) locs mc ms := by
    subst hA
    obtain ⟨e1, e2⟩ := hsame
    rw [State.setFrames_setFrames] at e1
    have h2 : (T.setVm s.vm).sameButNew ({ U with vm := s.vm } : State) [] (0 + 1) (0 + 6) := ⟨e1, e2⟩
    have h3 := X.same.trans h2
    rw [List.append_nil] at h3
    exact h3.mono hc hs
  refine ⟨U, ?_, .threw T.heap.size, hrun, hend, Or.inr ⟨T.heap.size, rfl, cls, ce, locs, hx U hWs.alike f1 (fun q hq => f2 q hq (fun z hz => nomatch hz)), hce, hO.vm, hcl, hWs, hall, hf⟩⟩
  refine st1 _ ?_
  show Steps p.tables e below (T1.setTop { method := m, pc := pc + 3, locals := ls, stack := .ref T.heap.size :: rest, locked := none }) _
  jvm_step X₁.here [X₁.here.top, hexec, d3', Value.category]
  exact X₁.ldcString hexec (own := own) (text := text) (index := is) (a := sa) hown' hstr'.1 hstr'.2
    (g := { method := m, pc := pc + 4, locals := ls, stack := .ref T.heap.size :: .ref T.heap.size :: rest, locked := none }) rfl d4' _ hsteps
/-- 'throw new E("text")', the text by a wide index -/
theorem vx_throwSW {cc : ByteArray} {pc : Nat} (hexec : p.tables.exec = Jvm.exec) (hb : c.code = cc) (hl : l.stackTraces = false) {own cls text : String} {names : List String} {ik is ic mc ms sa : Nat} {A : Nat → Prop}
    (hown : s.vm.findClass own = some m.cls) (hcls : Bundle.fit cls = true) (hnames : ∀ n ∈ names, Bundle.fit n = true)
    (hk : (Cond.classLink own ik cls).before args s = true) (hini : (Cond.initialized cls).before args s = true) (hstr : vk_R own is text sa s) (hat : ∀ w ∈ vx_atS own ic cls names, w.before args s = true)
    (hgood : ∀ w ∈ Cond.classLink own ik cls :: Cond.initialized cls :: vx_atS own ic cls names, vx_ot w = true)
    (hU : vx_Zq Bundle.tN "UNASSIGNED_STACK" Bundle.steD A s s.heap) (hN : vx_Zq Bundle.tN "SUPPRESSED_SENTINEL" Bundle.listD A s s.heap) (hS : va_S A s.heap H locs) (hsize : ls.size = c.maxLocals)
    (d0 : decode cc pc = .ok (.new ik, 3)) (d3 : decode cc (pc + 3) = .ok (.dup, 1)) (d4 : decode cc (pc + 4) = .ok (.ldc_w is, 3)) (d7 : decode cc (pc + 7) = .ok (.invokespecial ic, 3)) (d10 : decode cc (pc + 10) = .ok (.athrow, 1))
    (hout : ∀ x ∈ c.exceptionTable.toList, covers x (pc + 10) = false)
    (hRframes : names.length + 3 < R.frames) (hRlocals : (rest.map fun v => v.category).sum + (13 * (names.length + 1) + 43) ≤ R.locals) (hRcells : cells + 1 ≤ R.cells) (hRslots : slots + 6 ≤ R.slots) (hlocks : meth.locks = false)
    (hx : ∀ t : State, s.vm.Alike t.vm → H.size ≤ t.heap.size → (∀ q : Nat, q < H.size → t.heap[q]? = H[q]?) → XC cls s t)
    (hf : ∀ z ∈ locs, free z.base) (hc : cells + 1 ≤ mc) (hs : slots + 6 ≤ ms) :
    W p l e R s m args below meth c H locs cells slots (vx_MQ below Qc XC args s mc ms free) (F0 m pc ls rest) := by
  intro T hT X
  have htr : e.platform.stackTraces = false := (show e.platform.stackTraces = l.stackTraces by rw [X.admits.platform]).trans hl
  have Y := vx_rebase X (R' := { frames := R.frames, locals := R.locals, cells := 1, slots := 6 }) (Nat.le_refl _) (Nat.le_refl _) hRcells hRslots
  obtain ⟨s', hA⟩ : ∃ z, z = (T.setVm s.vm).setFrames (.invoking m args :: below) := ⟨_, rfl⟩
  rw [← hA] at Y
  have hvm : s'.vm = s.vm := by rw [hA]; rfl
  have hhp : s'.heap = H := by rw [hA]; exact hT
  have hW0 : s.WarmedH s'.vm := by rw [hvm]; exact State.WarmedH.refl s
  have hat' : ∀ w ∈ vx_atS own ic cls names, w.before args s' = true := fun w hw => vx_ot_at hW0 hvm.symm (hgood w (List.mem_cons_of_mem _ (List.mem_cons_of_mem _ hw))) (hat w hw)
  have hk' : (Cond.classLink own ik cls).before args s' = true := vx_ot_at hW0 hvm.symm (hgood _ List.mem_cons_self) hk
  have hini' : (Cond.initialized cls).before args s' = true := vx_ot_at hW0 hvm.symm (hgood _ (List.mem_cons_of_mem _ List.mem_cons_self)) hini
  have hU' : vx_Zq Bundle.tN "UNASSIGNED_STACK" Bundle.steD A s' s'.heap := by rw [hhp]; exact vx_Zq.moved hW0.alike (hU.kept hS.2.1)
  have hN' : vx_Zq Bundle.tN "SUPPRESSED_SENTINEL" Bundle.listD A s' s'.heap := by rw [hhp]; exact vx_Zq.moved hW0.alike (hN.kept hS.2.1)
  have h : ∀ w ∈ Bundle.ownAtoms own ic cls names, w.before args s' = true := vx_own hat' (vx_isRefq hU'.1) (vx_isRefq hN'.1) hU'.2.word hN'.2.word
  have hown' : s'.vm.findClass own = some m.cls := by rw [hvm]; exact hown
  have hins : (Cond.instantiable cls 6).before args s' = true := h _ (by simp [Bundle.ownAtoms])
  obtain ⟨vm₁, cX, kX, hfX, hkX, -, -, X₁, st1⟩ := Y.newCold hexec (own := own) (C := cls) (index := ik) (n := 6) hown' hk' hins hini'
    (g := F0 m pc ls rest) rfl (by rw [hb]; exact d0) (Nat.le_refl _) (Nat.le_refl _)
  generalize hT1 : (T.setVm vm₁).pushCell { cls := cX, slots := kX.instanceTypes.map defaultValue, vm := .none } = T1 at X₁ st1
  have hcat : (Value.ref T.heap.size).category = 1 := rfl
  have hcellA : T1.heap[T.heap.size]? = some (freshCell cX kX) := by rw [← hT1]; exact State.heap_pushCell_size _ _
  have d3' : decode c.code (pc + 3) = .ok (.dup, 1) := by rw [hb]; exact d3
  have d4' : decode c.code (pc + 4) = .ok (.ldc_w is, 3) := by rw [hb]; exact d4
  have hstr' : vk_R own is text sa s' := vk_R.warm hW0 hstr
  obtain ⟨U, hsteps, hrun, hend, hW, hsame, ce, hce, hO⟩ := X₁.ctorThrowS hexec htr (own := own) (cls := cls) (names := names) (ic := ic) hown' hcls hnames h (fun x hx => nomatch hx) hfX hkX hcellA (by rw [hhp, hT]; exact Nat.le_refl _) (msg := .ref sa) rfl
    (g := { method := m, pc := pc + 7, locals := ls, stack := .ref sa :: .ref T.heap.size :: .ref T.heap.size :: rest, locked := none }) rfl hsize rfl rfl (rest := rest) rfl
    (by rw [hb]; exact d7) (by rw [hb]; exact d10) hout hRframes (by simp only [List.map_cons, List.sum_cons, hcat]; omega) hlocks
  obtain ⟨f1, f2⟩ := vx_frame hsame
  rw [hhp] at f1 f2
  have hWs : s.WarmedH U.vm := State.WarmedH.trans hW0 hW
  have hcl : s.vm.findClass cls = some ce.cls := by
    have h9 := hO.cls
    rw [hvm] at h9
    exact h9
  have hall : s.sameButNew ({ U with vm := s.vm } : State) locs mc ms := by
    subst hA
    obtain ⟨e1, e2⟩ := hsame
    rw [State.setFrames_setFrames] at e1
    have h2 : (T.setVm s.vm).sameButNew ({ U with vm := s.vm } : State) [] (0 + 1) (0 + 6) := ⟨e1, e2⟩
    have h3 := X.same.trans h2
    rw [List.append_nil] at h3
    exact h3.mono hc hs
  refine ⟨U, ?_, .threw T.heap.size, hrun, hend, Or.inr ⟨T.heap.size, rfl, cls, ce, locs, hx U hWs.alike f1 (fun q hq => f2 q hq (fun z hz => nomatch hz)), hce, hO.vm, hcl, hWs, hall, hf⟩⟩
  refine st1 _ ?_
  show Steps p.tables e below (T1.setTop { method := m, pc := pc + 3, locals := ls, stack := .ref T.heap.size :: rest, locked := none }) _
  jvm_step X₁.here [X₁.here.top, hexec, d3', Value.category]
  exact X₁.ldcStringW hexec (own := own) (text := text) (index := is) (a := sa) hown' hstr'.1 hstr'.2
    (g := { method := m, pc := pc + 4, locals := ls, stack := .ref T.heap.size :: .ref T.heap.size :: rest, locked := none }) rfl d4' _ hsteps
end Ends
section Bodies
variable {l : Launch}
theorem vx_ofW {y : MethodName} {ws ws' : List Cond} {rm : Room} {Pc : Array Value → State → Prop} {Qc : Array Value → State → Outcome → State → Prop} {XC : String → State → State → Prop} {mc ms : Nat} {free : Addr → Prop} {cc : ByteArray} {maxL : Nat} {ret : Option FieldType}
    (hy : plainName y.cls = true) (hw : ws = Cond.code y cc maxL ret :: ws')
    (body : ∀ p e s m args below meth c s₁, BodyLoose p l y (headSpec ws rm) cc maxL ret e s m args below meth c s₁ → c.maxLocals = maxL → (∀ x ∈ c.exceptionTable.toList, False) → Pc args s →
      W p l e (headSpec ws rm).room s m args below meth c s.heap [] 0 0 (vx_MQ below Qc XC args s mc ms free) (entryFrame m args maxL)) : vx_Met l y ws rm Pc Qc XC mc ms free := by
  refine MetFree.of_bodyS (code := cc) (maxLocals := maxL) (ret := ret) hy ?_ ?_
  · intro args s m h hn
    obtain ⟨meth, c, h1, h2, h3, h4, h5, h6, -, -⟩ := Cond.code_spec hn (atoms_spec (ws := ws) h _ (by rw [hw]; exact List.mem_cons_self))
    exact ⟨meth, c, h1, h2, h3, h4, h5, h6⟩
  · intro p e s m args below meth c s₁ B hml hP _
    have hh0 : s₁.heap = s.heap := by rw [B.state]; rfl
    have ht : ∀ x ∈ c.exceptionTable.toList, False := by
      obtain ⟨meth9, c9, h1, h2, -, -, -, -, h7, -⟩ := Cond.code_spec B.named (atoms_spec (ws := ws) B.pre _ (by rw [hw]; exact List.mem_cons_self))
      cases Option.some.inj (h1.symm.trans B.method)
      cases Option.some.inj (h2.symm.trans (Stand.of_body B).code)
      intro x hx
      rw [Array.isEmpty_iff.mp h7] at hx
      cases hx
    obtain ⟨t, a1, o, b1, b2, b3⟩ := body p e s m args below meth c s₁ B hml ht hP s₁ hh0 (Stand.of_body B)
    exact ⟨t, o, a1, b1, b2, b3⟩
/-- the table of a body with handlers -/
theorem vx_table {p : Program} {x y : MethodName} {S : Spec} {cc bytes : ByteArray} {maxL maxL' : Nat} {ret ret' : Option FieldType} {e : Env} {s s₁ : State} {m : MethodId} {args : Array Value} {below : List Frame} {meth : Method} {c : Code} {hh : List (Nat × Nat × Nat × Nat)}
    (B : BodyLoose p l y S cc maxL ret e s m args below meth c s₁) (h : (Cond.codeWith y bytes maxL' ret' hh).before args s = true) : c.exceptionTable.toList = tableOf hh := by
  obtain ⟨m9, meth9, c9, hn9, h1, h2, -, -, h6, -⟩ := Cond.codeWith_spec h
  cases Option.some.inj (hn9.symm.trans B.named)
  cases Option.some.inj (h1.symm.trans B.method)
  cases Option.some.inj (h2.symm.trans (Stand.of_body B).code)
  rw [← h6, table_eq]
end Bodies
end VXA
/-! ===== END ===== -/
/-! ===== BEGIN a static call of a method with an exception table ===== -/
section VXS
variable {p : Program} {l : Launch} {e : Env} {R : Room} {s : State} {m : MethodId} {args : Array Value} {below : List Frame} {meth : Method} {c : Code} {T : State} {H : Heap} {locs : List Loc} {cells slots : Nat}
abbrev vx_CSW (R : Room) (s : State) (args : Array Value) (own : String) (index : Nat) (y : MethodName) (bytes : ByteArray) (maxL : Nat) (ret : Option FieldType) (hh : List (Nat × Nat × Nat × Nat)) (ws : List Cond) (rm : Room) (mc ms n : Nat) : Prop :=
  (rm.cells = mc ∧ rm.slots = ms ∧ rm.frames + 1 ≤ R.frames ∧ 8 + (maxL + 11) + rm.locals ≤ R.locals ∧ (∀ w ∈ ws, ∀ (a' : Array Value) (U : State), s.WarmedH U.vm → w.before a' U = true) ∧ Cond.codeWith y bytes maxL ret hh ∈ ws) ∧
  (Cond.codeWith y bytes maxL ret hh).before args s = true ∧ (Cond.initialized y.cls).before args s = true ∧ (y.cls ≠ "java/lang/invoke/MethodHandle" ∧ y.cls ≠ "java/lang/invoke/VarHandle") ∧
  (∀ sig, parseMethodDescriptor y.desc = some sig → n = sig.parameters.length) ∧ (Cond.methodLink own index y).before args s = true ∧ (Cond.static y).before args s = true
theorem vx_cwSW {own : String} {index maxL mc ms : Nat} {y : MethodName} {bytes : ByteArray} {ret : Option FieldType} {hh : List (Nat × Nat × Nat × Nat)} {Ts ws ws' : List Cond} {rm : Room} (n : Nat) (ht : ∀ w ∈ Ts, w.before args s = true) (hT : GoodIn Ts (va_wsS own index y ws)) (hw : ws = Cond.codeWith y bytes maxL ret hh :: ws') (hrc : rm.cells = mc) (hrs : rm.slots = ms)
    (hd : y.cls ≠ "java/lang/invoke/MethodHandle" ∧ y.cls ≠ "java/lang/invoke/VarHandle" ∧ (parseMethodDescriptor y.desc).map (fun d => d.parameters.length) = some n) (hR : rm.frames + 1 ≤ R.frames ∧ 8 + (maxL + 11) + rm.locals ≤ R.locals) :
    vx_CSW R s args own index y bytes maxL ret hh ws rm mc ms n := by
  have ok : ∀ w ∈ va_wsS own index y ws, w.before args s = true := fun w h => ht w (hT w h).1
  have hG : GoodIn Ts ws := fun w h => hT w (by unfold va_wsS; exact List.mem_append_right _ h)
  have hc : Cond.codeWith y bytes maxL ret hh ∈ ws := by rw [hw]; exact List.mem_cons_self
  refine ⟨⟨hrc, hrs, hR.1, hR.2, pay_in ht hG, hc⟩, ht _ (hG _ hc).1, ok _ (by simp [va_wsS]), ⟨hd.1, hd.2.1⟩, fun sig h => ?_, ok _ (by simp [va_wsS]), ok _ (by simp [va_wsS])⟩
  have h2 := hd.2.2
  rw [h] at h2
  exact (Option.some.inj h2).symm
theorem vx_callSW (X : Stand p l e R s m args below meth c T locs cells slots) (hexec : p.tables.exec = Jvm.exec) {own : String} {index : Nat} {y : MethodName} {bytes : ByteArray} {maxL : Nat} {ret : Option FieldType} {hh : List (Nat × Nat × Nat × Nat)}
    (hown : s.vm.findClass own = some m.cls) (hlink : (Cond.methodLink own index y).before args s = true) (hstat : (Cond.static y).before args s = true) (hinit : (Cond.initialized y.cls).before args s = true)
    (hcode : (Cond.codeWith y bytes maxL ret hh).before args s = true) (hy : y.cls ≠ "java/lang/invoke/MethodHandle" ∧ y.cls ≠ "java/lang/invoke/VarHandle")
    {W9 : Nat} {Pre : Pt → Array Value → Prop} {Post : Pt → Array Value → Option Value → Pt → Prop} (hK : Back l R p e below s args y 3 W9 Pre Post)
    {g : JFrame} (hg : g.method = m) (hsize : g.locals.size = c.maxLocals) {argsL rest : List Value} (hlen : ∀ sig, parseMethodDescriptor y.desc = some sig → argsL.length = sig.parameters.length)
    (hstack : g.stack = argsL.reverse ++ rest) (hW : 2 * g.monitorRoom + (rest.map fun v => v.category).sum ≤ W9) (hdg : decode c.code g.pc = .ok (.invokestatic index, 3))
    (hpre : ∀ vm₁, s.WarmedH vm₁ → Pre ⟨T.setVm vm₁, locs, cells, slots⟩ argsL.toArray) :
    ∃ (v : Option Value) (vm₁ : Vm) (B : Pt), s.WarmedH vm₁ ∧ Stand p l e R s m args below meth c B.U B.locs B.cells B.slots ∧ Post ⟨T.setVm vm₁, locs, cells, slots⟩ argsL.toArray v B ∧
      ∀ target, Steps p.tables e below (B.U.setTop { g with pc := g.pc + 3, stack := v.toList ++ rest }) target → Steps p.tables e below (T.setTop g) target := by
  obtain ⟨mk, methM, cM, hnamed, hmethM, -, -, -, -, -, -, hsigM⟩ := Cond.codeWith_spec hcode
  have hstatic : methM.isStatic = true := Cond.static_spec hnamed hmethM hstat
  obtain ⟨kP, hkP, -⟩ := className_of_methodNamed hnamed
  have hinitP : kP.init = .initialized := Cond.initialized_spec (findClass_of_methodNamed hnamed) hkP hinit
  obtain ⟨vm₁, X₁, hstep₁⟩ := X.invokestatic hexec hown hlink hnamed hmethM hstatic hkP hinitP hy (g := g) hg (argsL := argsL) (rest := rest) (hlen _ hsigM) hstack hdg
  obtain ⟨v, B, X', hpost, hsteps⟩ := hK m meth c ⟨T.setVm vm₁, locs, cells, slots⟩ { g with stack := rest } (.invokestatic index) mk argsL.toArray X₁ hg hsize hdg hW (X₁.named hnamed) (hpre vm₁ X₁.warmed)
  exact ⟨v, vm₁, B, X₁.warmed, X', hpost, fun target h => hstep₁ _ fun acts => by rw [doInvoke_state]; exact hsteps.trans h⟩
theorem vx_runSW {y : MethodName} {bytes cc : ByteArray} {maxL nL mc ms n index : Nat} {ret : Option FieldType} {hh : List (Nat × Nat × Nat × Nat)} {ws : List Cond} {rm : Room} {Pc : Array Value → State → Prop} {Qc : Array Value → State → Outcome → State → Prop} {free : Addr → Prop} {Ts : List Cond} {own : String} {As rest : List Value} {g : JFrame}
    (S : CallFix p m c cc nL s args Ts own) (hM : Met l y ws rm Pc Qc mc ms free) (cw : vx_CSW R s args own index y bytes maxL ret hh ws rm mc ms n) (hp : PreS s H Pc As)
    (hg : g.method = m) (hn : As.length = n) (hsize : g.locals.size = nL) (hstack : g.stack = As.reverse ++ rest) (hW : 2 * g.monitorRoom + (rest.map fun v => v.category).sum ≤ 8) (hdg : decode cc g.pc = .ok (.invokestatic index, 3)) (hf : cells + mc ≤ R.cells ∧ slots + ms ≤ R.slots) :
    va_Run p l e R s m args below meth c H locs cells slots mc ms g rest (Qc As.toArray) (free) := by
  obtain ⟨⟨hrc, hrs, hfr, hlo, hws, hcw⟩, hcode, hini, hy, hlen, hl, hstt⟩ := cw
  have hK : Back l R p e below s args y 3 8 (PreOf R mc ms Pc) (PostOf Qc mc ms free) := va_backW (hh := hh) (bytes := bytes) (maxL := maxL) (ret := ret) hM hp.1 hrc hrs hfr hlo hws hcw (fun a' U hW => word_at hW (Or.inl (by first | rfl | simp [Cond.onTables, Cond.keeps, Cond.steady])) hini)
  obtain ⟨hx, hb, hml, ho, -⟩ := S
  intro T hT X
  obtain ⟨v, vm₁, ⟨U', l2, c2, s2⟩, hW₁, X', ⟨g', mk, t, L, e1, e2, hq, h1, hL, h2, h3⟩, st⟩ := vx_callSW X hx (hh := hh) (bytes := bytes) (maxL := maxL) (ret := ret) ho hl hstt hini hcode hy hK hg (hsize.trans hml.symm) (argsL := As) (rest := rest) (fun sig h => hn.trans (hlen sig h)) hstack hW (by rw [hb]; exact hdg)
    (fun vm₁ hW₁ => ⟨hf.1, hf.2, hp.2 (T.setVm vm₁) hT hW₁⟩)
  dsimp only [Pt.U, Pt.locs, Pt.cells, Pt.slots] at X' e1 e2 h1 h2 h3 st
  subst h1; subst h2; subst h3
  exact ⟨v, (T.setVm vm₁).calling g' mk As.toArray, t, U', L, hT, X', hL, e1, e2, hq, st⟩
/-- not caught here, past rows that name other classes: it goes on to the caller -/
theorem vx_outP {p : Program} {l : Launch} {e : Env} {R : Room} {s : State} {m : MethodId} {args : Array Value} {below : List Frame} {meth : Method} {c : Code} {H : Heap} {locs : List Loc} {cells slots : Nat} {free : Addr → Prop} {ls : Array Slot} {rest : List Value} {Qc : Array Value → State → Outcome → State → Prop} {XC : String → State → State → Prop}
    {pc : Nat} {own E : String} {ce : Cell} {q : Addr} {mc ms : Nat} (hown : s.vm.findClass own = some m.cls) (hlocks : meth.locks = false)
    (hpass : ∀ z ∈ c.exceptionTable.toList, covers z pc = false ∨ (z.catchType ≠ 0 ∧ ∃ nm : String, (Cond.classLink own z.catchType nm).before args s = true ∧ va_Nc E nm s)) (hcell : H[q]? = some ce) (hv : ce.vm = .none) (hcl : s.vm.findClass E = some ce.cls)
    (hx : ∀ t : State, t.heap = H → s.vm.Alike t.vm → XC E s t) (hf : ∀ z ∈ locs, free z.base) (hc : cells ≤ mc) (hs : slots ≤ ms) :
    vx_W p l e R s m args below meth c H locs cells slots (vx_MQ below Qc XC args s mc ms free) (F0 m pc ls rest) q := by
  intro T hT X
  have hpl : e.platform.magicAccessors = ({} : Platform).magicAccessors := by rw [X.admits.platform]
  obtain ⟨vm', hW', X', st⟩ := X.outThrough hlocks q (g := F0 m pc ls rest) rfl rfl rfl (cell := ce) (by rw [hT]; exact hcell) (by rw [hv]; rfl)
    (by obtain ⟨k9, h9, -⟩ := Vm.findClass_spec hcl; exact ⟨k9, h9⟩) (fun z hz => by
      rcases hpass z hz with h | ⟨hz0, nm, hl1, hn1⟩
      · exact Or.inl h
      · obtain ⟨c6, hc6, hcl6⟩ := Cond.classLink_spec hown hl1 e.platform hpl
        obtain ⟨a8, b8, h1, h2, h3⟩ := hn1
        cases Option.some.inj (h1.symm.trans hcl)
        cases Option.some.inj (h2.symm.trans hc6)
        exact Or.inr ⟨hz0, _, hcl6, h3⟩)
  obtain ⟨g₀, hfr⟩ := X'.frames_eq
  have hcell9 : ((T.setVm vm').setFrames (.throwing q :: below)).heap[q]? = some ce := by
    show T.heap[q]? = some ce
    rw [hT]; exact hcell
  have hend : Ended ((T.setVm vm').setFrames (.throwing q :: below)) below (.threw q) := State.frames_setFrames _ (State.cur_lt_of_frames hfr)
  refine ⟨(T.setVm vm').setFrames (.throwing q :: below), ?_, .threw q, X'.here.running, hend, Or.inr ⟨q, rfl, E, ce, locs, hx _ hT (X'.ends _).1.alike, hcell9, hv, hcl, (X'.ends _).1, (X'.ends _).2.mono hc hs, hf⟩⟩
  rw [X.pushThrowing_eq]
  exact st
/-- a thing of a world lies in the heap -/
theorem vx_lt {D : va_G} {cl : List vw_C} {ws : va_W} {H1 : Heap} (h : va_P D cl ws H1) {k : Nat} {q : Nat × va_E} (hk : ws[k]? = some q) : q.1 < H1.size := (h k q hk).lt
end VXS
/-! ===== END ===== -/
/-! ===== BEGIN methods with a table of their own: called by a name, returning or throwing ===== -/
section VXH
/-! vx_backW, vx_callVX, vx_callSX, vx_callVW, vx_runVW, vx_runVX, vx_runSX, vx_ofWH follow the same proofs as their sisters above (Free/Laws.lean, Shelf42/LK1.lean); vx_outP calls Shelf42/NT130.lean (outThrough). -/
section
variable {l : Launch} {R : Room} {p : Program} {e : Env} {below : List Frame} {s : State} {sargs : Array Value} {y : MethodName} {len W9 : Nat}
theorem vx_backW {ws : List Cond} {rm : Room} {Pc : Array Value → State → Prop} {Qc : Array Value → State → Outcome → State → Prop} {XC : String → State → State → Prop} {mc ms : Nat} {free : Addr → Prop} {bytes : ByteArray} {maxL : Nat} {ret : Option FieldType} {hh : List (Nat × Nat × Nat × Nat)}
    (hM : vx_Met l y ws rm Pc Qc XC mc ms free) (hblind : FrameBlind Pc) (hrc : rm.cells = mc) (hrs : rm.slots = ms)
    (hframes : rm.frames + 1 ≤ R.frames) (hlocals : W9 + (maxL + 11) + rm.locals ≤ R.locals)
    (hws : ∀ w ∈ ws, ∀ a' U, s.WarmedH U.vm → w.before a' U = true) (hcode : Cond.codeWith y bytes maxL ret hh ∈ ws) (hinit : ∀ a' U, s.WarmedH U.vm → (Cond.initialized y.cls).before a' U = true) :
    vx_Back l R p e below s sargs y len W9 (PreOf R mc ms Pc) (PostOf Qc mc ms free) (vx_Post XC mc ms free) := by
  intro m meth c A g ig mk a X hg hsize hdg hW hn hp
  have h1 : (headSpec ws rm).pre.before a A.U = true := atoms_intro fun w hw => hws w hw _ _ X.warmed
  have h2 : (Cond.codeWith y bytes maxL ret hh).before a A.U = true := hws _ hcode _ _ X.warmed
  have h3 : (Cond.initialized y.cls).before a A.U = true := hinit _ _ X.warmed
  have h4 : A.cells + (headSpec ws rm).room.cells ≤ R.cells := by rw [show (headSpec ws rm).room.cells = mc from hrc]; exact hp.1
  have h5 : A.slots + (headSpec ws rm).room.slots ≤ R.slots := by rw [show (headSpec ws rm).room.slots = ms from hrs]; exact hp.2.1
  have hPc : Pc a (A.U.calling g mk a) := hblind _ _ _ _ hp.2.2
  obtain ⟨U, Ls, c0, s0⟩ := A
  dsimp only [Pt.U, Pt.locs, Pt.cells, Pt.slots] at h1 h2 h3 h4 h5 X hn hPc ⊢
  obtain ⟨m9, methY, cY, hn9, hmY, hcY, -, hlY, -⟩ := Cond.codeWith_spec h2
  cases Option.some.inj (hn9.symm.trans hn)
  obtain ⟨kY, hkY, -⟩ := className_of_methodNamed hn
  have hinitY : kY.init = .initialized := Cond.initialized_spec (findClass_of_methodNamed hn) hkY h3
  have h : At U g.method c below := by rw [hg]; exact X.here
  have hlocals9 : W9 + (maxL + 11) + (headSpec ws rm).room.locals ≤ R.locals := hlocals
  have happ : (headSpec ws rm).appliesLoose y e.platform (U.calling g mk a) = true :=
    Spec.appliesLoose_calling (g := g) h hdg hn hkY hinitY
      (X.room_calling (g := g) (R' := (headSpec ws rm).room) hsize hmY hcY hframes (by rw [hlY]; omega) h4 h5) h1
  obtain ⟨mid, hmid⟩ := h.above
  have hfr : (U.setTop g).frames = (.java g :: mid) ++ below := by rw [State.frames_setTop' g h.top, hmid]; rfl
  obtain ⟨o, s₂, hsteps, -, hend, hq⟩ := Steps.callFree hM p X.admits X.cas X.clock (acts := []) hfr happ hPc trivial
  have hq' : vx_Q Qc XC mc ms free a (U.calling g mk a) o s₂ := hq
  rw [State.frames_setTop' g h.top] at hend
  obtain ⟨g₀, hg0⟩ := Option.isSome_iff_exists.mp h.top
  obtain ⟨r, hr⟩ := State.topJava?_eq_some.mp hg0
  have hr' : (({ U with heap := s₂.heap, slotsUsed := s₂.slotsUsed } : State).setVm s₂.vm).frames = .java g₀ :: r := hr
  rcases hq' with ⟨hqc, L, hfe, hL⟩ | ⟨q, rfl, E, ce, L, hx, hce, hcv, hcl, hW₂, hsm, hL⟩
  · obtain ⟨⟨v, rfl⟩, hW₂, e2, q2, q3, q4, q5, q6⟩ := id hfe
    have e3 : s₂ = ({ (U.calling g mk a).setFrames s₂.frames with heap := s₂.heap, slotsUsed := s₂.slotsUsed } : State).setVm s₂.vm := by
      have : s₂ = ({ s₂ with vm := (U.calling g mk a).vm } : State).setVm s₂.vm := rfl
      rw [e2] at this
      exact this
    obtain ⟨c₂, i₂, len₂, hc₂, hd₂, hf₂⟩ := hend
    have hW' : U.WarmedH s₂.vm := hW₂
    have hcc : c₂ = c := by
      have h1 : s₂.code? g.method = U.code? g.method := by
        rw [State.code?_eq, State.code?_eq, hW'.alike.method?]
      exact Option.some.inj (hc₂.symm.trans (h1.trans h.code))
    subst hcc
    have hlen : len₂ = len := by rw [hdg] at hd₂; cases hd₂; rfl
    subst hlen
    have hs₂ : s₂ = (({ U with heap := s₂.heap, slotsUsed := s₂.slotsUsed } : State).setVm s₂.vm).setTop { g with pc := g.pc + len₂, stack := v.toList ++ g.stack } := by
      refine e3.trans ?_
      rw [hf₂, State.calling_eq h.top, State.setFrames_setFrames, State.setTop_of_frames _ hr', hr]
      rfl
    have hsame : U.sameButNew ({ U with heap := s₂.heap, slotsUsed := s₂.slotsUsed } : State) L mc ms := by
      refine ⟨?_, q2, q3, q4, q5, q6⟩
      obtain ⟨t, ht, -⟩ := State.frames_cons hr
      show ({ U with heap := s₂.heap, slotsUsed := s₂.slotsUsed } : State) = { U.setFrames U.frames with heap := s₂.heap, slotsUsed := s₂.slotsUsed }
      rw [State.setFrames_self ht]
    subst hg
    refine Or.inl ⟨v, ⟨(({ U with heap := s₂.heap, slotsUsed := s₂.slotsUsed } : State).setVm s₂.vm), Ls ++ L, c0 + mc, s0 + ms⟩,
      ⟨X.admits, X.cas, X.clock, X.frames, X.room, X.hears, X.method, X.code, (X.here.setHeapUsed s₂.heap s₂.slotsUsed).setVm hW'.alike, X.tail, State.WarmedH.trans X.warmed hW', X.limits, X.bytes, X.same.trans (hsame.setVm s.vm)⟩,
      ⟨g, mk, s₂, L, rfl, rfl, hqc, rfl, hL, rfl, rfl⟩, ?_⟩
    show Steps p.tables e below _ ((({ U with heap := s₂.heap, slotsUsed := s₂.slotsUsed } : State).setVm s₂.vm).setTop { g with pc := g.pc + len₂, stack := v.toList ++ g.stack })
    rw [← hs₂]
    exact hsteps
  · obtain ⟨e2, q2, q3, q4, q5, q6⟩ := id hsm
    have e3 : s₂ = ({ (U.calling g mk a).setFrames s₂.frames with heap := s₂.heap, slotsUsed := s₂.slotsUsed } : State).setVm s₂.vm := by
      have : s₂ = ({ s₂ with vm := (U.calling g mk a).vm } : State).setVm s₂.vm := rfl
      rw [e2] at this
      exact this
    have hf₂ : s₂.frames = .throwing q :: .java g :: U.frames.tail := hend
    have hW' : U.WarmedH s₂.vm := hW₂
    have hs₂ : s₂ = ((({ U with heap := s₂.heap, slotsUsed := s₂.slotsUsed } : State).setVm s₂.vm).setTop g).pushFrame (.throwing q) := by
      refine e3.trans ?_
      rw [hf₂, State.calling_eq h.top, State.setFrames_setFrames, State.pushFrame, State.frames_setTop _ hr', State.setTop_of_frames _ hr', State.setFrames_setFrames, hr]
      rfl
    have hsame : U.sameButNew ({ U with heap := s₂.heap, slotsUsed := s₂.slotsUsed } : State) L mc ms := by
      refine ⟨?_, q2, q3, q4, q5, q6⟩
      obtain ⟨t, ht, -⟩ := State.frames_cons hr
      show ({ U with heap := s₂.heap, slotsUsed := s₂.slotsUsed } : State) = { U.setFrames U.frames with heap := s₂.heap, slotsUsed := s₂.slotsUsed }
      rw [State.setFrames_self ht]
    subst hg
    refine Or.inr ⟨q, ⟨(({ U with heap := s₂.heap, slotsUsed := s₂.slotsUsed } : State).setVm s₂.vm), Ls ++ L, c0 + mc, s0 + ms⟩,
      ⟨X.admits, X.cas, X.clock, X.frames, X.room, X.hears, X.method, X.code, (X.here.setHeapUsed s₂.heap s₂.slotsUsed).setVm hW'.alike, X.tail, State.WarmedH.trans X.warmed hW', X.limits, X.bytes, X.same.trans (hsame.setVm s.vm)⟩,
      ⟨g, mk, s₂, L, E, ce, rfl, rfl, hx, hce, hcv, hcl, rfl, hL, rfl, rfl⟩, ?_⟩
    show Steps p.tables e below _ (((({ U with heap := s₂.heap, slotsUsed := s₂.slotsUsed } : State).setVm s₂.vm).setTop g).pushFrame (.throwing q))
    rw [← hs₂]
    exact hsteps
end
variable {p : Program} {l : Launch} {e : Env} {R : Room} {s : State} {m : MethodId} {args : Array Value} {below : List Frame} {meth : Method} {c : Code} {T : State} {H : Heap} {locs : List Loc} {cells slots : Nat}
theorem vx_callVX (X : Stand p l e R s m args below meth c T locs cells slots) (hexec : p.tables.exec = Jvm.exec) {own C : String} {index : Nat} {y : MethodName} {bytes : ByteArray} {maxL : Nat} {ret : Option FieldType} {hh : List (Nat × Nat × Nat × Nat)}
    (hown : s.vm.findClass own = some m.cls) (hlink : (Cond.methodLink own index y).before args s = true) (hinst : (Cond.instanceMethod y).before args s = true) (hsel : (Cond.selects C y y).before args s = true)
    (hcode : (Cond.codeWith y bytes maxL ret hh).before args s = true) (hy : y.cls ≠ "java/lang/invoke/MethodHandle" ∧ y.cls ≠ "java/lang/invoke/VarHandle")
    {W9 : Nat} {Pre : Pt → Array Value → Prop} {Post : Pt → Array Value → Option Value → Pt → Prop} {PostX : Pt → Array Value → Addr → Pt → Prop} (hK : vx_Back l R p e below s args y 3 W9 Pre Post PostX)
    {b : Addr} {cellB : Cell} (hcell : T.heap[b]? = some cellB) (hobj : cellB.vm.isStatics = false) (hcls : s.vm.findClass C = some cellB.cls)
    {g : JFrame} (hg : g.method = m) (hsize : g.locals.size = c.maxLocals) {argsL rest : List Value} (hlen : ∀ sig, parseMethodDescriptor y.desc = some sig → argsL.length = sig.parameters.length)
    (hstack : g.stack = argsL.reverse ++ .ref b :: rest) (hW : 2 * g.monitorRoom + (rest.map fun v => v.category).sum ≤ W9) (hdg : decode c.code g.pc = .ok (.invokevirtual index, 3))
    (hpre : ∀ vm₁, s.WarmedH vm₁ → Pre ⟨T.setVm vm₁, locs, cells, slots⟩ (Value.ref b :: argsL).toArray) :
    (∃ (v : Option Value) (vm₁ : Vm) (B : Pt), s.WarmedH vm₁ ∧ Stand p l e R s m args below meth c B.U B.locs B.cells B.slots ∧ Post ⟨T.setVm vm₁, locs, cells, slots⟩ (Value.ref b :: argsL).toArray v B ∧
      ∀ target, Steps p.tables e below (B.U.setTop { g with pc := g.pc + 3, stack := v.toList ++ rest }) target → Steps p.tables e below (T.setTop g) target) ∨
    (∃ (q : Addr) (vm₁ : Vm) (B : Pt), s.WarmedH vm₁ ∧ Stand p l e R s m args below meth c B.U B.locs B.cells B.slots ∧ PostX ⟨T.setVm vm₁, locs, cells, slots⟩ (Value.ref b :: argsL).toArray q B ∧
      Steps p.tables e below (T.setTop g) ((B.U.setTop { g with stack := rest }).pushFrame (.throwing q))) := by
  obtain ⟨mk, methM, hnamed, hmethM, hstM, habM⟩ := Cond.instanceMethod_spec hinst
  obtain ⟨m8, methM', cM, hn8, hmethM', -, -, -, -, -, -, hsigM⟩ := Cond.codeWith_spec hcode
  cases Option.some.inj (hn8.symm.trans hnamed)
  cases hmethM.symm.trans hmethM'
  obtain ⟨c2, r2, m2, q1, q2, q3, q4, kP, hkP, hkPi⟩ := Cond.selects_spec hsel
  cases hcls.symm.trans q1
  cases (State.methodFound?_of_named hnamed hy).symm.trans q2
  cases hnamed.symm.trans q3
  have hselP : selectMethod e.platform s.vm cellB.cls mk = .method mk := by rw [Launch.admits_selectMethod X.admits]; exact q4
  obtain ⟨vm₁, X₁, hstep₁⟩ := X.invokevirtual hexec hown hlink hnamed hmethM hstM hkP hkPi hy (a := b) (cell := cellB) hcell
    (fun z h => by rw [h] at hobj; cases hobj) hselP hmethM habM hkP hkPi (g := g) hg (argsL := argsL) (rest := rest) (hlen _ hsigM) hstack hdg
  rcases hK m meth c ⟨T.setVm vm₁, locs, cells, slots⟩ { g with stack := rest } (.invokevirtual index) mk (Value.ref b :: argsL).toArray X₁ hg hsize hdg hW (X₁.named hnamed) (hpre vm₁ X₁.warmed) with ⟨v, B, X', hpost, hsteps⟩ | ⟨q, B, X', hpost, hsteps⟩
  · exact Or.inl ⟨v, vm₁, B, X₁.warmed, X', hpost, fun target h => hstep₁ _ fun acts => by rw [doInvoke_state]; exact hsteps.trans h⟩
  · exact Or.inr ⟨q, vm₁, B, X₁.warmed, X', hpost, hstep₁ _ fun acts => by rw [doInvoke_state]; exact hsteps⟩
theorem vx_callSX (X : Stand p l e R s m args below meth c T locs cells slots) (hexec : p.tables.exec = Jvm.exec) {own : String} {index : Nat} {y : MethodName} {bytes : ByteArray} {maxL : Nat} {ret : Option FieldType} {hh : List (Nat × Nat × Nat × Nat)}
    (hown : s.vm.findClass own = some m.cls) (hlink : (Cond.methodLink own index y).before args s = true) (hstat : (Cond.static y).before args s = true) (hinit : (Cond.initialized y.cls).before args s = true)
    (hcode : (Cond.codeWith y bytes maxL ret hh).before args s = true) (hy : y.cls ≠ "java/lang/invoke/MethodHandle" ∧ y.cls ≠ "java/lang/invoke/VarHandle")
    {W9 : Nat} {Pre : Pt → Array Value → Prop} {Post : Pt → Array Value → Option Value → Pt → Prop} {PostX : Pt → Array Value → Addr → Pt → Prop} (hK : vx_Back l R p e below s args y 3 W9 Pre Post PostX)
    {g : JFrame} (hg : g.method = m) (hsize : g.locals.size = c.maxLocals) {argsL rest : List Value} (hlen : ∀ sig, parseMethodDescriptor y.desc = some sig → argsL.length = sig.parameters.length)
    (hstack : g.stack = argsL.reverse ++ rest) (hW : 2 * g.monitorRoom + (rest.map fun v => v.category).sum ≤ W9) (hdg : decode c.code g.pc = .ok (.invokestatic index, 3))
    (hpre : ∀ vm₁, s.WarmedH vm₁ → Pre ⟨T.setVm vm₁, locs, cells, slots⟩ argsL.toArray) :
    (∃ (v : Option Value) (vm₁ : Vm) (B : Pt), s.WarmedH vm₁ ∧ Stand p l e R s m args below meth c B.U B.locs B.cells B.slots ∧ Post ⟨T.setVm vm₁, locs, cells, slots⟩ argsL.toArray v B ∧
      ∀ target, Steps p.tables e below (B.U.setTop { g with pc := g.pc + 3, stack := v.toList ++ rest }) target → Steps p.tables e below (T.setTop g) target) ∨
    (∃ (q : Addr) (vm₁ : Vm) (B : Pt), s.WarmedH vm₁ ∧ Stand p l e R s m args below meth c B.U B.locs B.cells B.slots ∧ PostX ⟨T.setVm vm₁, locs, cells, slots⟩ argsL.toArray q B ∧
      Steps p.tables e below (T.setTop g) ((B.U.setTop { g with stack := rest }).pushFrame (.throwing q))) := by
  obtain ⟨mk, methM, cM, hnamed, hmethM, -, -, -, -, -, -, hsigM⟩ := Cond.codeWith_spec hcode
  have hstatic : methM.isStatic = true := Cond.static_spec hnamed hmethM hstat
  obtain ⟨kP, hkP, -⟩ := className_of_methodNamed hnamed
  have hinitP : kP.init = .initialized := Cond.initialized_spec (findClass_of_methodNamed hnamed) hkP hinit
  obtain ⟨vm₁, X₁, hstep₁⟩ := X.invokestatic hexec hown hlink hnamed hmethM hstatic hkP hinitP hy (g := g) hg (argsL := argsL) (rest := rest) (hlen _ hsigM) hstack hdg
  rcases hK m meth c ⟨T.setVm vm₁, locs, cells, slots⟩ { g with stack := rest } (.invokestatic index) mk argsL.toArray X₁ hg hsize hdg hW (X₁.named hnamed) (hpre vm₁ X₁.warmed) with ⟨v, B, X', hpost, hsteps⟩ | ⟨q, B, X', hpost, hsteps⟩
  · exact Or.inl ⟨v, vm₁, B, X₁.warmed, X', hpost, fun target h => hstep₁ _ fun acts => by rw [doInvoke_state]; exact hsteps.trans h⟩
  · exact Or.inr ⟨q, vm₁, B, X₁.warmed, X', hpost, hstep₁ _ fun acts => by rw [doInvoke_state]; exact hsteps⟩
theorem vx_callVW (X : Stand p l e R s m args below meth c T locs cells slots) (hexec : p.tables.exec = Jvm.exec) {own C : String} {index : Nat} {y : MethodName} {bytes : ByteArray} {maxL : Nat} {ret : Option FieldType} {hh : List (Nat × Nat × Nat × Nat)}
    (hown : s.vm.findClass own = some m.cls) (hlink : (Cond.methodLink own index y).before args s = true) (hinst : (Cond.instanceMethod y).before args s = true) (hsel : (Cond.selects C y y).before args s = true)
    (hcode : (Cond.codeWith y bytes maxL ret hh).before args s = true) (hy : y.cls ≠ "java/lang/invoke/MethodHandle" ∧ y.cls ≠ "java/lang/invoke/VarHandle")
    {W9 : Nat} {Pre : Pt → Array Value → Prop} {Post : Pt → Array Value → Option Value → Pt → Prop} (hK : Back l R p e below s args y 3 W9 Pre Post)
    {b : Addr} {cellB : Cell} (hcell : T.heap[b]? = some cellB) (hobj : cellB.vm.isStatics = false) (hcls : s.vm.findClass C = some cellB.cls)
    {g : JFrame} (hg : g.method = m) (hsize : g.locals.size = c.maxLocals) {argsL rest : List Value} (hlen : ∀ sig, parseMethodDescriptor y.desc = some sig → argsL.length = sig.parameters.length)
    (hstack : g.stack = argsL.reverse ++ .ref b :: rest) (hW : 2 * g.monitorRoom + (rest.map fun v => v.category).sum ≤ W9) (hdg : decode c.code g.pc = .ok (.invokevirtual index, 3))
    (hpre : ∀ vm₁, s.WarmedH vm₁ → Pre ⟨T.setVm vm₁, locs, cells, slots⟩ (Value.ref b :: argsL).toArray) :
    ∃ (v : Option Value) (vm₁ : Vm) (B : Pt), s.WarmedH vm₁ ∧ Stand p l e R s m args below meth c B.U B.locs B.cells B.slots ∧ Post ⟨T.setVm vm₁, locs, cells, slots⟩ (Value.ref b :: argsL).toArray v B ∧
      ∀ target, Steps p.tables e below (B.U.setTop { g with pc := g.pc + 3, stack := v.toList ++ rest }) target → Steps p.tables e below (T.setTop g) target := by
  obtain ⟨mk, methM, hnamed, hmethM, hstM, habM⟩ := Cond.instanceMethod_spec hinst
  obtain ⟨m8, methM', cM, hn8, hmethM', -, -, -, -, -, -, hsigM⟩ := Cond.codeWith_spec hcode
  cases Option.some.inj (hn8.symm.trans hnamed)
  cases hmethM.symm.trans hmethM'
  obtain ⟨c2, r2, m2, q1, q2, q3, q4, kP, hkP, hkPi⟩ := Cond.selects_spec hsel
  cases hcls.symm.trans q1
  cases (State.methodFound?_of_named hnamed hy).symm.trans q2
  cases hnamed.symm.trans q3
  have hselP : selectMethod e.platform s.vm cellB.cls mk = .method mk := by rw [Launch.admits_selectMethod X.admits]; exact q4
  obtain ⟨vm₁, X₁, hstep₁⟩ := X.invokevirtual hexec hown hlink hnamed hmethM hstM hkP hkPi hy (a := b) (cell := cellB) hcell
    (fun z h => by rw [h] at hobj; cases hobj) hselP hmethM habM hkP hkPi (g := g) hg (argsL := argsL) (rest := rest) (hlen _ hsigM) hstack hdg
  obtain ⟨v, B, X', hpost, hsteps⟩ := hK m meth c ⟨T.setVm vm₁, locs, cells, slots⟩ { g with stack := rest } (.invokevirtual index) mk (Value.ref b :: argsL).toArray X₁ hg hsize hdg hW (X₁.named hnamed) (hpre vm₁ X₁.warmed)
  exact ⟨v, vm₁, B, X₁.warmed, X', hpost, fun target h => hstep₁ _ fun acts => by rw [doInvoke_state]; exact hsteps.trans h⟩
abbrev vx_CVW (R : Room) (s : State) (args : Array Value) (own C : String) (index : Nat) (y : MethodName) (bytes : ByteArray) (maxL : Nat) (ret : Option FieldType) (hh : List (Nat × Nat × Nat × Nat)) (ws : List Cond) (rm : Room) (mc ms n : Nat) : Prop :=
  (rm.cells = mc ∧ rm.slots = ms ∧ rm.frames + 1 ≤ R.frames ∧ 8 + (maxL + 11) + rm.locals ≤ R.locals ∧ (∀ w ∈ ws, ∀ (a' : Array Value) (U : State), s.WarmedH U.vm → w.before a' U = true) ∧ Cond.codeWith y bytes maxL ret hh ∈ ws) ∧
  (Cond.codeWith y bytes maxL ret hh).before args s = true ∧ (Cond.initialized y.cls).before args s = true ∧ (y.cls ≠ "java/lang/invoke/MethodHandle" ∧ y.cls ≠ "java/lang/invoke/VarHandle") ∧
  (∀ sig, parseMethodDescriptor y.desc = some sig → n = sig.parameters.length) ∧ (Cond.methodLink own index y).before args s = true ∧ (Cond.instanceMethod y).before args s = true ∧ (Cond.selects C y y).before args s = true
theorem vx_cwVW {own C : String} {index maxL mc ms : Nat} {y : MethodName} {bytes : ByteArray} {ret : Option FieldType} {hh : List (Nat × Nat × Nat × Nat)} {Ts ws ws' : List Cond} {rm : Room} (n : Nat) (ht : ∀ w ∈ Ts, w.before args s = true) (hT : GoodIn Ts (wsV own index C y ws)) (hw : ws = Cond.codeWith y bytes maxL ret hh :: ws') (hrc : rm.cells = mc) (hrs : rm.slots = ms)
    (hd : y.cls = C ∧ y.cls ≠ "java/lang/invoke/MethodHandle" ∧ y.cls ≠ "java/lang/invoke/VarHandle" ∧ (parseMethodDescriptor y.desc).map (fun d => d.parameters.length) = some n) (hR : rm.frames + 1 ≤ R.frames ∧ 8 + (maxL + 11) + rm.locals ≤ R.locals) :
    vx_CVW R s args own C index y bytes maxL ret hh ws rm mc ms n := by
  obtain ⟨hC, hd⟩ := hd
  subst hC
  have ok : ∀ w ∈ wsV own index y.cls y ws, w.before args s = true := fun w h => ht w (hT w h).1
  have hG : GoodIn Ts ws := fun w h => hT w (by unfold wsV; exact List.mem_append_right _ h)
  have hc : Cond.codeWith y bytes maxL ret hh ∈ ws := by rw [hw]; exact List.mem_cons_self
  refine ⟨⟨hrc, hrs, hR.1, hR.2, pay_in ht hG, hc⟩, ht _ (hG _ hc).1, ok _ (by simp [wsV]), ⟨hd.1, hd.2.1⟩, fun sig h => ?_, ok _ (by simp [wsV]), ok _ (by simp [wsV]), ok _ (by simp [wsV])⟩
  have h2 := hd.2.2
  rw [h] at h2
  exact (Option.some.inj h2).symm
theorem vx_runVW {y : MethodName} {bytes cc : ByteArray} {maxL nL mc ms n index : Nat} {ret : Option FieldType} {hh : List (Nat × Nat × Nat × Nat)} {ws : List Cond} {rm : Room} {Pc : Array Value → State → Prop} {Qc : Array Value → State → Outcome → State → Prop} {free : Addr → Prop} {Ts : List Cond} {own C : String} {b : Addr} {As rest : List Value} {g : JFrame}
    (S : CallFix p m c cc nL s args Ts own) (hM : Met l y ws rm Pc Qc mc ms free) (cw : vx_CVW R s args own C index y bytes maxL ret hh ws rm mc ms n) (hp : PreV s H C b Pc As)
    (hg : g.method = m) (hn : As.length = n) (hsize : g.locals.size = nL) (hstack : g.stack = As.reverse ++ .ref b :: rest) (hW : 2 * g.monitorRoom + (rest.map fun v => v.category).sum ≤ 8) (hdg : decode cc g.pc = .ok (.invokevirtual index, 3)) (hf : cells + mc ≤ R.cells ∧ slots + ms ≤ R.slots) :
    va_Run p l e R s m args below meth c H locs cells slots mc ms g rest (Qc (Value.ref b :: As).toArray) free := by
  obtain ⟨⟨hrc, hrs, hfr, hlo, hws, hcw⟩, hcode, hini, hy, hlen, hl, hin, hse⟩ := cw
  have hK : Back l R p e below s args y 3 8 (PreOf R mc ms Pc) (PostOf Qc mc ms free) := va_backW (hh := hh) (bytes := bytes) (maxL := maxL) (ret := ret) hM hp.1 hrc hrs hfr hlo hws hcw (fun a' U hW => word_at hW (Or.inl (by first | rfl | simp [Cond.onTables, Cond.keeps, Cond.steady])) hini)
  obtain ⟨hx, hb, hml, ho, -⟩ := S
  obtain ⟨-, ⟨cellB, hcB, hoB, hclB⟩, hPc⟩ := hp
  intro T hT X
  obtain ⟨v, vm₁, ⟨U', l2, c2, s2⟩, hW₁, X', ⟨g', mk, t, L, e1, e2, hq, h1, hL, h2, h3⟩, st⟩ := vx_callVW X hx (C := C) (hh := hh) (bytes := bytes) (maxL := maxL) (ret := ret) ho hl hin hse hcode hy hK (by rw [hT]; exact hcB) hoB hclB hg (hsize.trans hml.symm) (argsL := As) (rest := rest) (fun sig h => hn.trans (hlen sig h)) hstack hW (by rw [hb]; exact hdg)
    (fun vm₁ hW₁ => ⟨hf.1, hf.2, hPc (T.setVm vm₁) hT hW₁⟩)
  dsimp only [Pt.U, Pt.locs, Pt.cells, Pt.slots] at X' e1 e2 h1 h2 h3 st
  subst h1; subst h2; subst h3
  exact ⟨v, (T.setVm vm₁).calling g' mk (Value.ref b :: As).toArray, t, U', L, hT, X', hL, e1, e2, hq, st⟩
section
variable {y : MethodName} {bytes cc : ByteArray} {maxL nL mc ms n index : Nat} {ret : Option FieldType} {ws : List Cond} {rm : Room} {Pc : Array Value → State → Prop} {Qc : Array Value → State → Outcome → State → Prop} {XC : String → State → State → Prop} {free : Addr → Prop} {Ts : List Cond} {own C : String} {b : Addr} {As rest : List Value} {g : JFrame}
theorem vx_runVX {hh : List (Nat × Nat × Nat × Nat)} (S : CallFix p m c cc nL s args Ts own) (hM : vx_Met l y ws rm Pc Qc XC mc ms free) (cw : vx_CVW R s args own C index y bytes maxL ret hh ws rm mc ms n) (hp : PreV s H C b Pc As)
    (hg : g.method = m) (hn : As.length = n) (hsize : g.locals.size = nL) (hstack : g.stack = As.reverse ++ .ref b :: rest) (hW : 2 * g.monitorRoom + (rest.map fun v => v.category).sum ≤ 8) (hdg : decode cc g.pc = .ok (.invokevirtual index, 3)) (hf : cells + mc ≤ R.cells ∧ slots + ms ≤ R.slots) :
    vx_Run p l e R s m args below meth c H locs cells slots mc ms g rest (Qc (Value.ref b :: As).toArray) XC free := by
  obtain ⟨⟨hrc, hrs, hfr, hlo, hws, hcw⟩, hcode, hini, hy, hlen, hl, hin, hse⟩ := cw
  have hK : vx_Back l R p e below s args y 3 8 (PreOf R mc ms Pc) (PostOf Qc mc ms free) (vx_Post XC mc ms free) := vx_backW (hh := hh) (bytes := bytes) (maxL := maxL) (ret := ret) hM hp.1 hrc hrs hfr hlo hws hcw (fun a' U hW => word_at hW (Or.inl (by first | rfl | simp [Cond.onTables, Cond.keeps, Cond.steady])) hini)
  obtain ⟨hx, hb, hml, ho, -⟩ := S
  obtain ⟨-, ⟨cellB, hcB, hoB, hclB⟩, hPc⟩ := hp
  intro T hT X
  rcases vx_callVX X hx (C := C) (hh := hh) (bytes := bytes) (maxL := maxL) (ret := ret) ho hl hin hse hcode hy hK (by rw [hT]; exact hcB) hoB hclB hg (hsize.trans hml.symm) (argsL := As) (rest := rest) (fun sig h => hn.trans (hlen sig h)) hstack hW (by rw [hb]; exact hdg)
    (fun vm₁ hW₁ => ⟨hf.1, hf.2, hPc (T.setVm vm₁) hT hW₁⟩) with ⟨v, vm₁, ⟨U', l2, c2, s2⟩, hW₁, X', ⟨g', mk, t, L, e1, e2, hq, h1, hL, h2, h3⟩, st⟩ | ⟨q, vm₁, ⟨U', l2, c2, s2⟩, hW₁, X', ⟨g', mk, t, L, E, ce, e1, e2, hq, hce, hcv, hcl, h1, hL, h2, h3⟩, st⟩
  · dsimp only [Pt.U, Pt.locs, Pt.cells, Pt.slots] at X' e1 e2 h1 h2 h3 st
    subst h1; subst h2; subst h3
    exact Or.inl ⟨v, (T.setVm vm₁).calling g' mk (Value.ref b :: As).toArray, t, U', L, hT, X', hL, e1, e2, hq, st⟩
  · dsimp only [Pt.U, Pt.locs, Pt.cells, Pt.slots] at X' e1 e2 h1 h2 h3 st hcl
    subst h1; subst h2; subst h3
    exact Or.inr ⟨q, (T.setVm vm₁).calling g' mk (Value.ref b :: As).toArray, t, U', L, E, ce, hT, X', hL, e1, e2, hq, hce, hcv, vx_cls hW₁ hcl, st⟩
theorem vx_runSX {hh : List (Nat × Nat × Nat × Nat)} (S : CallFix p m c cc nL s args Ts own) (hM : vx_Met l y ws rm Pc Qc XC mc ms free) (cw : vx_CSW R s args own index y bytes maxL ret hh ws rm mc ms n) (hp : PreS s H Pc As)
    (hg : g.method = m) (hn : As.length = n) (hsize : g.locals.size = nL) (hstack : g.stack = As.reverse ++ rest) (hW : 2 * g.monitorRoom + (rest.map fun v => v.category).sum ≤ 8) (hdg : decode cc g.pc = .ok (.invokestatic index, 3)) (hf : cells + mc ≤ R.cells ∧ slots + ms ≤ R.slots) :
    vx_Run p l e R s m args below meth c H locs cells slots mc ms g rest (Qc As.toArray) XC free := by
  obtain ⟨⟨hrc, hrs, hfr, hlo, hws, hcw⟩, hcode, hini, hy, hlen, hl, hstt⟩ := cw
  have hK : vx_Back l R p e below s args y 3 8 (PreOf R mc ms Pc) (PostOf Qc mc ms free) (vx_Post XC mc ms free) := vx_backW (hh := hh) (bytes := bytes) (maxL := maxL) (ret := ret) hM hp.1 hrc hrs hfr hlo hws hcw (fun a' U hW => word_at hW (Or.inl (by first | rfl | simp [Cond.onTables, Cond.keeps, Cond.steady])) hini)
  obtain ⟨hx, hb, hml, ho, -⟩ := S
  intro T hT X
  rcases vx_callSX X hx (hh := hh) (bytes := bytes) (maxL := maxL) (ret := ret) ho hl hstt hini hcode hy hK hg (hsize.trans hml.symm) (argsL := As) (rest := rest) (fun sig h => hn.trans (hlen sig h)) hstack hW (by rw [hb]; exact hdg)
    (fun vm₁ hW₁ => ⟨hf.1, hf.2, hp.2 (T.setVm vm₁) hT hW₁⟩) with ⟨v, vm₁, ⟨U', l2, c2, s2⟩, hW₁, X', ⟨g', mk, t, L, e1, e2, hq, h1, hL, h2, h3⟩, st⟩ | ⟨q, vm₁, ⟨U', l2, c2, s2⟩, hW₁, X', ⟨g', mk, t, L, E, ce, e1, e2, hq, hce, hcv, hcl, h1, hL, h2, h3⟩, st⟩
  · dsimp only [Pt.U, Pt.locs, Pt.cells, Pt.slots] at X' e1 e2 h1 h2 h3 st
    subst h1; subst h2; subst h3
    exact Or.inl ⟨v, (T.setVm vm₁).calling g' mk As.toArray, t, U', L, hT, X', hL, e1, e2, hq, st⟩
  · dsimp only [Pt.U, Pt.locs, Pt.cells, Pt.slots] at X' e1 e2 h1 h2 h3 st hcl
    subst h1; subst h2; subst h3
    exact Or.inr ⟨q, (T.setVm vm₁).calling g' mk As.toArray, t, U', L, E, ce, hT, X', hL, e1, e2, hq, hce, hcv, vx_cls hW₁ hcl, st⟩
end
end VXH
theorem vx_ofWH {l : Launch} {y : MethodName} {ws ws' : List Cond} {rm : Room} {Pc : Array Value → State → Prop} {Qc : Array Value → State → Outcome → State → Prop} {XC : String → State → State → Prop} {mc ms : Nat} {free : Addr → Prop} {cc : ByteArray} {maxL : Nat} {ret : Option FieldType} {hh : List (Nat × Nat × Nat × Nat)}
    (hy : plainName y.cls = true) (hw : ws = Cond.codeWith y cc maxL ret hh :: ws')
    (body : ∀ p e s m args below meth c s₁, BodyLoose p l y (headSpec ws rm) cc maxL ret e s m args below meth c s₁ → c.maxLocals = maxL → Pc args s →
      W p l e (headSpec ws rm).room s m args below meth c s.heap [] 0 0 (vx_MQ below Qc XC args s mc ms free) (entryFrame m args maxL)) : vx_Met l y ws rm Pc Qc XC mc ms free := by
  refine MetFree.of_bodyS (code := cc) (maxLocals := maxL) (ret := ret) hy ?_ ?_
  · intro args s m h hn
    obtain ⟨m9, meth, c, hn9, h1, h2, h3, h4, -, h5, h6, -⟩ := Cond.codeWith_spec (atoms_spec (ws := ws) h _ (by rw [hw]; exact List.mem_cons_self))
    cases hn.symm.trans hn9
    exact ⟨meth, c, h1, h2, h3, h4, h5, h6⟩
  · intro p e s m args below meth c s₁ B hml hP _
    have hh0 : s₁.heap = s.heap := by rw [B.state]; rfl
    obtain ⟨t, a1, o, b1, b2, b3⟩ := body p e s m args below meth c s₁ B hml hP s₁ hh0 (Stand.of_body B)
    exact ⟨t, o, a1, b1, b2, b3⟩
/-! ===== END ===== -/
end
section
def RX0 : String := "TaleSums$Changes"
def TX0 : u_T := fun k => match k with
  | 0 => ("TaleSums$Changes", "sentences", "[I", true)
  | 1 => ("TaleSums$Changes", "numbers", "[I", true)
  | _ => ("TaleSums$Changes", "size", "I", false)
def tyX0 : Nat → FieldType := fun k => match k with
  | 0 => .array .int
  | 1 => .array .int
  | _ => .int
abbrev wsX00 : List Cond := u_ws RX0 TX0 3
theorem nmX0 : ∀ a, a < 3 → ∀ b, b < 3 → a ≠ b → (TX0 a).2.1 ≠ (TX0 b).2.1 := by decide +kernel
theorem tyX0_ok : ∀ k, k < 3 → parseFieldDescriptor (TX0 k).2.2.1 = some (tyX0 k) := by decide +kernel
abbrev cX0_init : ByteArray := prog_2_method_1_code
def yX0_init : MethodName := ⟨RX0, "<init>", "()V"⟩
abbrev cX0_clear : ByteArray := prog_2_method_2_code
def yX0_clear : MethodName := ⟨RX0, "clear", "()V"⟩
abbrev cX0_size : ByteArray := prog_2_method_3_code
def yX0_size : MethodName := ⟨RX0, "size", "()I"⟩
abbrev cX0_keep : ByteArray := prog_2_method_4_code
def yX0_keep : MethodName := ⟨RX0, "keep", "(II)V"⟩
abbrev cX0_dropFirst : ByteArray := prog_2_method_5_code
def yX0_dropFirst : MethodName := ⟨RX0, "dropFirst", "()V"⟩
abbrev cX0_dropLast : ByteArray := prog_2_method_6_code
def yX0_dropLast : MethodName := ⟨RX0, "dropLast", "()V"⟩
abbrev cX0_lastSentence : ByteArray := prog_2_method_7_code
def yX0_lastSentence : MethodName := ⟨RX0, "lastSentence", "()I"⟩
abbrev cX0_lastNumber : ByteArray := prog_2_method_8_code
def yX0_lastNumber : MethodName := ⟨RX0, "lastNumber", "()I"⟩
def RX1 : String := "TaleSums$Laws"
def TX1 : u_T := fun k => match k with
  | 0 => ("TaleSums$Laws", "rows", "[[J", true)
  | _ => ("TaleSums$Laws", "leads", "[Z", true)
def tyX1 : Nat → FieldType := fun k => match k with
  | 0 => .array (.array .long)
  | _ => .array .boolean
abbrev wsX10 : List Cond := u_ws RX1 TX1 2
theorem nmX1 : ∀ a, a < 2 → ∀ b, b < 2 → a ≠ b → (TX1 a).2.1 ≠ (TX1 b).2.1 := by decide +kernel
theorem tyX1_ok : ∀ k, k < 2 → parseFieldDescriptor (TX1 k).2.2.1 = some (tyX1 k) := by decide +kernel
abbrev cX1_init : ByteArray := prog_3_method_1_code
def yX1_init : MethodName := ⟨RX1, "<init>", "()V"⟩
abbrev cX1_clear : ByteArray := prog_3_method_2_code
def yX1_clear : MethodName := ⟨RX1, "clear", "()V"⟩
abbrev cX1_add : ByteArray := prog_3_method_3_code
def yX1_add : MethodName := ⟨RX1, "add", "([J)Z"⟩
abbrev cX1_reduce : ByteArray := prog_3_method_4_code
def yX1_reduce : MethodName := ⟨RX1, "reduce", "([J)V"⟩
abbrev cX1_firstName : ByteArray := prog_3_method_5_code
def yX1_firstName : MethodName := ⟨RX1, "firstName", "([J)I"⟩
abbrev cX1_negate : ByteArray := prog_3_method_6_code
def yX1_negate : MethodName := ⟨RX1, "negate", "([J)V"⟩
abbrev cX1_eliminate : ByteArray := prog_3_method_7_code
def yX1_eliminate : MethodName := ⟨RX1, "eliminate", "([J[JI)V"⟩
abbrev cX1_gcd : ByteArray := prog_3_method_8_code
def yX1_gcd : MethodName := ⟨RX1, "gcd", "(JJ)J"⟩
def RX2 : String := "TaleSums$Reader"
def TX2 : u_T := fun k => match k with
  | _ => ("TaleSums$Reader", "tape", "LTaleSums$Tape;", true)
def tyX2 : Nat → FieldType := fun k => match k with
  | _ => .object "TaleSums$Tape"
abbrev wsX20 : List Cond := u_ws RX2 TX2 1
theorem nmX2 : ∀ a, a < 1 → ∀ b, b < 1 → a ≠ b → (TX2 a).2.1 ≠ (TX2 b).2.1 := by decide +kernel
theorem tyX2_ok : ∀ k, k < 1 → parseFieldDescriptor (TX2 k).2.2.1 = some (tyX2 k) := by decide +kernel
abbrev cX2_init : ByteArray := prog_4_method_1_code
def yX2_init : MethodName := ⟨RX2, "<init>", "(LTaleSums$Tape;)V"⟩
abbrev cX2_read : ByteArray := prog_4_method_2_code
def yX2_read : MethodName := ⟨RX2, "read", "(LTaleSums$Story;)I"⟩
abbrev cX2_readSentence : ByteArray := prog_4_method_3_code
def yX2_readSentence : MethodName := ⟨RX2, "readSentence", "(LTaleSums$Story;)Z"⟩
abbrev cX2_readHas : ByteArray := prog_4_method_4_code
def yX2_readHas : MethodName := ⟨RX2, "readHas", "(LTaleSums$Story;I)Z"⟩
abbrev cX2_readPlain : ByteArray := prog_4_method_5_code
def yX2_readPlain : MethodName := ⟨RX2, "readPlain", "(LTaleSums$Story;I)Z"⟩
abbrev cX2_readUnit : ByteArray := prog_4_method_6_code
def yX2_readUnit : MethodName := ⟨RX2, "readUnit", "(LTaleSums$Story;)Z"⟩
abbrev cX2_readSecond : ByteArray := prog_4_method_7_code
def yX2_readSecond : MethodName := ⟨RX2, "readSecond", "(LTaleSums$Story;I)Z"⟩
abbrev cX2_readQuestion : ByteArray := prog_4_method_8_code
def yX2_readQuestion : MethodName := ⟨RX2, "readQuestion", "(LTaleSums$Story;)Z"⟩
abbrev cX2_takeAskedSort : ByteArray := prog_4_method_9_code
def yX2_takeAskedSort : MethodName := ⟨RX2, "takeAskedSort", "()I"⟩
def RX3 : String := "TaleSums$Story"
def TX3 : u_T := fun k => match k with
  | 0 => ("TaleSums$Story", "parts", "[[I", true)
  | 1 => ("TaleSums$Story", "asked", "[I", true)
  | 2 => ("TaleSums$Story", "size", "I", false)
  | 3 => ("TaleSums$Story", "lastStage", "I", false)
  | 4 => ("TaleSums$Story", "factBits", "I", false)
  | _ => ("TaleSums$Story", "told", "Z", false)
def tyX3 : Nat → FieldType := fun k => match k with
  | 0 => .array (.array .int)
  | 1 => .array .int
  | 2 => .int
  | 3 => .int
  | 4 => .int
  | _ => .boolean
abbrev wsX30 : List Cond := u_ws RX3 TX3 6
theorem nmX3 : ∀ a, a < 6 → ∀ b, b < 6 → a ≠ b → (TX3 a).2.1 ≠ (TX3 b).2.1 := by decide +kernel
theorem tyX3_ok : ∀ k, k < 6 → parseFieldDescriptor (TX3 k).2.2.1 = some (tyX3 k) := by decide +kernel
abbrev cX3_init : ByteArray := prog_5_method_1_code
def yX3_init : MethodName := ⟨RX3, "<init>", "()V"⟩
abbrev cX3_clear : ByteArray := prog_5_method_2_code
def yX3_clear : MethodName := ⟨RX3, "clear", "()V"⟩
abbrev cX3_open : ByteArray := prog_5_method_3_code
def yX3_open : MethodName := ⟨RX3, "open", "(II)V"⟩
abbrev cX3_tell : ByteArray := prog_5_method_4_code
def yX3_tell : MethodName := ⟨RX3, "tell", "(II)V"⟩
abbrev cX3_close : ByteArray := prog_5_method_5_code
def yX3_close : MethodName := ⟨RX3, "close", "()V"⟩
abbrev cX3_ask : ByteArray := prog_5_method_6_code
def yX3_ask : MethodName := ⟨RX3, "ask", "(IIII)V"⟩
abbrev cX3_size : ByteArray := prog_5_method_7_code
def yX3_size : MethodName := ⟨RX3, "size", "()I"⟩
abbrev cX3_facts : ByteArray := prog_5_method_8_code
def yX3_facts : MethodName := ⟨RX3, "facts", "()I"⟩
abbrev cX3_stages : ByteArray := prog_5_method_9_code
def yX3_stages : MethodName := ⟨RX3, "stages", "()I"⟩
abbrev cX3_has : ByteArray := prog_5_method_10_code
def yX3_has : MethodName := ⟨RX3, "has", "(I)Z"⟩
abbrev cX3_part : ByteArray := prog_5_method_11_code
def yX3_part : MethodName := ⟨RX3, "part", "(II)I"⟩
abbrev cX3_asked : ByteArray := prog_5_method_12_code
def yX3_asked : MethodName := ⟨RX3, "asked", "(I)I"⟩
abbrev cX3_allows : ByteArray := prog_5_method_13_code
def yX3_allows : MethodName := ⟨RX3, "allows", "(II)Z"⟩
abbrev cX3_setNumber : ByteArray := prog_5_method_14_code
def yX3_setNumber : MethodName := ⟨RX3, "setNumber", "(II)V"⟩
abbrev cX3_gain : ByteArray := prog_5_method_15_code
def yX3_gain : MethodName := ⟨RX3, "gain", "(III)J"⟩
abbrev cX3_gainBy : ByteArray := prog_5_method_16_code
def yX3_gainBy : MethodName := ⟨RX3, "gainBy", "([II)I"⟩
def RX4 : String := "TaleSums$Sums"
def TX4 : u_T := fun k => match k with
  | 0 => ("TaleSums$Sums", "lawsOf", "[LTaleSums$Laws;", true)
  | 1 => ("TaleSums$Sums", "someLaws", "LTaleSums$Laws;", true)
  | 2 => ("TaleSums$Sums", "factLaws", "[[J", true)
  | 3 => ("TaleSums$Sums", "questionLaw", "[J", true)
  | 4 => ("TaleSums$Sums", "law", "[J", true)
  | 5 => ("TaleSums$Sums", "otherLaw", "[J", true)
  | 6 => ("TaleSums$Sums", "tops", "[J", true)
  | 7 => ("TaleSums$Sums", "bottoms", "[J", true)
  | 8 => ("TaleSums$Sums", "story", "LTaleSums$Story;", false)
  | 9 => ("TaleSums$Sums", "quarrel", "I", false)
  | 10 => ("TaleSums$Sums", "answerTop", "J", false)
  | 11 => ("TaleSums$Sums", "answerBottom", "J", false)
  | 12 => ("TaleSums$Sums", "idle", "I", false)
  | _ => ("TaleSums$Sums", "fewest", "I", false)
def tyX4 : Nat → FieldType := fun k => match k with
  | 0 => .array (.object "TaleSums$Laws")
  | 1 => .object "TaleSums$Laws"
  | 2 => .array (.array .long)
  | 3 => .array .long
  | 4 => .array .long
  | 5 => .array .long
  | 6 => .array .long
  | 7 => .array .long
  | 8 => .object "TaleSums$Story"
  | 9 => .int
  | 10 => .long
  | 11 => .long
  | 12 => .int
  | _ => .int
abbrev wsX40 : List Cond := u_ws RX4 TX4 14
theorem nmX4 : ∀ a, a < 14 → ∀ b, b < 14 → a ≠ b → (TX4 a).2.1 ≠ (TX4 b).2.1 := by decide +kernel
theorem tyX4_ok : ∀ k, k < 14 → parseFieldDescriptor (TX4 k).2.2.1 = some (tyX4 k) := by decide +kernel
abbrev cX4_init : ByteArray := prog_6_method_1_code
def yX4_init : MethodName := ⟨RX4, "<init>", "(LTaleSums$Story;)V"⟩
abbrev cX4_begin : ByteArray := prog_6_method_2_code
def yX4_begin : MethodName := ⟨RX4, "begin", "(LTaleSums$Story;)V"⟩
abbrev cX4_solve : ByteArray := prog_6_method_3_code
def yX4_solve : MethodName := ⟨RX4, "solve", "()V"⟩
abbrev cX4_makeLaws : ByteArray := prog_6_method_4_code
def yX4_makeLaws : MethodName := ⟨RX4, "makeLaws", "()V"⟩
abbrev cX4_madeBy : ByteArray := prog_6_method_5_code
def yX4_madeBy : MethodName := ⟨RX4, "madeBy", "(II)I"⟩
abbrev cX4_secondWeight : ByteArray := prog_6_method_6_code
def yX4_secondWeight : MethodName := ⟨RX4, "secondWeight", "(II)I"⟩
abbrev cX4_startSought : ByteArray := prog_6_method_7_code
def yX4_startSought : MethodName := ⟨RX4, "startSought", "([J)V"⟩
abbrev cX4_weigh : ByteArray := prog_6_method_8_code
def yX4_weigh : MethodName := ⟨RX4, "weigh", "([JIIII)V"⟩
abbrev cX4_addFacts : ByteArray := prog_6_method_9_code
def yX4_addFacts : MethodName := ⟨RX4, "addFacts", "()V"⟩
abbrev cX4_isFact : ByteArray := prog_6_method_10_code
def yX4_isFact : MethodName := ⟨RX4, "isFact", "(I)Z"⟩
abbrev cX4_settleAmounts : ByteArray := prog_6_method_11_code
def yX4_settleAmounts : MethodName := ⟨RX4, "settleAmounts", "()V"⟩
abbrev cX4_settleAnswer : ByteArray := prog_6_method_12_code
def yX4_settleAnswer : MethodName := ⟨RX4, "settleAnswer", "()V"⟩
abbrev cX4_quarrelAt : ByteArray := prog_6_method_13_code
def yX4_quarrelAt : MethodName := ⟨RX4, "quarrelAt", "()I"⟩
abbrev cX4_hasAnswer : ByteArray := prog_6_method_14_code
def yX4_hasAnswer : MethodName := ⟨RX4, "hasAnswer", "()Z"⟩
abbrev cX4_answerPart : ByteArray := prog_6_method_15_code
def yX4_answerPart : MethodName := ⟨RX4, "answerPart", "(I)J"⟩
abbrev cX4_amountPart : ByteArray := prog_6_method_16_code
def yX4_amountPart : MethodName := ⟨RX4, "amountPart", "(IIII)J"⟩
abbrev cX4_topAt : ByteArray := prog_6_method_17_code
def yX4_topAt : MethodName := ⟨RX4, "topAt", "(III)J"⟩
abbrev cX4_settledAtFirst : ByteArray := prog_6_method_18_code
def yX4_settledAtFirst : MethodName := ⟨RX4, "settledAtFirst", "()I"⟩
abbrev cX4_strangePart : ByteArray := prog_6_method_19_code
def yX4_strangePart : MethodName := ⟨RX4, "strangePart", "(I)I"⟩
abbrev cX4_isStrange : ByteArray := prog_6_method_20_code
def yX4_isStrange : MethodName := ⟨RX4, "isStrange", "(III)Z"⟩
abbrev cX4_choose : ByteArray := prog_6_method_21_code
def yX4_choose : MethodName := ⟨RX4, "choose", "(IIII)I"⟩
abbrev cX4_lackingName : ByteArray := prog_6_method_22_code
def yX4_lackingName : MethodName := ⟨RX4, "lackingName", "()I"⟩
abbrev cX4_areAlongside : ByteArray := prog_6_method_23_code
def yX4_areAlongside : MethodName := ⟨RX4, "areAlongside", "([J[J)Z"⟩
abbrev cX4_idleFacts : ByteArray := prog_6_method_24_code
def yX4_idleFacts : MethodName := ⟨RX4, "idleFacts", "()I"⟩
abbrev cX4_fewestFacts : ByteArray := prog_6_method_25_code
def yX4_fewestFacts : MethodName := ⟨RX4, "fewestFacts", "()I"⟩
abbrev cX4_seekFewest : ByteArray := prog_6_method_26_code
def yX4_seekFewest : MethodName := ⟨RX4, "seekFewest", "(II)I"⟩
abbrev cX4_factsOf : ByteArray := prog_6_method_27_code
def yX4_factsOf : MethodName := ⟨RX4, "factsOf", "(I)I"⟩
abbrev cX4_isSettledBy : ByteArray := prog_6_method_28_code
def yX4_isSettledBy : MethodName := ⟨RX4, "isSettledBy", "(I)Z"⟩
def RX5 : String := "TaleSums$Tape"
def TX5 : u_T := fun k => match k with
  | 0 => ("TaleSums$Tape", "bytes", "[I", true)
  | 1 => ("TaleSums$Tape", "length", "I", false)
  | 2 => ("TaleSums$Tape", "from", "I", false)
  | _ => ("TaleSums$Tape", "to", "I", false)
def tyX5 : Nat → FieldType := fun k => match k with
  | 0 => .array .int
  | 1 => .int
  | 2 => .int
  | _ => .int
abbrev wsX50 : List Cond := u_ws RX5 TX5 4
theorem nmX5 : ∀ a, a < 4 → ∀ b, b < 4 → a ≠ b → (TX5 a).2.1 ≠ (TX5 b).2.1 := by decide +kernel
theorem tyX5_ok : ∀ k, k < 4 → parseFieldDescriptor (TX5 k).2.2.1 = some (tyX5 k) := by decide +kernel
abbrev cX5_init : ByteArray := prog_7_method_1_code
def yX5_init : MethodName := ⟨RX5, "<init>", "()V"⟩
abbrev cX5_filledBytes : ByteArray := prog_7_method_2_code
def yX5_filledBytes : MethodName := ⟨RX5, "filledBytes", "(I)I"⟩
abbrev cX5_size : ByteArray := prog_7_method_3_code
def yX5_size : MethodName := ⟨RX5, "size", "()I"⟩
abbrev cX5_append : ByteArray := prog_7_method_4_code
def yX5_append : MethodName := ⟨RX5, "append", "(I)V"⟩
abbrev cX5_cut : ByteArray := prog_7_method_5_code
def yX5_cut : MethodName := ⟨RX5, "cut", "(I)Z"⟩
abbrev cX5_rewind : ByteArray := prog_7_method_6_code
def yX5_rewind : MethodName := ⟨RX5, "rewind", "()V"⟩
abbrev cX5_advance : ByteArray := prog_7_method_7_code
def yX5_advance : MethodName := ⟨RX5, "advance", "()V"⟩
abbrev cX5_isLetter : ByteArray := prog_7_method_8_code
def yX5_isLetter : MethodName := ⟨RX5, "isLetter", "(I)Z"⟩
abbrev cX5_isDigit : ByteArray := prog_7_method_9_code
def yX5_isDigit : MethodName := ⟨RX5, "isDigit", "(I)Z"⟩
abbrev cX5_start : ByteArray := prog_7_method_10_code
def yX5_start : MethodName := ⟨RX5, "start", "()I"⟩
abbrev cX5_isOver : ByteArray := prog_7_method_11_code
def yX5_isOver : MethodName := ⟨RX5, "isOver", "()Z"⟩
abbrev cX5_take : ByteArray := prog_7_method_12_code
def yX5_take : MethodName := ⟨RX5, "take", "(Ljava/lang/String;)Z"⟩
abbrev cX5_takeName : ByteArray := prog_7_method_13_code
def yX5_takeName : MethodName := ⟨RX5, "takeName", "(I)I"⟩
abbrev cX5_takeUnit : ByteArray := prog_7_method_14_code
def yX5_takeUnit : MethodName := ⟨RX5, "takeUnit", "()I"⟩
abbrev cX5_find : ByteArray := prog_7_method_15_code
def yX5_find : MethodName := ⟨RX5, "find", "(Ljava/lang/String;II)I"⟩
abbrev cX5_takeNumber : ByteArray := prog_7_method_16_code
def yX5_takeNumber : MethodName := ⟨RX5, "takeNumber", "()I"⟩
def RX6 : String := "TaleSums"
def TX6 : u_T := fun k => match k with
  | 0 => ("TaleSums", "tape", "LTaleSums$Tape;", true)
  | 1 => ("TaleSums", "reader", "LTaleSums$Reader;", true)
  | 2 => ("TaleSums", "changes", "LTaleSums$Changes;", true)
  | 3 => ("TaleSums", "sums", "LTaleSums$Sums;", true)
  | 4 => ("TaleSums", "story", "LTaleSums$Story;", false)
  | _ => ("TaleSums", "draft", "LTaleSums$Story;", false)
def tyX6 : Nat → FieldType := fun k => match k with
  | 0 => .object "TaleSums$Tape"
  | 1 => .object "TaleSums$Reader"
  | 2 => .object "TaleSums$Changes"
  | 3 => .object "TaleSums$Sums"
  | 4 => .object "TaleSums$Story"
  | _ => .object "TaleSums$Story"
abbrev wsX60 : List Cond := u_ws RX6 TX6 6
theorem nmX6 : ∀ a, a < 6 → ∀ b, b < 6 → a ≠ b → (TX6 a).2.1 ≠ (TX6 b).2.1 := by decide +kernel
theorem tyX6_ok : ∀ k, k < 6 → parseFieldDescriptor (TX6 k).2.2.1 = some (tyX6 k) := by decide +kernel
abbrev cX6_init : ByteArray := prog_1_method_1_code
def yX6_init : MethodName := ⟨RX6, "<init>", "()V"⟩
abbrev cX6_feed : ByteArray := prog_1_method_2_code
def yX6_feed : MethodName := ⟨RX6, "feed", "(IIIII)I"⟩
abbrev cX6_end : ByteArray := prog_1_method_3_code
def yX6_end : MethodName := ⟨RX6, "end", "(I)Z"⟩
abbrev cX6_fault : ByteArray := prog_1_method_4_code
def yX6_fault : MethodName := ⟨RX6, "fault", "()I"⟩
abbrev cX6_tale : ByteArray := prog_1_method_5_code
def yX6_tale : MethodName := ⟨RX6, "tale", "()Z"⟩
abbrev cX6_sentences : ByteArray := prog_1_method_6_code
def yX6_sentences : MethodName := ⟨RX6, "sentences", "()I"⟩
abbrev cX6_sentence : ByteArray := prog_1_method_7_code
def yX6_sentence : MethodName := ⟨RX6, "sentence", "(II)I"⟩
abbrev cX6_question : ByteArray := prog_1_method_8_code
def yX6_question : MethodName := ⟨RX6, "question", "(I)I"⟩
abbrev cX6_quarrel : ByteArray := prog_1_method_9_code
def yX6_quarrel : MethodName := ⟨RX6, "quarrel", "()I"⟩
abbrev cX6_answer : ByteArray := prog_1_method_10_code
def yX6_answer : MethodName := ⟨RX6, "answer", "(I)J"⟩
abbrev cX6_amount : ByteArray := prog_1_method_11_code
def yX6_amount : MethodName := ⟨RX6, "amount", "(IIII)J"⟩
abbrev cX6_idle : ByteArray := prog_1_method_12_code
def yX6_idle : MethodName := ⟨RX6, "idle", "()I"⟩
abbrev cX6_enough : ByteArray := prog_1_method_13_code
def yX6_enough : MethodName := ⟨RX6, "enough", "()I"⟩
abbrev cX6_lacking : ByteArray := prog_1_method_14_code
def yX6_lacking : MethodName := ⟨RX6, "lacking", "()I"⟩
abbrev cX6_strange : ByteArray := prog_1_method_15_code
def yX6_strange : MethodName := ⟨RX6, "strange", "(I)I"⟩
abbrev cX6_put : ByteArray := prog_1_method_16_code
def yX6_put : MethodName := ⟨RX6, "put", "(II)Z"⟩
abbrev cX6_undo : ByteArray := prog_1_method_17_code
def yX6_undo : MethodName := ⟨RX6, "undo", "()I"⟩
abbrev cX6_count : ByteArray := prog_1_method_18_code
def yX6_count : MethodName := ⟨RX6, "count", "(I)I"⟩
def RX7 : String := "TaleSumsModel"
def TX7 : u_T := fun k => match k with
  | 0 => ("TaleSumsModel", "thrown", "I", false)
  | 1 => ("TaleSumsModel", "tape", "[B", true)
  | 2 => ("TaleSumsModel", "length", "I", false)
  | 3 => ("TaleSumsModel", "told", "[I", true)
  | 4 => ("TaleSumsModel", "read", "[I", true)
  | 5 => ("TaleSumsModel", "asked", "[I", true)
  | 6 => ("TaleSumsModel", "readAsked", "[I", true)
  | 7 => ("TaleSumsModel", "many", "I", false)
  | 8 => ("TaleSumsModel", "readMany", "I", false)
  | 9 => ("TaleSumsModel", "isTale", "Z", false)
  | 10 => ("TaleSumsModel", "keptSentence", "[I", true)
  | 11 => ("TaleSumsModel", "keptNumber", "[I", true)
  | 12 => ("TaleSumsModel", "kept", "I", false)
  | 13 => ("TaleSumsModel", "from", "I", false)
  | 14 => ("TaleSumsModel", "behind", "I", false)
  | 15 => ("TaleSumsModel", "sort", "I", false)
  | 16 => ("TaleSumsModel", "first", "I", false)
  | 17 => ("TaleSumsModel", "second", "I", false)
  | 18 => ("TaleSumsModel", "of", "I", false)
  | 19 => ("TaleSumsModel", "count", "I", false)
  | 20 => ("TaleSumsModel", "stage", "I", false)
  | 21 => ("TaleSumsModel", "basis", "[J", true)
  | 22 => ("TaleSumsModel", "row", "[J", true)
  | 23 => ("TaleSumsModel", "begins", "[I", true)
  | 24 => ("TaleSumsModel", "rows", "I", false)
  | 25 => ("TaleSumsModel", "top", "J", false)
  | _ => ("TaleSumsModel", "below", "J", false)
def tyX7 : Nat → FieldType := fun k => match k with
  | 0 => .int
  | 1 => .array .byte
  | 2 => .int
  | 3 => .array .int
  | 4 => .array .int
  | 5 => .array .int
  | 6 => .array .int
  | 7 => .int
  | 8 => .int
  | 9 => .boolean
  | 10 => .array .int
  | 11 => .array .int
  | 12 => .int
  | 13 => .int
  | 14 => .int
  | 15 => .int
  | 16 => .int
  | 17 => .int
  | 18 => .int
  | 19 => .int
  | 20 => .int
  | 21 => .array .long
  | 22 => .array .long
  | 23 => .array .int
  | 24 => .int
  | 25 => .long
  | _ => .long
abbrev wsX70 : List Cond := u_ws RX7 TX7 27
theorem nmX7 : ∀ a, a < 27 → ∀ b, b < 27 → a ≠ b → (TX7 a).2.1 ≠ (TX7 b).2.1 := by decide +kernel
theorem tyX7_ok : ∀ k, k < 27 → parseFieldDescriptor (TX7 k).2.2.1 = some (tyX7 k) := by decide +kernel
abbrev cX7_init : ByteArray := prog_9_method_1_code
def yX7_init : MethodName := ⟨RX7, "<init>", "()V"⟩
abbrev cX7_thrown : ByteArray := prog_9_method_2_code
def yX7_thrown : MethodName := ⟨RX7, "thrown", "()I"⟩
abbrev cX7_isIn : ByteArray := prog_9_method_3_code
def yX7_isIn : MethodName := ⟨RX7, "isIn", "(III)Z"⟩
abbrev cX7_bytesIn : ByteArray := prog_9_method_4_code
def yX7_bytesIn : MethodName := ⟨RX7, "bytesIn", "(I)I"⟩
abbrev cX7_put4 : ByteArray := prog_9_method_5_code
def yX7_put4 : MethodName := ⟨RX7, "put4", "(I)V"⟩
abbrev cX7_feed : ByteArray := prog_9_method_6_code
def yX7_feed : MethodName := ⟨RX7, "feed", "(IIIII)I"⟩
abbrev cX7_end : ByteArray := prog_9_method_7_code
def yX7_end : MethodName := ⟨RX7, "end", "(I)Z"⟩
abbrev cX7_isSmall : ByteArray := prog_9_method_8_code
def yX7_isSmall : MethodName := ⟨RX7, "isSmall", "(I)Z"⟩
abbrev cX7_isDigit : ByteArray := prog_9_method_9_code
def yX7_isDigit : MethodName := ⟨RX7, "isDigit", "(I)Z"⟩
abbrev cX7_next : ByteArray := prog_9_method_10_code
def yX7_next : MethodName := ⟨RX7, "next", "()V"⟩
abbrev cX7_is : ByteArray := prog_9_method_11_code
def yX7_is : MethodName := ⟨RX7, "is", "(Ljava/lang/String;)Z"⟩
abbrev cX7_takes : ByteArray := prog_9_method_12_code
def yX7_takes : MethodName := ⟨RX7, "takes", "(Ljava/lang/String;)Z"⟩
abbrev cX7_one : ByteArray := prog_9_method_13_code
def yX7_one : MethodName := ⟨RX7, "one", "(ZZZZ)I"⟩
abbrev cX7_name : ByteArray := prog_9_method_14_code
def yX7_name : MethodName := ⟨RX7, "name", "()I"⟩
abbrev cX7_unit : ByteArray := prog_9_method_15_code
def yX7_unit : MethodName := ⟨RX7, "unit", "()I"⟩
abbrev cX7_number : ByteArray := prog_9_method_16_code
def yX7_number : MethodName := ⟨RX7, "number", "()I"⟩
abbrev cX7_takesName : ByteArray := prog_9_method_17_code
def yX7_takesName : MethodName := ⟨RX7, "takesName", "(Z)Z"⟩
abbrev cX7_takesUnit : ByteArray := prog_9_method_18_code
def yX7_takesUnit : MethodName := ⟨RX7, "takesUnit", "()Z"⟩
abbrev cX7_takesNumber : ByteArray := prog_9_method_19_code
def yX7_takesNumber : MethodName := ⟨RX7, "takesNumber", "()Z"⟩
abbrev cX7_sentence : ByteArray := prog_9_method_20_code
def yX7_sentence : MethodName := ⟨RX7, "sentence", "()Z"⟩
abbrev cX7_asks : ByteArray := prog_9_method_21_code
def yX7_asks : MethodName := ⟨RX7, "asks", "()Z"⟩
abbrev cX7_reads : ByteArray := prog_9_method_22_code
def yX7_reads : MethodName := ⟨RX7, "reads", "()I"⟩
abbrev cX7_fault : ByteArray := prog_9_method_23_code
def yX7_fault : MethodName := ⟨RX7, "fault", "()I"⟩
abbrev cX7_tale : ByteArray := prog_9_method_24_code
def yX7_tale : MethodName := ⟨RX7, "tale", "()Z"⟩
abbrev cX7_sentences : ByteArray := prog_9_method_25_code
def yX7_sentences : MethodName := ⟨RX7, "sentences", "()I"⟩
abbrev cX7_of : ByteArray := prog_9_method_26_code
def yX7_of : MethodName := ⟨RX7, "of", "(II)I"⟩
abbrev cX7_sentence_ : ByteArray := prog_9_method_27_code
def yX7_sentence_ : MethodName := ⟨RX7, "sentence", "(II)I"⟩
abbrev cX7_question : ByteArray := prog_9_method_28_code
def yX7_question : MethodName := ⟨RX7, "question", "(I)I"⟩
abbrev cX7_more : ByteArray := prog_9_method_29_code
def yX7_more : MethodName := ⟨RX7, "more", "(III)I"⟩
abbrev cX7_common : ByteArray := prog_9_method_30_code
def yX7_common : MethodName := ⟨RX7, "common", "(JJ)J"⟩
abbrev cX7_law : ByteArray := prog_9_method_31_code
def yX7_law : MethodName := ⟨RX7, "law", "(I)V"⟩
abbrev cX7_adds : ByteArray := prog_9_method_32_code
def yX7_adds : MethodName := ⟨RX7, "adds", "()Z"⟩
abbrev cX7_isFact : ByteArray := prog_9_method_33_code
def yX7_isFact : MethodName := ⟨RX7, "isFact", "(I)Z"⟩
abbrev cX7_gather : ByteArray := prog_9_method_34_code
def yX7_gather : MethodName := ⟨RX7, "gather", "(II)Z"⟩
abbrev cX7_settles : ByteArray := prog_9_method_35_code
def yX7_settles : MethodName := ⟨RX7, "settles", "(II)Z"⟩
abbrev cX7_part : ByteArray := prog_9_method_36_code
def yX7_part : MethodName := ⟨RX7, "part", "(I)J"⟩
abbrev cX7_all : ByteArray := prog_9_method_37_code
def yX7_all : MethodName := ⟨RX7, "all", "()I"⟩
abbrev cX7_quarrelAt : ByteArray := prog_9_method_38_code
def yX7_quarrelAt : MethodName := ⟨RX7, "quarrelAt", "()I"⟩
abbrev cX7_quarrel : ByteArray := prog_9_method_39_code
def yX7_quarrel : MethodName := ⟨RX7, "quarrel", "()I"⟩
abbrev cX7_answersBy : ByteArray := prog_9_method_40_code
def yX7_answersBy : MethodName := ⟨RX7, "answersBy", "(I)Z"⟩
abbrev cX7_hasAnswer : ByteArray := prog_9_method_41_code
def yX7_hasAnswer : MethodName := ⟨RX7, "hasAnswer", "()Z"⟩
abbrev cX7_answer : ByteArray := prog_9_method_42_code
def yX7_answer : MethodName := ⟨RX7, "answer", "(I)J"⟩
abbrev cX7_stages : ByteArray := prog_9_method_43_code
def yX7_stages : MethodName := ⟨RX7, "stages", "()I"⟩
abbrev cX7_amounts : ByteArray := prog_9_method_44_code
def yX7_amounts : MethodName := ⟨RX7, "amounts", "(III)Z"⟩
abbrev cX7_amount : ByteArray := prog_9_method_45_code
def yX7_amount : MethodName := ⟨RX7, "amount", "(IIII)J"⟩
abbrev cX7_idle : ByteArray := prog_9_method_46_code
def yX7_idle : MethodName := ⟨RX7, "idle", "()I"⟩
abbrev cX7_facts : ByteArray := prog_9_method_47_code
def yX7_facts : MethodName := ⟨RX7, "facts", "()I"⟩
abbrev cX7_enough : ByteArray := prog_9_method_48_code
def yX7_enough : MethodName := ⟨RX7, "enough", "()I"⟩
abbrev cX7_lacking : ByteArray := prog_9_method_49_code
def yX7_lacking : MethodName := ⟨RX7, "lacking", "()I"⟩
abbrev cX7_strange : ByteArray := prog_9_method_50_code
def yX7_strange : MethodName := ⟨RX7, "strange", "(I)I"⟩
abbrev cX7_put : ByteArray := prog_9_method_51_code
def yX7_put : MethodName := ⟨RX7, "put", "(II)Z"⟩
abbrev cX7_undo : ByteArray := prog_9_method_52_code
def yX7_undo : MethodName := ⟨RX7, "undo", "()I"⟩
abbrev cX7_count : ByteArray := prog_9_method_53_code
def yX7_count : MethodName := ⟨RX7, "count", "(I)I"⟩
def RJ6 : String := "java/lang/Integer"
def TJ6 : u_T := fun k => match k with
  | _ => ("", "", "", false)
def tyJ6 : Nat → FieldType := fun k => match k with
  | _ => .int
abbrev wsJ60 : List Cond := u_ws RJ6 TJ6 0
theorem nmJ6 : ∀ a, a < 0 → ∀ b, b < 0 → a ≠ b → (TJ6 a).2.1 ≠ (TJ6 b).2.1 := by decide +kernel
theorem tyJ6_ok : ∀ k, k < 0 → parseFieldDescriptor (TJ6 k).2.2.1 = some (tyJ6 k) := by decide +kernel
abbrev cJ6_bitCount_0f7a4 : ByteArray := prog_11_method_49_code
def yJ6_bitCount_0f7a4 : MethodName := ⟨RJ6, "bitCount", "(I)I"⟩
def RJ9 : String := "java/lang/Math"
def TJ9 : u_T := fun k => match k with
  | _ => ("", "", "", false)
def tyJ9 : Nat → FieldType := fun k => match k with
  | _ => .int
abbrev wsJ90 : List Cond := u_ws RJ9 TJ9 0
theorem nmJ9 : ∀ a, a < 0 → ∀ b, b < 0 → a ≠ b → (TJ9 a).2.1 ≠ (TJ9 b).2.1 := by decide +kernel
theorem tyJ9_ok : ∀ k, k < 0 → parseFieldDescriptor (TJ9 k).2.2.1 = some (tyJ9 k) := by decide +kernel
abbrev cJ9_abs_067f4 : ByteArray := prog_12_method_61_code
def yJ9_abs_067f4 : MethodName := ⟨RJ9, "abs", "(J)J"⟩
def RJ0 : String := "java/lang/String"
def TJ0 : u_T := fun k => match k with
  | _ => ("", "", "", false)
def tyJ0 : Nat → FieldType := fun k => match k with
  | _ => .int
abbrev wsJ00 : List Cond := u_ws RJ0 TJ0 0
theorem nmJ0 : ∀ a, a < 0 → ∀ b, b < 0 → a ≠ b → (TJ0 a).2.1 ≠ (TJ0 b).2.1 := by decide +kernel
theorem tyJ0_ok : ∀ k, k < 0 → parseFieldDescriptor (TJ0 k).2.2.1 = some (tyJ0 k) := by decide +kernel
abbrev cJ0_length_8abf5 : ByteArray := prog_14_method_54_code
def yJ0_length_8abf5 : MethodName := ⟨RJ0, "length", "()I"⟩
abbrev cJ0_charAt_5068e : ByteArray := prog_14_method_56_code
def yJ0_charAt_5068e : MethodName := ⟨RJ0, "charAt", "(I)C"⟩
abbrev cJ0_coder_7d493 : ByteArray := prog_14_method_152_code
def yJ0_coder_7d493 : MethodName := ⟨RJ0, "coder", "()B"⟩
abbrev cJ0_isLatin1_aae02 : ByteArray := prog_14_method_154_code
def yJ0_isLatin1_aae02 : MethodName := ⟨RJ0, "isLatin1", "()Z"⟩
abbrev cJ0_checkIndex_df160 : ByteArray := prog_14_method_155_code
def yJ0_checkIndex_df160 : MethodName := ⟨RJ0, "checkIndex", "(II)V"⟩
def RJ1 : String := "java/lang/StringLatin1"
def TJ1 : u_T := fun k => match k with
  | _ => ("", "", "", false)
def tyJ1 : Nat → FieldType := fun k => match k with
  | _ => .int
abbrev wsJ10 : List Cond := u_ws RJ1 TJ1 0
theorem nmJ1 : ∀ a, a < 0 → ∀ b, b < 0 → a ≠ b → (TJ1 a).2.1 ≠ (TJ1 b).2.1 := by decide +kernel
theorem tyJ1_ok : ∀ k, k < 0 → parseFieldDescriptor (TJ1 k).2.2.1 = some (tyJ1 k) := by decide +kernel
abbrev cJ1_charAt_3b067 : ByteArray := prog_15_method_2_code
def yJ1_charAt_3b067 : MethodName := ⟨RJ1, "charAt", "([BI)C"⟩
def RJ2 : String := "java/lang/StringUTF16"
def TJ2 : u_T := fun k => match k with
  | _ => ("", "", "", false)
def tyJ2 : Nat → FieldType := fun k => match k with
  | _ => .int
abbrev wsJ20 : List Cond := u_ws RJ2 TJ2 0
theorem nmJ2 : ∀ a, a < 0 → ∀ b, b < 0 → a ≠ b → (TJ2 a).2.1 ≠ (TJ2 b).2.1 := by decide +kernel
theorem tyJ2_ok : ∀ k, k < 0 → parseFieldDescriptor (TJ2 k).2.2.1 = some (tyJ2 k) := by decide +kernel
abbrev cJ2_getChar_3b067 : ByteArray := prog_16_method_5_code
def yJ2_getChar_3b067 : MethodName := ⟨RJ2, "getChar", "([BI)C"⟩
abbrev cJ2_length_9d52b : ByteArray := prog_16_method_6_code
def yJ2_length_9d52b : MethodName := ⟨RJ2, "length", "([B)I"⟩
abbrev cJ2_charAt_3b067 : ByteArray := prog_16_method_83_code
def yJ2_charAt_3b067 : MethodName := ⟨RJ2, "charAt", "([BI)C"⟩
abbrev cJ2_checkIndex_2214a : ByteArray := prog_16_method_91_code
def yJ2_checkIndex_2214a : MethodName := ⟨RJ2, "checkIndex", "(I[B)V"⟩
def RJ10 : String := "java/lang/System"
def TJ10 : u_T := fun k => match k with
  | _ => ("", "", "", false)
def tyJ10 : Nat → FieldType := fun k => match k with
  | _ => .int
abbrev wsJ100 : List Cond := u_ws RJ10 TJ10 0
theorem nmJ10 : ∀ a, a < 0 → ∀ b, b < 0 → a ≠ b → (TJ10 a).2.1 ≠ (TJ10 b).2.1 := by decide +kernel
theorem tyJ10_ok : ∀ k, k < 0 → parseFieldDescriptor (TJ10 k).2.2.1 = some (tyJ10 k) := by decide +kernel
def RJ7 : String := "java/util/Arrays"
def TJ7 : u_T := fun k => match k with
  | _ => ("", "", "", false)
def tyJ7 : Nat → FieldType := fun k => match k with
  | _ => .int
abbrev wsJ70 : List Cond := u_ws RJ7 TJ7 0
theorem nmJ7 : ∀ a, a < 0 → ∀ b, b < 0 → a ≠ b → (TJ7 a).2.1 ≠ (TJ7 b).2.1 := by decide +kernel
theorem tyJ7_ok : ∀ k, k < 0 → parseFieldDescriptor (TJ7 k).2.2.1 = some (tyJ7 k) := by decide +kernel
abbrev cJ7_fill_d0a16 : ByteArray := prog_19_method_101_code
def yJ7_fill_d0a16 : MethodName := ⟨RJ7, "fill", "([JJ)V"⟩
def RJ3 : String := "jdk/internal/util/Preconditions"
def TJ3 : u_T := fun k => match k with
  | _ => ("", "", "", false)
def tyJ3 : Nat → FieldType := fun k => match k with
  | _ => .int
abbrev wsJ30 : List Cond := u_ws RJ3 TJ3 0
theorem nmJ3 : ∀ a, a < 0 → ∀ b, b < 0 → a ≠ b → (TJ3 a).2.1 ≠ (TJ3 b).2.1 := by decide +kernel
theorem tyJ3_ok : ∀ k, k < 0 → parseFieldDescriptor (TJ3 k).2.2.1 = some (tyJ3 k) := by decide +kernel
abbrev cJ3_checkIndex_8e157 : ByteArray := prog_21_method_11_code
def yJ3_checkIndex_8e157 : MethodName := ⟨RJ3, "checkIndex", "(IILjava/util/function/BiFunction;)I"⟩
def RL : String := "TaleSumsLaw"
abbrev cL_sentence : ByteArray := method_3_code
def yL_sentence : MethodName := ⟨RL, "sentence", "(LTaleSums;II[J)I"⟩
abbrev cL_law : ByteArray := code
def yL_law : MethodName := ⟨RL, "law", "([I)Z"⟩
abbrev vwCl : List vw_C := [(RX0, TX0, 3), (RX1, TX1, 2), (RX2, TX2, 1), (RX3, TX3, 6), (RX4, TX4, 14), (RX5, TX5, 4), (RX6, TX6, 6), (RX7, TX7, 27)]
end
section
/-! THE WORDS: all good words of the tables; every method has them all -/
def zTbl : List Cond := lw_tbl.filter goodWord
theorem zmem {w : Cond} (i : Nat) (h : lw_tbl[i]? = some w) (g : goodWord w = true) : w ∈ zTbl := List.mem_filter.mpr ⟨List.mem_of_getElem? h, g⟩
theorem zgA : GoodIn zTbl zTbl := fun w h => ⟨h, good_of_word (List.mem_filter.mp h).2⟩
theorem zg1 {w : Cond} {ws : List Cond} (h : w ∈ zTbl) (g : GoodIn zTbl ws) : GoodIn zTbl (w :: ws) := fun x hx => by
  rcases List.mem_cons.mp hx with e | e
  · rw [e]; exact zgA w h
  · exact g x e
theorem zgI {y : MethodName} {b : ByteArray} {m : Nat} {r : Option FieldType} (h : Cond.code y b m r ∈ zTbl) : GoodIn zTbl (Cond.code y b m r :: zTbl) := zg1 h zgA
theorem zgS {own : String} {ix : Nat} {y : MethodName} {b : ByteArray} {m : Nat} {r : Option FieldType} (h1 : Cond.methodLink own ix y ∈ zTbl) (h2 : Cond.static y ∈ zTbl) (h3 : Cond.initialized y.cls ∈ zTbl) (h : Cond.code y b m r ∈ zTbl) : GoodIn zTbl (va_wsS own ix y (Cond.code y b m r :: zTbl)) := zg1 h1 (zg1 h2 (zg1 h3 (zgI h)))
theorem zgV {own C : String} {ix : Nat} {y : MethodName} {b : ByteArray} {m : Nat} {r : Option FieldType} (h1 : Cond.methodLink own ix y ∈ zTbl) (h2 : Cond.instanceMethod y ∈ zTbl) (h3 : Cond.selects C y y ∈ zTbl) (h4 : Cond.initialized C ∈ zTbl) (h : Cond.code y b m r ∈ zTbl) : GoodIn zTbl (wsV own ix C y (Cond.code y b m r :: zTbl)) := zg1 h1 (zg1 h2 (zg1 h3 (zg1 h4 (zgI h))))
theorem zws {C : String} {T : u_T} {N : Nat} (h : ∀ k, k < N → u_lay C T k ∈ zTbl) : ∀ w ∈ u_ws C T N, w ∈ zTbl := fun w hw => by
  obtain ⟨k, hk, rfl⟩ := List.mem_map.mp hw
  exact h k (List.mem_range.mp hk)
/-! THE MEMORY: what the cells hold, by address and place: ints, longs, references. A heap is a list of addresses, the kind and the length of each, and a memory. -/
abbrev zM : Type := (Nat → Nat → Int32) × (Nat → Nat → Int64) × (Nat → Nat → Option Nat)
abbrev zS : Type := List Nat × (Nat → Nat) × (Nat → Nat)
/-- classes' places, array classes, the addresses of the texts and of their bytes -/
abbrev zE : Type := va_G × (Nat → ClassId) × (Nat → Nat) × (Nat → Nat)
def zu {α : Type} (f : Nat → Nat → α) (a k : Nat) (v : α) : Nat → Nat → α := fun b j => if b = a ∧ j = k then v else f b j
def zr {α : Type} (f : Nat → Nat → α) (a : Nat) (g : Nat → α) : Nat → Nat → α := fun b j => if b = a then g j else f b j
theorem zu_s {α : Type} {f : Nat → Nat → α} {a k : Nat} {v : α} : zu f a k v a k = v := if_pos ⟨rfl, rfl⟩
theorem zu_k {α : Type} {f : Nat → Nat → α} {a b k j : Nat} {v : α} (h : j ≠ k) : zu f a k v b j = f b j := if_neg fun q => h q.2
theorem zu_a {α : Type} {f : Nat → Nat → α} {a b k j : Nat} {v : α} (h : b ≠ a) : zu f a k v b j = f b j := if_neg fun q => h q.1
theorem zr_s {α : Type} {f : Nat → Nat → α} {a : Nat} {g : Nat → α} : zr f a g a = g := funext fun _ => if_pos rfl
theorem zr_sk {α : Type} {f : Nat → Nat → α} {a k : Nat} {g : Nat → α} : zr f a g a k = g k := if_pos rfl
theorem zr_a {α : Type} {f : Nat → Nat → α} {a b : Nat} {g : Nat → α} (h : b ≠ a) : zr f a g b = f b := funext fun _ => if_neg h
theorem zr_ak {α : Type} {f : Nat → Nat → α} {a b k : Nat} {g : Nat → α} (h : b ≠ a) : zr f a g b k = f b k := if_neg h
theorem zr_id {α : Type} {f : Nat → Nat → α} {a : Nat} : zr f a (f a) = f := funext fun b => by
  by_cases h : b = a
  · subst h; exact zr_s
  · exact zr_a h
theorem zr_zr {α : Type} {f : Nat → Nat → α} {a : Nat} {g h : Nat → α} : zr (zr f a g) a h = zr f a h := funext fun b => funext fun j => by
  by_cases q : b = a <;> simp [zr, q]
theorem zu_zr {α : Type} {f : Nat → Nat → α} {a k : Nat} {v : α} {g : Nat → α} : zu (zr f a g) a k v = zr f a (fun j => if j = k then v else g j) := funext fun b => funext fun j => by
  by_cases q : b = a <;> by_cases w : j = k <;> simp [zr, zu, q, w]
theorem zu_as {α : Type} {f : Nat → Nat → α} {a k : Nat} {v : α} : zu f a k v = zr f a (fun j => if j = k then v else f a j) := funext fun b => funext fun j => by
  by_cases q : b = a <;> by_cases w : j = k <;> simp [zr, zu, q, w]
theorem zr_zu {α : Type} {f : Nat → Nat → α} {a k : Nat} {v : α} {g : Nat → α} : zr (zu f a k v) a g = zr f a g := funext fun b => funext fun j => by
  by_cases q : b = a <;> simp [zr, zu, q]
theorem zu_zu {α : Type} {f : Nat → Nat → α} {a k : Nat} {v w : α} : zu (zu f a k v) a k w = zu f a k w := funext fun b => funext fun j => by
  by_cases q : b = a ∧ j = k <;> simp [zu, q]
theorem zu_self {α : Type} {f : Nat → Nat → α} {a k : Nat} : zu f a k (f a k) = f := funext fun b => funext fun j => by
  by_cases q : b = a ∧ j = k
  · simp [zu, q]
  · simp [zu, q]
theorem zu_cm {α : Type} {f : Nat → Nat → α} {a b k j : Nat} {v w : α} (h : k ≠ j) : zu (zu f a k v) b j w = zu (zu f b j w) a k v := funext fun c => funext fun i => by
  by_cases q : c = a ∧ i = k <;> by_cases r : c = b ∧ i = j
  · exact absurd (q.2.symm.trans r.2) h
  · simp [zu, q, r, h]
  · simp [zu, q, r, Ne.symm h]
  · simp [zu, q, r]
theorem zu_ca {α : Type} {f : Nat → Nat → α} {a b k j : Nat} {v w : α} (h : a ≠ b) : zu (zu f a k v) b j w = zu (zu f b j w) a k v := funext fun c => funext fun i => by
  by_cases q : c = a ∧ i = k <;> by_cases r : c = b ∧ i = j
  · exact absurd (q.1.symm.trans r.1) h
  · simp [zu, q, r, h]
  · simp [zu, q, r, Ne.symm h]
  · simp [zu, q, r]
/-- the kinds of a class's fields: 0 int, 1 long, 2 reference -/
def zk : Nat → List Nat
  | 0 => [2, 2, 0]
  | 1 => [2, 2]
  | 2 => [2]
  | 3 => [2, 2, 0, 0, 0, 0]
  | 4 => [2, 2, 2, 2, 2, 2, 2, 2, 2, 0, 1, 1, 0, 0]
  | 5 => [2, 0, 0, 0]
  | 6 => [2, 2, 2, 2, 2, 2]
  | 7 => [0, 2, 0, 2, 2, 2, 2, 0, 0, 0, 2, 2, 0, 0, 0, 0, 0, 0, 0, 0, 0, 2, 2, 2, 0, 1, 1]
  | _ => []
def zval (μ : zM) (a t k : Nat) : Value := if t = 0 then .int (μ.1 a k) else if t = 1 then .long (μ.2.1 a k) else va_rf (μ.2.2 a k)
def zf (μ : zM) (a : Nat) : List Nat → Nat → List Value
  | [], _ => []
  | t :: ts, k => zval μ a t k :: zf μ a ts (k + 1)
theorem zf_len (μ : zM) (a : Nat) : ∀ (ts : List Nat) (k : Nat), (zf μ a ts k).length = ts.length
  | [], _ => rfl
  | _ :: ts, k => congrArg (· + 1) (zf_len μ a ts (k + 1))
theorem zf_get (μ : zM) (a : Nat) : ∀ (ts : List Nat) (k j t : Nat), ts[j]? = some t → (zf μ a ts k)[j]? = some (zval μ a t (k + j))
  | [], _, _, _, h => by simp at h
  | t0 :: ts, k, 0, t, h => by
    have e : t0 = t := by simpa using h
    subst e
    rfl
  | t0 :: ts, k, j + 1, t, h => by
    have e : ts[j]? = some t := by simpa using h
    have := zf_get μ a ts (k + 1) j t e
    show (zf μ a ts (k + 1))[j]? = _
    rw [this, show k + 1 + j = k + (j + 1) by omega]
theorem zf_set (μ ν : zM) (a : Nat) (v : Value) : ∀ (ts : List Nat) (k j t : Nat), ts[j]? = some t → zval ν a t (k + j) = v → (∀ i u : Nat, i ≠ k + j → zval ν a u i = zval μ a u i) → (zf μ a ts k).set j v = zf ν a ts k
  | [], _, _, _, h, _, _ => by simp at h
  | t0 :: ts, k, 0, t, h, hv, ho => by
    have e : t0 = t := by simpa using h
    subst e
    show v :: zf μ a ts (k + 1) = zval ν a t0 k :: zf ν a ts (k + 1)
    rw [← hv]
    congr 1
    have : ∀ (ts : List Nat) (i : Nat), k < i → zf μ a ts i = zf ν a ts i := by
      intro ts
      induction ts with
      | nil => intro i _; rfl
      | cons u us ih =>
        intro i hi
        show zval μ a u i :: _ = zval ν a u i :: _
        rw [ho i u (by omega), ih (i + 1) (by omega)]
    exact this ts (k + 1) (by omega)
  | t0 :: ts, k, j + 1, t, h, hv, ho => by
    have e : ts[j]? = some t := by simpa using h
    show zval μ a t0 k :: (zf μ a ts (k + 1)).set j v = zval ν a t0 k :: zf ν a ts (k + 1)
    rw [ho k t0 (by omega), zf_set μ ν a v ts (k + 1) j t e (by rw [show k + 1 + j = k + (j + 1) by omega]; exact hv) (fun i u hi => ho i u (by omega))]
/-- the cell at an address -/
def zc (Y : Nat → ClassId) (K N : Nat → Nat) (μ : zM) (a : Nat) : va_E :=
  if K a < 8 then .inr (K a, zf μ a (zk (K a)) 0) else .inl (Y (K a - 8), N a, if K a = 10 then .inr (.inl (μ.2.1 a)) else if K a < 12 then .inl (μ.1 a) else .inr (.inr (.inr (.inr (μ.2.2 a)))))
def zW (E : zE) (S : zS) (μ : zM) : va_W := va_pl S.1 (zc E.2.1 S.2.1 S.2.2 μ)
def zT (E : zE) : List (ClassId × FieldType) := [(E.2.1 0, .byte), (E.2.1 1, .int), (E.2.1 2, .long), (E.2.1 3, .boolean), (E.2.1 4, .object "TaleSums$Laws"), (E.2.1 5, .array .int), (E.2.1 6, .array .long)]
/-- an object of the class ci, an array of the kind k with n places -/
def zO (S : zS) (a ci : Nat) : Prop := a ∈ S.1 ∧ S.2.1 a = ci
def zA (S : zS) (a k n : Nat) : Prop := a ∈ S.1 ∧ S.2.1 a = k ∧ S.2.2 a = n
theorem zc_o {Y : Nat → ClassId} {K N : Nat → Nat} {μ : zM} {a ci : Nat} (h : K a = ci) (h8 : ci < 8) : zc Y K N μ a = .inr (ci, zf μ a (zk ci) 0) := by
  unfold zc; rw [h, if_pos h8]
theorem zc_i {Y : Nat → ClassId} {K N : Nat → Nat} {μ : zM} {a k n : Nat} (h : K a = k) (hn : N a = n) (h8 : ¬ k < 8) (h10 : k ≠ 10) (h12 : k < 12) : zc Y K N μ a = .inl (Y (k - 8), n, .inl (μ.1 a)) := by
  unfold zc; rw [h, hn, if_neg h8, if_neg h10, if_pos h12]
theorem zc_j {Y : Nat → ClassId} {K N : Nat → Nat} {μ : zM} {a n : Nat} (h : K a = 10) (hn : N a = n) : zc Y K N μ a = .inl (Y 2, n, .inr (.inl (μ.2.1 a))) := by
  unfold zc; rw [h, hn, if_neg (by decide), if_pos rfl]
theorem zc_r {Y : Nat → ClassId} {K N : Nat → Nat} {μ : zM} {a k n : Nat} (h : K a = k) (hn : N a = n) (h12 : 12 ≤ k) : zc Y K N μ a = .inl (Y (k - 8), n, .inr (.inr (.inr (.inr (μ.2.2 a))))) := by
  unfold zc; rw [h, hn, if_neg (by omega), if_neg (by omega), if_neg (by omega)]
theorem zW_at {E : zE} {S : zS} {μ : zM} {a : Nat} {x : va_E} (h : a ∈ S.1) (e : zc E.2.1 S.2.1 S.2.2 μ a = x) : ∃ k : Nat, (zW E S μ)[k]? = some (a, zc E.2.1 S.2.1 S.2.2 μ a) ∧ (zW E S μ)[k]? = some (a, x) := by
  obtain ⟨k, hk⟩ := va_pl_get (X := []) (f := zc E.2.1 S.2.1 S.2.2 μ) h
  exact ⟨k, hk, by rw [← e]; exact hk⟩
theorem zW_set {E : zE} {S : zS} {μ ν : zM} {A : Nat → Prop} {a k : Nat} {x : va_E} (hD : va_D A (zW E S μ)) (h : a ∈ S.1) (hk : (zW E S μ)[k]? = some (a, zc E.2.1 S.2.1 S.2.2 μ a)) (e : zc E.2.1 S.2.1 S.2.2 ν a = x) (ho : ∀ b, b ≠ a → zc E.2.1 S.2.1 S.2.2 ν b = zc E.2.1 S.2.1 S.2.2 μ b) : (zW E S μ).set k (a, x) = zW E S ν := by
  have h1 := va_pl_set (X := []) (L := S.1) (f := zc E.2.1 S.2.1 S.2.2 μ) (e := x) hD h hk
  show ([] ++ va_pl S.1 (zc E.2.1 S.2.1 S.2.2 μ)).set k (a, x) = va_pl S.1 (zc E.2.1 S.2.1 S.2.2 ν)
  rw [h1]
  refine va_pl_congr fun b => ?_
  by_cases q : b = a
  · subst q; rw [e]; simp [va_up]
  · rw [ho b q]; simp [va_up, q]
theorem zf_congr {μ ν : zM} {a : Nat} (h : ∀ t k, zval μ a t k = zval ν a t k) : ∀ (ts : List Nat) (k : Nat), zf μ a ts k = zf ν a ts k
  | [], _ => rfl
  | t :: ts, k => by show _ :: _ = _ :: _; rw [h t k, zf_congr h ts (k + 1)]
theorem zc_congr {Y : Nat → ClassId} {K N : Nat → Nat} {μ ν : zM} {b : Nat} (h1 : μ.1 b = ν.1 b) (h2 : μ.2.1 b = ν.2.1 b) (h3 : μ.2.2 b = ν.2.2 b) : zc Y K N μ b = zc Y K N ν b := by
  unfold zc
  rw [h1, h2, h3, zf_congr (μ := μ) (ν := ν) (fun t k => by unfold zval; rw [h1, h2, h3])]
theorem zu_o {α : Type} {f : Nat → Nat → α} {a b k : Nat} {v : α} (h : b ≠ a) : zu f a k v b = f b := funext fun _ => zu_a h
/-! THE TEXTS: every literal of the program by its place: class, entry, text, bytes -/
def zlits : List (String × Nat × String) := [("TaleSums$Reader", 25, "how"), ("TaleSums$Reader", 54, "has"), ("TaleSums$Reader", 60, "and"), ("TaleSums$Reader", 65, "have"), ("TaleSums$Reader", 70, "gives"), ("TaleSums$Reader", 72, "to"), ("TaleSums$Reader", 74, "buys"), ("TaleSums$Reader", 76, "eats"), ("TaleSums$Reader", 78, "."), ("TaleSums$Reader", 89, "more"), ("TaleSums$Reader", 94, "than"), ("TaleSums$Reader", 96, "fewer"), ("TaleSums$Reader", 98, "times"), ("TaleSums$Reader", 100, "as"), ("TaleSums$Reader", 102, "many"), ("TaleSums$Reader", 110, "?"), ("TaleSums$Reader", 116, "had"), ("TaleSums$Tape", 47, "annbobcatdanevefaygushal"), ("TaleSums$Tape", 49, "nutsfigspieseggs"), ("TaleSumsModel", 86, "ann"), ("TaleSumsModel", 88, "bob"), ("TaleSumsModel", 90, "cat"), ("TaleSumsModel", 92, "dan"), ("TaleSumsModel", 98, "eve"), ("TaleSumsModel", 100, "fay"), ("TaleSumsModel", 102, "gus"), ("TaleSumsModel", 104, "hal"), ("TaleSumsModel", 106, "nuts"), ("TaleSumsModel", 108, "figs"), ("TaleSumsModel", 110, "pies"), ("TaleSumsModel", 112, "eggs"), ("TaleSumsModel", 139, "and"), ("TaleSumsModel", 147, "have"), ("TaleSumsModel", 156, "."), ("TaleSumsModel", 158, "gives"), ("TaleSumsModel", 160, "to"), ("TaleSumsModel", 162, "buys"), ("TaleSumsModel", 164, "eats"), ("TaleSumsModel", 166, "has"), ("TaleSumsModel", 168, "more"), ("TaleSumsModel", 170, "fewer"), ("TaleSumsModel", 172, "than"), ("TaleSumsModel", 174, "times"), ("TaleSumsModel", 180, "as"), ("TaleSumsModel", 182, "many"), ("TaleSumsModel", 184, "how"), ("TaleSumsModel", 186, "had"), ("TaleSumsModel", 188, "?")]
def zlN : Nat := 48
def zlO (i : Nat) : String := (zlits.getD i ("", 0, "")).1
def zlK (i : Nat) : Nat := (zlits.getD i ("", 0, "")).2.1
def zlT (i : Nat) : String := (zlits.getD i ("", 0, "")).2.2
def zsB : List (List Int32) := [[104, 111, 119], [104, 97, 115], [97, 110, 100], [104, 97, 118, 101], [103, 105, 118, 101, 115], [116, 111], [98, 117, 121, 115], [101, 97, 116, 115], [46], [109, 111, 114, 101], [116, 104, 97, 110], [102, 101, 119, 101, 114], [116, 105, 109, 101, 115], [97, 115], [109, 97, 110, 121], [63], [104, 97, 100], [97, 110, 110, 98, 111, 98, 99, 97, 116, 100, 97, 110, 101, 118, 101, 102, 97, 121, 103, 117, 115, 104, 97, 108], [110, 117, 116, 115, 102, 105, 103, 115, 112, 105, 101, 115, 101, 103, 103, 115], [97, 110, 110], [98, 111, 98], [99, 97, 116], [100, 97, 110], [101, 118, 101], [102, 97, 121], [103, 117, 115], [104, 97, 108], [110, 117, 116, 115], [102, 105, 103, 115], [112, 105, 101, 115], [101, 103, 103, 115], [97, 110, 100], [104, 97, 118, 101], [46], [103, 105, 118, 101, 115], [116, 111], [98, 117, 121, 115], [101, 97, 116, 115], [104, 97, 115], [109, 111, 114, 101], [102, 101, 119, 101, 114], [116, 104, 97, 110], [116, 105, 109, 101, 115], [97, 115], [109, 97, 110, 121], [104, 111, 119], [104, 97, 100], [63]]
def zsb (i : Nat) : List Int32 := zsB.getD i []
/-- the text i, as an object that nothing here writes -/
def zs1 (E : zE) (A : Nat → Prop) (U : State) (H : Heap) (i : Nat) : Prop := va_O "java/lang/String" (E.2.2.1 i) A U H ∧ va_OF "java/lang/String" "coder" "B" (.int 0) (E.2.2.1 i) A U H ∧ va_OF "java/lang/String" "value" "[B" (.ref (E.2.2.2 i)) (E.2.2.1 i) A U H ∧ va_T .byte (E.2.2.2 i) (zsb i).length (fun j => .int ((zsb i).getD j 0)) A U H
theorem zs1_moved {E : zE} {A : Nat → Prop} {u U : State} {H : Heap} {i : Nat} (hvm : u.vm.Alike U.vm) (h : zs1 E A u H i) : zs1 E A U H i := ⟨va_O.moved hvm h.1, va_OF.moved hvm h.2.1, va_OF.moved hvm h.2.2.1, va_T.moved hvm h.2.2.2⟩
theorem zs1_kept {E : zE} {A : Nat → Prop} {U : State} {H H1 : Heap} {i : Nat} (hq : ∀ a : Nat, a < H.size → ¬ A a → H1[a]? = H[a]?) (h : zs1 E A U H i) : zs1 E A U H1 i := ⟨h.1.kept hq, h.2.1.kept hq, h.2.2.1.kept hq, h.2.2.2.kept hq⟩
theorem zs1_narrow {E : zE} {A B : Nat → Prop} {U : State} {H : Heap} {i : Nat} (hAB : ∀ q, B q → A q) (h : zs1 E A U H i) : zs1 E B U H i := ⟨h.1.narrow hAB, h.2.1.narrow hAB, h.2.2.1.narrow hAB, h.2.2.2.narrow hAB⟩
/-- the two statics of the JDK that are read -/
def zs2 (E : zE) (A : Nat → Prop) (U : State) (H : Heap) : Prop := va_Z "java/lang/String" "COMPACT_STRINGS" "Z" (.int 1) A U H ∧ va_Z "jdk/internal/util/Preconditions" "SIOOBE_FORMATTER" "Ljava/util/function/BiFunction;" (.ref (E.2.2.2 48)) A U H
def zX (E : zE) (A : Nat → Prop) (U : State) : Prop := (∀ i : Nat, i < zlN → zs1 E A U U.heap i) ∧ (∀ i : Nat, i < zlN → vk_R (zlO i) (zlK i) (zlT i) (E.2.2.1 i) U) ∧ zs2 E A U U.heap
/-- a method's fixed things: program, launch, env, room, start, method, args, frames below, its code, the end that is wanted, the free addresses, its locals -/
abbrev zC : Type := Program × Launch × Env × Room × State × MethodId × Array Value × List Frame × Method × Code × (State → Prop) × (Nat → Prop) × Nat
def zV (X : zC) (E : zE) (S : zS) (kc ks : Nat) (μ : zM) (pc : Nat) (lv : List (Nat × Value)) (st : List Value) : Prop :=
  ∀ (H : Heap) (locs : List Loc) (ls : Array Slot), va_P E.1 vwCl (zW E S μ) H → va_D X.2.2.2.2.2.2.2.2.2.2.2.1 (zW E S μ) → va_S X.2.2.2.2.2.2.2.2.2.2.2.1 X.2.2.2.2.1.heap H locs → lv_has ls X.2.2.2.2.2.2.2.2.2.2.2.2 lv →
    W X.1 X.2.1 X.2.2.1 X.2.2.2.1 X.2.2.2.2.1 X.2.2.2.2.2.1 X.2.2.2.2.2.2.1 X.2.2.2.2.2.2.2.1 X.2.2.2.2.2.2.2.2.1 X.2.2.2.2.2.2.2.2.2.1 H locs kc ks X.2.2.2.2.2.2.2.2.2.2.1 (F0 X.2.2.2.2.2.1 pc ls st)
/-- what holds of them all through the method -/
def zOK (X : zC) (E : zE) (l : Launch) (cc : ByteArray) (own : String) (Ts : List Cond) (rm : Room) (nL : Nat) : Prop :=
  X.1.tables.exec = Jvm.exec ∧ X.2.2.2.2.2.2.2.2.2.1.code = cc ∧ X.2.2.2.2.2.2.2.2.2.1.maxLocals = nL ∧ X.2.2.2.2.1.vm.findClass own = some X.2.2.2.2.2.1.cls ∧ (∀ w ∈ Ts, w.before X.2.2.2.2.2.2.1 X.2.2.2.2.1 = true) ∧ va_K E.1 vwCl (zT E) X.2.2.2.2.1 ∧ (∀ q, X.2.2.2.2.1.heap.size ≤ q → X.2.2.2.2.2.2.2.2.2.2.2.1 q) ∧ zX E X.2.2.2.2.2.2.2.2.2.2.2.1 X.2.2.2.2.1 ∧ X.2.1 = l ∧ X.2.2.2.1 = rm ∧ X.2.2.2.2.2.2.2.2.2.2.2.2 = nL
def lvg : List (Nat × Value) → Nat → Option Value
  | [], _ => none
  | q :: r, i => match Nat.beq q.1 i with
    | true => some q.2
    | false => lvg r i
theorem lvg_has {ls : Array Slot} {n : Nat} : ∀ {lv : List (Nat × Value)} {i : Nat} {v : Value}, lv_has ls n lv → lvg lv i = some v → ls[i]? = some (.val v) := by
  intro lv
  induction lv with
  | nil => intro i v _ h; simp [lvg] at h
  | cons q r ih =>
    intro i v h1 h
    unfold lvg at h
    cases e : Nat.beq q.1 i with
    | true =>
      rw [e] at h
      have h2 : q.2 = v := by simpa using h
      have h3 := Nat.eq_of_beq_eq_true e
      have h4 := h1.2.2 q List.mem_cons_self
      rw [h3, h2] at h4
      exact h4
    | false =>
      rw [e] at h
      exact ih ⟨h1.1, h1.2.1, fun q hq => h1.2.2 q (List.mem_cons_of_mem _ hq)⟩ h
def lvsub (lv : List (Nat × Value)) : List (Nat × Value) → Prop
  | [] => True
  | q :: r => lvg lv q.1 = some q.2 ∧ lvsub lv r
theorem lvsub_has {ls : Array Slot} {n : Nat} {lv : List (Nat × Value)} (h : lv_has ls n lv) : ∀ {lv' : List (Nat × Value)}, lvsub lv lv' → lv_has ls n lv' := by
  intro lv' hs
  refine ⟨h.1, h.2.1, ?_⟩
  induction lv' with
  | nil => intro q hq; simp at hq
  | cons q r ih =>
    intro x hx
    rcases List.mem_cons.mp hx with e | e
    · rw [e]; exact lvg_has h hs.1
    · exact ih hs.2 x e
abbrev lvs1 (lv : List (Nat × Value)) (i : Nat) (v : Value) : List (Nat × Value) := (i, v) :: lv.filter (fun q => !(q.1 == i) && !(q.1 + 1 == i && q.2.category == 2))
abbrev lvs2 (lv : List (Nat × Value)) (i : Nat) (v : Value) : List (Nat × Value) := (i, v) :: lv.filter (fun q => !(q.1 == i) && (!(q.1 == i + 1) && !(q.1 + 1 == i && q.2.category == 2)))
section ZV
variable {X : zC} {E : zE} {S : zS} {kc ks : Nat} {μ : zM} {pc : Nat} {lv : List (Nat × Value)} {st : List Value} {l : Launch} {cc : ByteArray} {own : String} {Ts : List Cond} {rm : Room} {nL : Nat}
theorem z_mem {ν : zM} (e : μ = ν) (k : zV X E S kc ks ν pc lv st) : zV X E S kc ks μ pc lv st := e ▸ k
theorem z_st {st' : List Value} (e : st = st') (k : zV X E S kc ks μ pc lv st') : zV X E S kc ks μ pc lv st := e ▸ k
theorem z_lv {lv' : List (Nat × Value)} (hs : lvsub lv lv') (k : zV X E S kc ks μ pc lv' st) : zV X E S kc ks μ pc lv st := fun H locs ls hP hD hS hl => k H locs ls hP hD hS (lvsub_has hl hs)
theorem z_wide {kc' ks' : Nat} (h1 : kc ≤ kc') (h2 : ks ≤ ks') (k : zV X E S kc' ks' μ pc lv st) : zV X E S kc ks μ pc lv st := fun H locs ls hP hD hS hl => W.widen h1 h2 (k H locs ls hP hD hS hl)
theorem z_iconst (h : zOK X E l cc own Ts rm nL) {n : Int} {v : Int32} (hd : decode cc pc = .ok (.iconst n, 1)) (hv : Int32.ofInt n = v) (k : zV X E S kc ks μ (pc + 1) lv (.int v :: st)) : zV X E S kc ks μ pc lv (st) := fun H locs ls hP hD hS hl => lv_iconst h.1 h.2.1 hd hv (k H locs ls hP hD hS hl)
theorem z_bipush (h : zOK X E l cc own Ts rm nL) {n : Int} {v : Int32} (hd : decode cc pc = .ok (.bipush n, 2)) (hv : (Int8.ofInt n).toInt32 = v) (k : zV X E S kc ks μ (pc + 2) lv (.int v :: st)) : zV X E S kc ks μ pc lv (st) := fun H locs ls hP hD hS hl => lv_bipush h.1 h.2.1 hd hv (k H locs ls hP hD hS hl)
theorem z_sipush (h : zOK X E l cc own Ts rm nL) {n : Int} {v : Int32} (hd : decode cc pc = .ok (.sipush n, 3)) (hv : (Int16.ofInt n).toInt32 = v) (k : zV X E S kc ks μ (pc + 3) lv (.int v :: st)) : zV X E S kc ks μ pc lv (st) := fun H locs ls hP hD hS hl => lv_sipush h.1 h.2.1 hd hv (k H locs ls hP hD hS hl)
theorem z_lconst (h : zOK X E l cc own Ts rm nL) {n : Fin 2} {v : Int64} (hd : decode cc pc = .ok (.lconst n, 1)) (hv : Int64.ofNat (n : Nat) = v) (k : zV X E S kc ks μ (pc + 1) lv (.long v :: st)) : zV X E S kc ks μ pc lv (st) := fun H locs ls hP hD hS hl => lv_lconst h.1 h.2.1 hd hv (k H locs ls hP hD hS hl)
theorem z_iload_n (h : zOK X E l cc own Ts rm nL) {j : Fin 4} {i : Nat} {x : Int32} (hd : decode cc pc = .ok (.iload_n j, 1)) (hi : (j : Nat) = i) (hv : lvg lv i = some (.int x)) (k : zV X E S kc ks μ (pc + 1) lv (.int x :: st)) : zV X E S kc ks μ pc lv (st) := fun H locs ls hP hD hS hl => lv_iload_n h.1 h.2.1 hd hi (lvg_has hl hv) (k H locs ls hP hD hS hl)
theorem z_iload (h : zOK X E l cc own Ts rm nL) {i : Nat} {x : Int32} (hd : decode cc pc = .ok (.iload i, 2)) (hv : lvg lv i = some (.int x)) (k : zV X E S kc ks μ (pc + 2) lv (.int x :: st)) : zV X E S kc ks μ pc lv (st) := fun H locs ls hP hD hS hl => lv_iload h.1 h.2.1 hd (lvg_has hl hv) (k H locs ls hP hD hS hl)
theorem z_istore_n (h : zOK X E l cc own Ts rm nL) {j : Fin 4} {i : Nat} {x : Int32} (hd : decode cc pc = .ok (.istore_n j, 1)) (hi : (j : Nat) = i) (hn : i < nL) (k : zV X E S kc ks μ (pc + 1) (lvs1 lv i (.int x)) st) : zV X E S kc ks μ pc lv (.int x :: st) := fun H locs ls hP hD hS hl => lv_istore_n h.1 h.2.1 hd hi hl (by rw [h.2.2.2.2.2.2.2.2.2.2]; exact hn) rfl (fun ls' hl' => k H locs ls' hP hD hS hl')
theorem z_istore (h : zOK X E l cc own Ts rm nL) {i : Nat} {x : Int32} (hd : decode cc pc = .ok (.istore i, 2)) (hn : i < nL) (k : zV X E S kc ks μ (pc + 2) (lvs1 lv i (.int x)) st) : zV X E S kc ks μ pc lv (.int x :: st) := fun H locs ls hP hD hS hl => lv_istore h.1 h.2.1 hd hl (by rw [h.2.2.2.2.2.2.2.2.2.2]; exact hn) rfl (fun ls' hl' => k H locs ls' hP hD hS hl')
theorem z_lload_n (h : zOK X E l cc own Ts rm nL) {j : Fin 4} {i : Nat} {x : Int64} (hd : decode cc pc = .ok (.lload_n j, 1)) (hi : (j : Nat) = i) (hv : lvg lv i = some (.long x)) (k : zV X E S kc ks μ (pc + 1) lv (.long x :: st)) : zV X E S kc ks μ pc lv (st) := fun H locs ls hP hD hS hl => lv_lload_n h.1 h.2.1 hd hi (lvg_has hl hv) (k H locs ls hP hD hS hl)
theorem z_lload (h : zOK X E l cc own Ts rm nL) {i : Nat} {x : Int64} (hd : decode cc pc = .ok (.lload i, 2)) (hv : lvg lv i = some (.long x)) (k : zV X E S kc ks μ (pc + 2) lv (.long x :: st)) : zV X E S kc ks μ pc lv (st) := fun H locs ls hP hD hS hl => lv_lload h.1 h.2.1 hd (lvg_has hl hv) (k H locs ls hP hD hS hl)
theorem z_lstore_n (h : zOK X E l cc own Ts rm nL) {j : Fin 4} {i : Nat} {x : Int64} (hd : decode cc pc = .ok (.lstore_n j, 1)) (hi : (j : Nat) = i) (hn : i + 1 < nL) (k : zV X E S kc ks μ (pc + 1) (lvs2 lv i (.long x)) st) : zV X E S kc ks μ pc lv (.long x :: st) := fun H locs ls hP hD hS hl => lv_lstore_n h.1 h.2.1 hd hi hl (by rw [h.2.2.2.2.2.2.2.2.2.2]; exact hn) rfl (fun ls' hl' => k H locs ls' hP hD hS hl')
theorem z_lstore (h : zOK X E l cc own Ts rm nL) {i : Nat} {x : Int64} (hd : decode cc pc = .ok (.lstore i, 2)) (hn : i + 1 < nL) (k : zV X E S kc ks μ (pc + 2) (lvs2 lv i (.long x)) st) : zV X E S kc ks μ pc lv (.long x :: st) := fun H locs ls hP hD hS hl => lv_lstore h.1 h.2.1 hd hl (by rw [h.2.2.2.2.2.2.2.2.2.2]; exact hn) rfl (fun ls' hl' => k H locs ls' hP hD hS hl')
theorem z_aload_n (h : zOK X E l cc own Ts rm nL) {j : Fin 4} {i : Nat} {x : Nat} (hd : decode cc pc = .ok (.aload_n j, 1)) (hi : (j : Nat) = i) (hv : lvg lv i = some (.ref x)) (k : zV X E S kc ks μ (pc + 1) lv (.ref x :: st)) : zV X E S kc ks μ pc lv (st) := fun H locs ls hP hD hS hl => lv_aload_n h.1 h.2.1 hd hi (lvg_has hl hv) (k H locs ls hP hD hS hl)
theorem z_aload (h : zOK X E l cc own Ts rm nL) {i : Nat} {x : Nat} (hd : decode cc pc = .ok (.aload i, 2)) (hv : lvg lv i = some (.ref x)) (k : zV X E S kc ks μ (pc + 2) lv (.ref x :: st)) : zV X E S kc ks μ pc lv (st) := fun H locs ls hP hD hS hl => lv_aload h.1 h.2.1 hd (lvg_has hl hv) (k H locs ls hP hD hS hl)
theorem z_astore_n (h : zOK X E l cc own Ts rm nL) {j : Fin 4} {i : Nat} {x : Nat} (hd : decode cc pc = .ok (.astore_n j, 1)) (hi : (j : Nat) = i) (hn : i < nL) (k : zV X E S kc ks μ (pc + 1) (lvs1 lv i (.ref x)) st) : zV X E S kc ks μ pc lv (.ref x :: st) := fun H locs ls hP hD hS hl => lv_astore_n h.1 h.2.1 hd hi hl (by rw [h.2.2.2.2.2.2.2.2.2.2]; exact hn) rfl (fun ls' hl' => k H locs ls' hP hD hS hl')
theorem z_astore (h : zOK X E l cc own Ts rm nL) {i : Nat} {x : Nat} (hd : decode cc pc = .ok (.astore i, 2)) (hn : i < nL) (k : zV X E S kc ks μ (pc + 2) (lvs1 lv i (.ref x)) st) : zV X E S kc ks μ pc lv (.ref x :: st) := fun H locs ls hP hD hS hl => lv_astore h.1 h.2.1 hd hl (by rw [h.2.2.2.2.2.2.2.2.2.2]; exact hn) rfl (fun ls' hl' => k H locs ls' hP hD hS hl')
theorem lvg_pos : ∀ {lv : List (Nat × Value)} {i : Nat} {v : Value}, lvg lv i = some v → ∃ k : Nat, lv[k]? = some (i, v) := by
  intro lv
  induction lv with
  | nil => intro i v h; simp [lvg] at h
  | cons q r ih =>
    intro i v h
    unfold lvg at h
    cases e : Nat.beq q.1 i with
    | true =>
      rw [e] at h
      have h2 : q.2 = v := by simpa using h
      have h3 := Nat.eq_of_beq_eq_true e
      exact ⟨0, by rw [← h3, ← h2]; rfl⟩
    | false =>
      rw [e] at h
      obtain ⟨k, hk⟩ := ih h
      exact ⟨k + 1, hk⟩
theorem z_iinc (h : zOK X E l cc own Ts rm nL) {i : Nat} {n : Int} {x v : Int32} (hd : decode cc pc = .ok (.iinc i n, 3)) (hx : lvg lv i = some (.int x)) (hv : x + Int32.ofInt n = v) (hn : i < nL) (k : zV X E S kc ks μ (pc + 3) (lvs1 lv i (.int v)) st) : zV X E S kc ks μ pc lv st := fun H locs ls hP hD hS hl => by
  obtain ⟨q, hq⟩ := lvg_pos hx
  exact lv_iinc h.1 h.2.1 hd hl hq hv (by rw [h.2.2.2.2.2.2.2.2.2.2]; exact hn) rfl (fun ls' hl' => k H locs ls' hP hD hS hl')
theorem z_iadd (h : zOK X E l cc own Ts rm nL) {x y : Int32} (hd : decode cc pc = .ok (.iadd, 1)) (k : zV X E S kc ks μ (pc + 1) lv (.int (x + y) :: st)) : zV X E S kc ks μ pc lv (.int y :: .int x :: st) := fun H locs ls hP hD hS hl => lv_iadd h.1 h.2.1 hd (k H locs ls hP hD hS hl)
theorem z_isub (h : zOK X E l cc own Ts rm nL) {x y : Int32} (hd : decode cc pc = .ok (.isub, 1)) (k : zV X E S kc ks μ (pc + 1) lv (.int (x - y) :: st)) : zV X E S kc ks μ pc lv (.int y :: .int x :: st) := fun H locs ls hP hD hS hl => lv_isub h.1 h.2.1 hd (k H locs ls hP hD hS hl)
theorem z_imul (h : zOK X E l cc own Ts rm nL) {x y : Int32} (hd : decode cc pc = .ok (.imul, 1)) (k : zV X E S kc ks μ (pc + 1) lv (.int (x * y) :: st)) : zV X E S kc ks μ pc lv (.int y :: .int x :: st) := fun H locs ls hP hD hS hl => lv_imul h.1 h.2.1 hd (k H locs ls hP hD hS hl)
theorem z_iand (h : zOK X E l cc own Ts rm nL) {x y : Int32} (hd : decode cc pc = .ok (.iand, 1)) (k : zV X E S kc ks μ (pc + 1) lv (.int (x &&& y) :: st)) : zV X E S kc ks μ pc lv (.int y :: .int x :: st) := fun H locs ls hP hD hS hl => lv_iand h.1 h.2.1 hd (k H locs ls hP hD hS hl)
theorem z_ior (h : zOK X E l cc own Ts rm nL) {x y : Int32} (hd : decode cc pc = .ok (.ior, 1)) (k : zV X E S kc ks μ (pc + 1) lv (.int (x ||| y) :: st)) : zV X E S kc ks μ pc lv (.int y :: .int x :: st) := fun H locs ls hP hD hS hl => lv_ior h.1 h.2.1 hd (k H locs ls hP hD hS hl)
theorem z_ixor (h : zOK X E l cc own Ts rm nL) {x y : Int32} (hd : decode cc pc = .ok (.ixor, 1)) (k : zV X E S kc ks μ (pc + 1) lv (.int (x ^^^ y) :: st)) : zV X E S kc ks μ pc lv (.int y :: .int x :: st) := fun H locs ls hP hD hS hl => lv_ixor h.1 h.2.1 hd (k H locs ls hP hD hS hl)
theorem z_ishl (h : zOK X E l cc own Ts rm nL) {x y : Int32} (hd : decode cc pc = .ok (.ishl, 1)) (k : zV X E S kc ks μ (pc + 1) lv (.int (x <<< (y &&& 31)) :: st)) : zV X E S kc ks μ pc lv (.int y :: .int x :: st) := fun H locs ls hP hD hS hl => lv_ishl h.1 h.2.1 hd (k H locs ls hP hD hS hl)
theorem z_ishr (h : zOK X E l cc own Ts rm nL) {x y : Int32} (hd : decode cc pc = .ok (.ishr, 1)) (k : zV X E S kc ks μ (pc + 1) lv (.int (x >>> (y &&& 31)) :: st)) : zV X E S kc ks μ pc lv (.int y :: .int x :: st) := fun H locs ls hP hD hS hl => lv_ishr h.1 h.2.1 hd (k H locs ls hP hD hS hl)
theorem z_iushr (h : zOK X E l cc own Ts rm nL) {x y v : Int32} (hd : decode cc pc = .ok (.iushr, 1)) (hv : (x.toUInt32 >>> (y.toUInt32 &&& Int32.toUInt32 31)).toInt32 = v) (k : zV X E S kc ks μ (pc + 1) lv (.int v :: st)) : zV X E S kc ks μ pc lv (.int y :: .int x :: st) := fun H locs ls hP hD hS hl => lv_iushr h.1 h.2.1 hd hv (k H locs ls hP hD hS hl)
theorem z_ineg (h : zOK X E l cc own Ts rm nL) {x : Int32} (hd : decode cc pc = .ok (.ineg, 1)) (k : zV X E S kc ks μ (pc + 1) lv (.int (-x) :: st)) : zV X E S kc ks μ pc lv (.int x :: st) := fun H locs ls hP hD hS hl => lv_ineg h.1 h.2.1 hd (k H locs ls hP hD hS hl)
theorem z_ladd (h : zOK X E l cc own Ts rm nL) {x y : Int64} (hd : decode cc pc = .ok (.ladd, 1)) (k : zV X E S kc ks μ (pc + 1) lv (.long (x + y) :: st)) : zV X E S kc ks μ pc lv (.long y :: .long x :: st) := fun H locs ls hP hD hS hl => lv_ladd h.1 h.2.1 hd (k H locs ls hP hD hS hl)
theorem z_lsub (h : zOK X E l cc own Ts rm nL) {x y : Int64} (hd : decode cc pc = .ok (.lsub, 1)) (k : zV X E S kc ks μ (pc + 1) lv (.long (x - y) :: st)) : zV X E S kc ks μ pc lv (.long y :: .long x :: st) := fun H locs ls hP hD hS hl => lv_lsub h.1 h.2.1 hd (k H locs ls hP hD hS hl)
theorem z_lmul (h : zOK X E l cc own Ts rm nL) {x y : Int64} (hd : decode cc pc = .ok (.lmul, 1)) (k : zV X E S kc ks μ (pc + 1) lv (.long (x * y) :: st)) : zV X E S kc ks μ pc lv (.long y :: .long x :: st) := fun H locs ls hP hD hS hl => lv_lmul h.1 h.2.1 hd (k H locs ls hP hD hS hl)
theorem z_ldiv (h : zOK X E l cc own Ts rm nL) {x y : Int64} (hd : decode cc pc = .ok (.ldiv, 1)) (hne : ¬ y = 0) (k : zV X E S kc ks μ (pc + 1) lv (.long (x / y) :: st)) : zV X E S kc ks μ pc lv (.long y :: .long x :: st) := fun H locs ls hP hD hS hl => lv_ldiv h.1 h.2.1 hd hne (k H locs ls hP hD hS hl)
theorem z_lrem (h : zOK X E l cc own Ts rm nL) {x y : Int64} (hd : decode cc pc = .ok (.lrem, 1)) (hne : ¬ y = 0) (k : zV X E S kc ks μ (pc + 1) lv (.long (x - x / y * y) :: st)) : zV X E S kc ks μ pc lv (.long y :: .long x :: st) := fun H locs ls hP hD hS hl => lv_lrem h.1 h.2.1 hd hne (k H locs ls hP hD hS hl)
theorem z_lneg (h : zOK X E l cc own Ts rm nL) {x : Int64} (hd : decode cc pc = .ok (.lneg, 1)) (k : zV X E S kc ks μ (pc + 1) lv (.long (-x) :: st)) : zV X E S kc ks μ pc lv (.long x :: st) := fun H locs ls hP hD hS hl => lv_lneg h.1 h.2.1 hd (k H locs ls hP hD hS hl)
theorem z_i2l (h : zOK X E l cc own Ts rm nL) {x : Int32} {v : Int64} (hd : decode cc pc = .ok (.i2l, 1)) (hv : x.toInt64 = v) (k : zV X E S kc ks μ (pc + 1) lv (.long v :: st)) : zV X E S kc ks μ pc lv (.int x :: st) := fun H locs ls hP hD hS hl => lv_i2l h.1 h.2.1 hd hv (k H locs ls hP hD hS hl)
theorem z_i2b (h : zOK X E l cc own Ts rm nL) {x : Int32} {v : Int32} (hd : decode cc pc = .ok (.i2b, 1)) (hv : x.toInt8.toInt32 = v) (k : zV X E S kc ks μ (pc + 1) lv (.int v :: st)) : zV X E S kc ks μ pc lv (.int x :: st) := fun H locs ls hP hD hS hl => lv_i2b h.1 h.2.1 hd hv (k H locs ls hP hD hS hl)
theorem z_i2c (h : zOK X E l cc own Ts rm nL) {x : Int32} {v : Int32} (hd : decode cc pc = .ok (.i2c, 1)) (hv : (x.toUInt32 % 65536).toInt32 = v) (k : zV X E S kc ks μ (pc + 1) lv (.int v :: st)) : zV X E S kc ks μ pc lv (.int x :: st) := fun H locs ls hP hD hS hl => lv_i2c h.1 h.2.1 hd hv (k H locs ls hP hD hS hl)
theorem z_dup (h : zOK X E l cc own Ts rm nL) {va : Value} (hd : decode cc pc = .ok (.dup, 1)) (hva : va.category = 1) (k : zV X E S kc ks μ (pc + 1) lv (va :: va :: st)) : zV X E S kc ks μ pc lv (va :: st) := fun H locs ls hP hD hS hl => lv_dup h.1 h.2.1 hd hva (k H locs ls hP hD hS hl)
theorem z_pop (h : zOK X E l cc own Ts rm nL) {va : Value} (hd : decode cc pc = .ok (.pop, 1)) (hva : va.category = 1) (k : zV X E S kc ks μ (pc + 1) lv (st)) : zV X E S kc ks μ pc lv (va :: st) := fun H locs ls hP hD hS hl => lv_pop h.1 h.2.1 hd hva (k H locs ls hP hD hS hl)
theorem z_dup2 (h : zOK X E l cc own Ts rm nL) {va vb : Value} (hd : decode cc pc = .ok (.dup2, 1)) (hva : va.category = 1) (hvb : vb.category = 1) (k : zV X E S kc ks μ (pc + 1) lv (va :: vb :: va :: vb :: st)) : zV X E S kc ks μ pc lv (va :: vb :: st) := fun H locs ls hP hD hS hl => lv_dup2_11 h.1 h.2.1 hd hva hvb (k H locs ls hP hD hS hl)
theorem z_lcmp (h : zOK X E l cc own Ts rm nL) {x y : Int64} (hd : decode cc pc = .ok (.lcmp, 1)) (k : zV X E S kc ks μ (pc + 1) lv (.int (lg_cmp x y) :: st)) : zV X E S kc ks μ pc lv (.long y :: .long x :: st) := fun H locs ls hP hD hS hl => W.lcmp h.1 h.2.1 hd (k H locs ls hP hD hS hl)
theorem z_ldc2 (h : zOK X E l cc own Ts rm nL) {index : Nat} {v : Int64} (hw : Cond.constantLong own index v ∈ Ts) (hd : decode cc pc = .ok (.ldc2_w index, 3)) (k : zV X E S kc ks μ (pc + 3) lv (.long v :: st)) : zV X E S kc ks μ pc lv (st) := fun H locs ls hP hD hS hl => lv_ldc2 h.1 h.2.1 h.2.2.2.1 (h.2.2.2.2.1 _ hw) hd (k H locs ls hP hD hS hl)
theorem z_ldcI (h : zOK X E l cc own Ts rm nL) {index : Nat} {v : Int32} (hw : Cond.constant own index v ∈ Ts) (hd : decode cc pc = .ok (.ldc index, 2)) (k : zV X E S kc ks μ (pc + 2) lv (.int v :: st)) : zV X E S kc ks μ pc lv (st) := fun H locs ls hP hD hS hl => lv_ldc h.1 h.2.1 h.2.2.2.1 (h.2.2.2.2.1 _ hw) hd (k H locs ls hP hD hS hl)
theorem z_ldcS (h : zOK X E l cc own Ts rm nL) {index : Nat} (i : Nat) (hi : i < zlN) (ho : zlO i = own) (hk : zlK i = index) (hd : decode cc pc = .ok (.ldc index, 2)) (k : zV X E S kc ks μ (pc + 2) lv (.ref (E.2.2.1 i) :: st)) : zV X E S kc ks μ pc lv (st) := fun H locs ls hP hD hS hl => va_ldcS h.1 h.2.1 h.2.2.2.1 (tx := zlT i) (by have := h.2.2.2.2.2.2.2.1.2.1 i hi; rw [ho, hk] at this; exact this) hd (k H locs ls hP hD hS hl)
theorem z_icmp_eq (h : zOK X E l cc own Ts rm nL) {x y : Int32} {off : Int} (tgt : Nat) (hd : decode cc pc = .ok (.if_icmp .eq off, 3)) (ht : (pc : Int) + off = (tgt : Int)) (kt : x = y → zV X E S kc ks μ tgt lv st) (kf : ¬ x = y → zV X E S kc ks μ (pc + 3) lv st) : zV X E S kc ks μ pc lv (.int y :: .int x :: st) := fun H locs ls hP hD hS hl => lv_icmp_eq h.1 h.2.1 hd ht (fun q => kt q H locs ls hP hD hS hl) (fun q => kf q H locs ls hP hD hS hl)
theorem z_if_eq (h : zOK X E l cc own Ts rm nL) {x : Int32} {off : Int} (tgt : Nat) (hd : decode cc pc = .ok (.ifCond .eq off, 3)) (ht : (pc : Int) + off = (tgt : Int)) (kt : x = 0 → zV X E S kc ks μ tgt lv st) (kf : ¬ x = 0 → zV X E S kc ks μ (pc + 3) lv st) : zV X E S kc ks μ pc lv (.int x :: st) := fun H locs ls hP hD hS hl => lv_if_eq h.1 h.2.1 hd ht (fun q => kt q H locs ls hP hD hS hl) (fun q => kf q H locs ls hP hD hS hl)
theorem z_icmp_ne (h : zOK X E l cc own Ts rm nL) {x y : Int32} {off : Int} (tgt : Nat) (hd : decode cc pc = .ok (.if_icmp .ne off, 3)) (ht : (pc : Int) + off = (tgt : Int)) (kt : ¬ x = y → zV X E S kc ks μ tgt lv st) (kf : x = y → zV X E S kc ks μ (pc + 3) lv st) : zV X E S kc ks μ pc lv (.int y :: .int x :: st) := fun H locs ls hP hD hS hl => lv_icmp_ne h.1 h.2.1 hd ht (fun q => kt q H locs ls hP hD hS hl) (fun q => kf q H locs ls hP hD hS hl)
theorem z_if_ne (h : zOK X E l cc own Ts rm nL) {x : Int32} {off : Int} (tgt : Nat) (hd : decode cc pc = .ok (.ifCond .ne off, 3)) (ht : (pc : Int) + off = (tgt : Int)) (kt : ¬ x = 0 → zV X E S kc ks μ tgt lv st) (kf : x = 0 → zV X E S kc ks μ (pc + 3) lv st) : zV X E S kc ks μ pc lv (.int x :: st) := fun H locs ls hP hD hS hl => lv_if_ne h.1 h.2.1 hd ht (fun q => kt q H locs ls hP hD hS hl) (fun q => kf q H locs ls hP hD hS hl)
theorem z_icmp_lt (h : zOK X E l cc own Ts rm nL) {x y : Int32} {off : Int} (tgt : Nat) (hd : decode cc pc = .ok (.if_icmp .lt off, 3)) (ht : (pc : Int) + off = (tgt : Int)) (kt : x < y → zV X E S kc ks μ tgt lv st) (kf : ¬ x < y → zV X E S kc ks μ (pc + 3) lv st) : zV X E S kc ks μ pc lv (.int y :: .int x :: st) := fun H locs ls hP hD hS hl => lv_icmp_lt h.1 h.2.1 hd ht (fun q => kt q H locs ls hP hD hS hl) (fun q => kf q H locs ls hP hD hS hl)
theorem z_if_lt (h : zOK X E l cc own Ts rm nL) {x : Int32} {off : Int} (tgt : Nat) (hd : decode cc pc = .ok (.ifCond .lt off, 3)) (ht : (pc : Int) + off = (tgt : Int)) (kt : x < 0 → zV X E S kc ks μ tgt lv st) (kf : ¬ x < 0 → zV X E S kc ks μ (pc + 3) lv st) : zV X E S kc ks μ pc lv (.int x :: st) := fun H locs ls hP hD hS hl => lv_if_lt h.1 h.2.1 hd ht (fun q => kt q H locs ls hP hD hS hl) (fun q => kf q H locs ls hP hD hS hl)
theorem z_icmp_ge (h : zOK X E l cc own Ts rm nL) {x y : Int32} {off : Int} (tgt : Nat) (hd : decode cc pc = .ok (.if_icmp .ge off, 3)) (ht : (pc : Int) + off = (tgt : Int)) (kt : y ≤ x → zV X E S kc ks μ tgt lv st) (kf : ¬ y ≤ x → zV X E S kc ks μ (pc + 3) lv st) : zV X E S kc ks μ pc lv (.int y :: .int x :: st) := fun H locs ls hP hD hS hl => lv_icmp_ge h.1 h.2.1 hd ht (fun q => kt q H locs ls hP hD hS hl) (fun q => kf q H locs ls hP hD hS hl)
theorem z_if_ge (h : zOK X E l cc own Ts rm nL) {x : Int32} {off : Int} (tgt : Nat) (hd : decode cc pc = .ok (.ifCond .ge off, 3)) (ht : (pc : Int) + off = (tgt : Int)) (kt : 0 ≤ x → zV X E S kc ks μ tgt lv st) (kf : ¬ 0 ≤ x → zV X E S kc ks μ (pc + 3) lv st) : zV X E S kc ks μ pc lv (.int x :: st) := fun H locs ls hP hD hS hl => lv_if_ge h.1 h.2.1 hd ht (fun q => kt q H locs ls hP hD hS hl) (fun q => kf q H locs ls hP hD hS hl)
theorem z_icmp_gt (h : zOK X E l cc own Ts rm nL) {x y : Int32} {off : Int} (tgt : Nat) (hd : decode cc pc = .ok (.if_icmp .gt off, 3)) (ht : (pc : Int) + off = (tgt : Int)) (kt : y < x → zV X E S kc ks μ tgt lv st) (kf : ¬ y < x → zV X E S kc ks μ (pc + 3) lv st) : zV X E S kc ks μ pc lv (.int y :: .int x :: st) := fun H locs ls hP hD hS hl => lv_icmp_gt h.1 h.2.1 hd ht (fun q => kt q H locs ls hP hD hS hl) (fun q => kf q H locs ls hP hD hS hl)
theorem z_if_gt (h : zOK X E l cc own Ts rm nL) {x : Int32} {off : Int} (tgt : Nat) (hd : decode cc pc = .ok (.ifCond .gt off, 3)) (ht : (pc : Int) + off = (tgt : Int)) (kt : 0 < x → zV X E S kc ks μ tgt lv st) (kf : ¬ 0 < x → zV X E S kc ks μ (pc + 3) lv st) : zV X E S kc ks μ pc lv (.int x :: st) := fun H locs ls hP hD hS hl => lv_if_gt h.1 h.2.1 hd ht (fun q => kt q H locs ls hP hD hS hl) (fun q => kf q H locs ls hP hD hS hl)
theorem z_icmp_le (h : zOK X E l cc own Ts rm nL) {x y : Int32} {off : Int} (tgt : Nat) (hd : decode cc pc = .ok (.if_icmp .le off, 3)) (ht : (pc : Int) + off = (tgt : Int)) (kt : x ≤ y → zV X E S kc ks μ tgt lv st) (kf : ¬ x ≤ y → zV X E S kc ks μ (pc + 3) lv st) : zV X E S kc ks μ pc lv (.int y :: .int x :: st) := fun H locs ls hP hD hS hl => lv_icmp_le h.1 h.2.1 hd ht (fun q => kt q H locs ls hP hD hS hl) (fun q => kf q H locs ls hP hD hS hl)
theorem z_if_le (h : zOK X E l cc own Ts rm nL) {x : Int32} {off : Int} (tgt : Nat) (hd : decode cc pc = .ok (.ifCond .le off, 3)) (ht : (pc : Int) + off = (tgt : Int)) (kt : x ≤ 0 → zV X E S kc ks μ tgt lv st) (kf : ¬ x ≤ 0 → zV X E S kc ks μ (pc + 3) lv st) : zV X E S kc ks μ pc lv (.int x :: st) := fun H locs ls hP hD hS hl => lv_if_le h.1 h.2.1 hd ht (fun q => kt q H locs ls hP hD hS hl) (fun q => kf q H locs ls hP hD hS hl)
theorem z_goto (h : zOK X E l cc own Ts rm nL) {off : Int} (tgt : Nat) (hd : decode cc pc = .ok (.goto off, 3)) (ht : (pc : Int) + off = (tgt : Int)) (k : zV X E S kc ks μ tgt lv st) : zV X E S kc ks μ pc lv st := fun H locs ls hP hD hS hl => lv_goto h.1 h.2.1 hd ht (k H locs ls hP hD hS hl)
end ZV
def zty : Nat → Nat → FieldType
  | 0 => tyX0
  | 1 => tyX1
  | 2 => tyX2
  | 3 => tyX3
  | 4 => tyX4
  | 5 => tyX5
  | 6 => tyX6
  | _ => tyX7
theorem zcls {ci : Nat} {C : String} {T : u_T} {N : Nat} (hc : vwCl[ci]? = some (C, T, N)) : (∀ k, k < N → parseFieldDescriptor (T k).2.2.1 = some (zty ci k)) ∧ (∀ a, a < N → ∀ b, b < N → a ≠ b → (T a).2.1 ≠ (T b).2.1) ∧ ci < 8 := by
  match ci, hc with
  | 0, hc => cases hc; exact ⟨tyX0_ok, nmX0, by decide⟩
  | 1, hc => cases hc; exact ⟨tyX1_ok, nmX1, by decide⟩
  | 2, hc => cases hc; exact ⟨tyX2_ok, nmX2, by decide⟩
  | 3, hc => cases hc; exact ⟨tyX3_ok, nmX3, by decide⟩
  | 4, hc => cases hc; exact ⟨tyX4_ok, nmX4, by decide⟩
  | 5, hc => cases hc; exact ⟨tyX5_ok, nmX5, by decide⟩
  | 6, hc => cases hc; exact ⟨tyX6_ok, nmX6, by decide⟩
  | 7, hc => cases hc; exact ⟨tyX7_ok, nmX7, by decide⟩
  | k + 8, hc => simp [vwCl] at hc
/-- an index that is in its row -/
def zix (i : Int32) (j n : Nat) : Prop := vp_in i n ∧ i.toNatClampNeg = j
theorem zix_nI {j n : Nat} (h : j < n) (hn : n < 2 ^ 31) : zix (nI j) j n := ⟨vp_in_nI h hn, nI_clamp (by omega)⟩
theorem zix_e {i : Int32} {j n : Nat} (e : i = nI j) (h : j < n) (hn : n < 2 ^ 31) : zix i j n := e ▸ zix_nI h hn
section ZF
variable {X : zC} {E : zE} {S : zS} {kc ks : Nat} {μ : zM} {I : Nat → Nat → Int32} {J : Nat → Nat → Int64} {R : Nat → Nat → Option Nat} {pc : Nat} {lv : List (Nat × Value)} {st : List Value} {l : Launch} {cc : ByteArray} {own : String} {Ts : List Cond} {rm : Room} {nL : Nat}
variable {C : String} {T : u_T} {N ci index a k : Nat}
theorem z_getI (h : zOK X E l cc own Ts rm nL) (ho : zO S a ci) (hc : vwCl[ci]? = some (C, T, N)) (hin : ∀ w ∈ u_ws C T N, w ∈ Ts) (k : Nat) (hk : k < N) (ht : (zk ci)[k]? = some 0) (hw : Cond.fieldLink own index (T k).1 (T k).2.1 (T k).2.2.1 ∈ Ts) (hd : decode cc pc = .ok (.getfield index, 3))
    (kk : zV X E S kc ks (I, J, R) (pc + 3) lv (.int (I a k) :: st)) : zV X E S kc ks (I, J, R) pc lv (.ref a :: st) := fun H locs ls hP hD hS hl => by
  obtain ⟨q, hq, hq'⟩ := zW_at (E := E) (μ := (I, J, R)) ho.1 (zc_o ho.2 (zcls hc).2.2)
  exact va_get h.1 h.2.1 h.2.2.2.2.1 hin h.2.2.2.1 h.2.2.2.2.2.1 hP q hq' hc k hk (h.2.2.2.2.1 _ hw) (fun _ h9 => h9) (v := .int (I a k)) (by rw [zf_get _ _ _ _ _ _ ht]; simp [zval]) hd (kk H locs ls hP hD hS hl)
theorem z_getJ (h : zOK X E l cc own Ts rm nL) (ho : zO S a ci) (hc : vwCl[ci]? = some (C, T, N)) (hin : ∀ w ∈ u_ws C T N, w ∈ Ts) (k : Nat) (hk : k < N) (ht : (zk ci)[k]? = some 1) (hw : Cond.fieldLink own index (T k).1 (T k).2.1 (T k).2.2.1 ∈ Ts) (hd : decode cc pc = .ok (.getfield index, 3))
    (kk : zV X E S kc ks (I, J, R) (pc + 3) lv (.long (J a k) :: st)) : zV X E S kc ks (I, J, R) pc lv (.ref a :: st) := fun H locs ls hP hD hS hl => by
  obtain ⟨q, hq, hq'⟩ := zW_at (E := E) (μ := (I, J, R)) ho.1 (zc_o ho.2 (zcls hc).2.2)
  exact va_get h.1 h.2.1 h.2.2.2.2.1 hin h.2.2.2.1 h.2.2.2.2.2.1 hP q hq' hc k hk (h.2.2.2.2.1 _ hw) (fun _ h9 => h9) (v := .long (J a k)) (by rw [zf_get _ _ _ _ _ _ ht]; simp [zval]) hd (kk H locs ls hP hD hS hl)
theorem z_getR (h : zOK X E l cc own Ts rm nL) (ho : zO S a ci) (hc : vwCl[ci]? = some (C, T, N)) (hin : ∀ w ∈ u_ws C T N, w ∈ Ts) (k : Nat) (hk : k < N) (ht : (zk ci)[k]? = some 2) {b : Nat} (hr : R a k = some b) (hw : Cond.fieldLink own index (T k).1 (T k).2.1 (T k).2.2.1 ∈ Ts) (hd : decode cc pc = .ok (.getfield index, 3))
    (kk : zV X E S kc ks (I, J, R) (pc + 3) lv (.ref b :: st)) : zV X E S kc ks (I, J, R) pc lv (.ref a :: st) := fun H locs ls hP hD hS hl => by
  obtain ⟨q, hq, hq'⟩ := zW_at (E := E) (μ := (I, J, R)) ho.1 (zc_o ho.2 (zcls hc).2.2)
  exact va_get h.1 h.2.1 h.2.2.2.2.1 hin h.2.2.2.1 h.2.2.2.2.2.1 hP q hq' hc k hk (h.2.2.2.2.1 _ hw) (fun _ h9 => h9) (v := .ref b) (by rw [zf_get _ _ _ _ _ _ ht]; simp [zval, hr, va_rf]) hd (kk H locs ls hP hD hS hl)
theorem zc_putI {Y : Nat → ClassId} {K N : Nat → Nat} {a ci k : Nat} {v : Int32} (e : K a = ci) (h8 : ci < 8) (ht : (zk ci)[k]? = some 0) : zc Y K N (zu μ.1 a k v, μ.2) a = .inr (ci, (zf μ a (zk ci) 0).set k (.int v)) := by
  rw [zc_o e h8, zf_set μ (zu μ.1 a k v, μ.2) a (.int v) (zk ci) 0 k 0 ht (by simp [zval, zu]) (fun i u hi => by simp [zval, zu, show i ≠ k by omega])]
theorem zc_putJ {Y : Nat → ClassId} {K N : Nat → Nat} {a ci k : Nat} {v : Int64} (e : K a = ci) (h8 : ci < 8) (ht : (zk ci)[k]? = some 1) : zc Y K N (μ.1, zu μ.2.1 a k v, μ.2.2) a = .inr (ci, (zf μ a (zk ci) 0).set k (.long v)) := by
  rw [zc_o e h8, zf_set μ (μ.1, zu μ.2.1 a k v, μ.2.2) a (.long v) (zk ci) 0 k 1 ht (by simp [zval, zu]) (fun i u hi => by simp [zval, zu, show i ≠ k by omega])]
theorem zc_putR {Y : Nat → ClassId} {K N : Nat → Nat} {a ci k : Nat} {v : Option Nat} (e : K a = ci) (h8 : ci < 8) (ht : (zk ci)[k]? = some 2) : zc Y K N (μ.1, μ.2.1, zu μ.2.2 a k v) a = .inr (ci, (zf μ a (zk ci) 0).set k (va_rf v)) := by
  rw [zc_o e h8, zf_set μ (μ.1, μ.2.1, zu μ.2.2 a k v) a (va_rf v) (zk ci) 0 k 2 ht (by simp [zval, zu]) (fun i u hi => by simp [zval, zu, show i ≠ k by omega])]
theorem z_putI (h : zOK X E l cc own Ts rm nL) (ho : zO S a ci) (hc : vwCl[ci]? = some (C, T, N)) (hin : ∀ w ∈ u_ws C T N, w ∈ Ts) (k : Nat) (hk : k < N) (ht : (zk ci)[k]? = some 0) (hfin : (T k).2.2.2 = false) {v : Int32} (hn : narrow (zty ci k) (.int v) = .int v) (hfit : fits (zty ci k) (.int v) = true) (hw : Cond.fieldLink own index (T k).1 (T k).2.1 (T k).2.2.1 ∈ Ts) (hd : decode cc pc = .ok (.putfield index, 3))
    (kk : zV X E S kc ks (zu I a k v, J, R) (pc + 3) lv st) : zV X E S kc ks (I, J, R) pc lv (.int v :: .ref a :: st) := fun H locs ls hP hD hS hl => by
  obtain ⟨h1, h2, h8⟩ := zcls hc
  obtain ⟨q, hq, hq'⟩ := zW_at (E := E) (μ := (I, J, R)) ho.1 (zc_o ho.2 h8)
  refine va_put h.1 h.2.1 h.2.2.2.2.1 hin (zty ci) h1 h2 h.2.2.2.1 h.2.2.2.2.2.1 hP hD hS q hq' hc k hk (h.2.2.2.2.1 _ hw) (fun _ h9 => h9) hfin (h1 k hk) hn hfit (by rw [zf_len]; exact (List.getElem?_eq_some_iff.mp ht).1) hd (fun H1 locs1 hP1 hD1 hS1 => ?_)
  have e := zW_set (ν := (zu I a k v, J, R)) hD ho.1 hq (zc_putI (μ := (I, J, R)) ho.2 h8 ht) (fun b hb => zc_congr (zu_o hb) rfl rfl)
  rw [e] at hP1 hD1
  exact kk H1 locs1 ls hP1 hD1 hS1 hl
theorem z_putJ (h : zOK X E l cc own Ts rm nL) (ho : zO S a ci) (hc : vwCl[ci]? = some (C, T, N)) (hin : ∀ w ∈ u_ws C T N, w ∈ Ts) (k : Nat) (hk : k < N) (ht : (zk ci)[k]? = some 1) (hfin : (T k).2.2.2 = false) {v : Int64} (hn : narrow (zty ci k) (.long v) = .long v) (hfit : fits (zty ci k) (.long v) = true) (hw : Cond.fieldLink own index (T k).1 (T k).2.1 (T k).2.2.1 ∈ Ts) (hd : decode cc pc = .ok (.putfield index, 3))
    (kk : zV X E S kc ks (I, zu J a k v, R) (pc + 3) lv st) : zV X E S kc ks (I, J, R) pc lv (.long v :: .ref a :: st) := fun H locs ls hP hD hS hl => by
  obtain ⟨h1, h2, h8⟩ := zcls hc
  obtain ⟨q, hq, hq'⟩ := zW_at (E := E) (μ := (I, J, R)) ho.1 (zc_o ho.2 h8)
  refine va_put h.1 h.2.1 h.2.2.2.2.1 hin (zty ci) h1 h2 h.2.2.2.1 h.2.2.2.2.2.1 hP hD hS q hq' hc k hk (h.2.2.2.2.1 _ hw) (fun _ h9 => h9) hfin (h1 k hk) hn hfit (by rw [zf_len]; exact (List.getElem?_eq_some_iff.mp ht).1) hd (fun H1 locs1 hP1 hD1 hS1 => ?_)
  have e := zW_set (ν := (I, zu J a k v, R)) hD ho.1 hq (zc_putJ (μ := (I, J, R)) ho.2 h8 ht) (fun b hb => zc_congr rfl (zu_o hb) rfl)
  rw [e] at hP1 hD1
  exact kk H1 locs1 ls hP1 hD1 hS1 hl
theorem z_putR (h : zOK X E l cc own Ts rm nL) (ho : zO S a ci) (hc : vwCl[ci]? = some (C, T, N)) (hin : ∀ w ∈ u_ws C T N, w ∈ Ts) (k : Nat) (hk : k < N) (ht : (zk ci)[k]? = some 2) (hfin : (T k).2.2.2 = false) {b : Nat} (hn : narrow (zty ci k) (.ref b) = .ref b) (hfit : fits (zty ci k) (.ref b) = true) (hw : Cond.fieldLink own index (T k).1 (T k).2.1 (T k).2.2.1 ∈ Ts) (hd : decode cc pc = .ok (.putfield index, 3))
    (kk : zV X E S kc ks (I, J, zu R a k (some b)) (pc + 3) lv st) : zV X E S kc ks (I, J, R) pc lv (.ref b :: .ref a :: st) := fun H locs ls hP hD hS hl => by
  obtain ⟨h1, h2, h8⟩ := zcls hc
  obtain ⟨q, hq, hq'⟩ := zW_at (E := E) (μ := (I, J, R)) ho.1 (zc_o ho.2 h8)
  refine va_put h.1 h.2.1 h.2.2.2.2.1 hin (zty ci) h1 h2 h.2.2.2.1 h.2.2.2.2.2.1 hP hD hS q hq' hc k hk (h.2.2.2.2.1 _ hw) (fun _ h9 => h9) hfin (h1 k hk) hn hfit (by rw [zf_len]; exact (List.getElem?_eq_some_iff.mp ht).1) hd (fun H1 locs1 hP1 hD1 hS1 => ?_)
  have e := zW_set (ν := (I, J, zu R a k (some b))) hD ho.1 hq (zc_putR (μ := (I, J, R)) ho.2 h8 ht) (fun b hb => zc_congr rfl rfl (zu_o hb))
  rw [show va_rf (some b) = Value.ref b from rfl] at e
  rw [e] at hP1 hD1
  exact kk H1 locs1 ls hP1 hD1 hS1 hl
theorem z_iald (h : zOK X E l cc own Ts rm nL) {n j : Nat} {i : Int32} (ha : zA S a 9 n) (hi : zix i j n) (hd : decode cc pc = .ok (.iaload, 1)) (kk : zV X E S kc ks (I, J, R) (pc + 1) lv (.int (I a j) :: st)) : zV X E S kc ks (I, J, R) pc lv (.int i :: .ref a :: st) := fun H locs ls hP hD hS hl => by
  obtain ⟨q, hq, hq'⟩ := zW_at (E := E) (μ := (I, J, R)) ha.1 (zc_i ha.2.1 ha.2.2 (by decide) (by decide) (by decide))
  refine va_iald h.1 h.2.1 h.2.2.2.2.2.1 hP q 1 hq' rfl hi.1 hd ?_
  rw [hi.2]
  exact kk H locs ls hP hD hS hl
theorem z_bald (h : zOK X E l cc own Ts rm nL) {n j : Nat} {i : Int32} (ha : zA S a 8 n) (hi : zix i j n) (hd : decode cc pc = .ok (.baload, 1)) (kk : zV X E S kc ks (I, J, R) (pc + 1) lv (.int (I a j) :: st)) : zV X E S kc ks (I, J, R) pc lv (.int i :: .ref a :: st) := fun H locs ls hP hD hS hl => by
  obtain ⟨q, hq, hq'⟩ := zW_at (E := E) (μ := (I, J, R)) ha.1 (zc_i ha.2.1 ha.2.2 (by decide) (by decide) (by decide))
  refine va_bald h.1 h.2.1 h.2.2.2.2.2.1 hP q 0 hq' rfl hi.1 hd ?_
  rw [hi.2]
  exact kk H locs ls hP hD hS hl
theorem z_zald (h : zOK X E l cc own Ts rm nL) {n j : Nat} {i : Int32} (ha : zA S a 11 n) (hi : zix i j n) (hd : decode cc pc = .ok (.baload, 1)) (kk : zV X E S kc ks (I, J, R) (pc + 1) lv (.int (I a j) :: st)) : zV X E S kc ks (I, J, R) pc lv (.int i :: .ref a :: st) := fun H locs ls hP hD hS hl => by
  obtain ⟨q, hq, hq'⟩ := zW_at (E := E) (μ := (I, J, R)) ha.1 (zc_i ha.2.1 ha.2.2 (by decide) (by decide) (by decide))
  refine va_zald h.1 h.2.1 h.2.2.2.2.2.1 hP q 3 hq' rfl hi.1 hd ?_
  rw [hi.2]
  exact kk H locs ls hP hD hS hl
theorem z_lald (h : zOK X E l cc own Ts rm nL) {n j : Nat} {i : Int32} (ha : zA S a 10 n) (hi : zix i j n) (hd : decode cc pc = .ok (.laload, 1)) (kk : zV X E S kc ks (I, J, R) (pc + 1) lv (.long (J a j) :: st)) : zV X E S kc ks (I, J, R) pc lv (.int i :: .ref a :: st) := fun H locs ls hP hD hS hl => by
  obtain ⟨q, hq, hq'⟩ := zW_at (E := E) (μ := (I, J, R)) ha.1 (zc_j ha.2.1 ha.2.2)
  refine va_lald h.1 h.2.1 h.2.2.2.2.2.1 hP q 2 hq' rfl hi.1 hd ?_
  rw [hi.2]
  exact kk H locs ls hP hD hS hl
theorem z_aaldL (h : zOK X E l cc own Ts rm nL) {n j b : Nat} {i : Int32} (ha : zA S a 12 n) (hi : zix i j n) (hr : R a j = some b) (hd : decode cc pc = .ok (.aaload, 1)) (kk : zV X E S kc ks (I, J, R) (pc + 1) lv (.ref b :: st)) : zV X E S kc ks (I, J, R) pc lv (.int i :: .ref a :: st) := fun H locs ls hP hD hS hl => by
  obtain ⟨q, hq, hq'⟩ := zW_at (E := E) (μ := (I, J, R)) ha.1 (zc_r ha.2.1 ha.2.2 (by decide))
  refine va_aldq h.1 h.2.1 h.2.2.2.2.2.1 hP q 4 hq' rfl hi.1 hd ?_
  rw [hi.2, show (I, J, R).2.2 a j = some b from hr]
  exact kk H locs ls hP hD hS hl
theorem va_aldA {p : Program} {l : Launch} {e : Env} {R : Room} {s : State} {m : MethodId} {args : Array Value} {below : List Frame} {meth : Method} {c : Code} {H : Heap} {locs : List Loc} {cells slots : Nat} {Q : State → Prop} {cc : ByteArray} {pc : Nat} {ls : Array Slot} {rest : List Value} {D : va_G} {cl : List vw_C} {a : Nat} {tys : List (ClassId × FieldType)} {ws : va_W} (hexec : p.tables.exec = Jvm.exec) (hb : c.code = cc) (hK : va_K D cl tys s) (hP : va_P D cl ws H) (q0 t0 : Nat) {cA : ClassId} {t : FieldType} {n : Nat} {f : Nat → Option Nat} (ha : ws[q0]? = some (a, .inl (cA, n, .inr (.inr (.inr (.inr f)))))) (ht : tys[t0]? = some (cA, .array t)) {i : Int32} (hin : vp_in i n) (hdg : decode cc pc = .ok (.aaload, 1))
    (kk : W p l e R s m args below meth c H locs cells slots Q (F0 m (pc + 1) ls (va_rf (f i.toNatClampNeg) :: rest))) : W p l e R s m args below meth c H locs cells slots Q (F0 m pc ls (.int i :: .ref a :: rest)) := by
  have hlt : i.toNatClampNeg < n := Nat.not_le.mp fun q => hin (Or.inr q)
  exact W.aald (v := va_rf (f i.toNatClampNeg)) (ty := .array t) hexec hb (hP q0 _ ha) ((hK.2 t0 _ ht).1 n (fun j => va_rf (f j))) rfl (fun q => by cases q) (by show ¬ (i < 0 ∨ (arrV _ _ _).slots.size ≤ _); rw [arrV_size]; exact hin) (by show (arrV _ _ _).slots[_]? = _; rw [arrV_read _ _ hlt]) rfl rfl hdg kk
theorem z_aaldI (h : zOK X E l cc own Ts rm nL) {n j b : Nat} {i : Int32} (ha : zA S a 13 n) (hi : zix i j n) (hr : R a j = some b) (hd : decode cc pc = .ok (.aaload, 1)) (kk : zV X E S kc ks (I, J, R) (pc + 1) lv (.ref b :: st)) : zV X E S kc ks (I, J, R) pc lv (.int i :: .ref a :: st) := fun H locs ls hP hD hS hl => by
  obtain ⟨q, hq, hq'⟩ := zW_at (E := E) (μ := (I, J, R)) ha.1 (zc_r ha.2.1 ha.2.2 (by decide))
  refine va_aldA h.1 h.2.1 h.2.2.2.2.2.1 hP q 5 hq' rfl hi.1 hd ?_
  rw [hi.2, show (I, J, R).2.2 a j = some b from hr]
  exact kk H locs ls hP hD hS hl
theorem z_aaldJ (h : zOK X E l cc own Ts rm nL) {n j b : Nat} {i : Int32} (ha : zA S a 14 n) (hi : zix i j n) (hr : R a j = some b) (hd : decode cc pc = .ok (.aaload, 1)) (kk : zV X E S kc ks (I, J, R) (pc + 1) lv (.ref b :: st)) : zV X E S kc ks (I, J, R) pc lv (.int i :: .ref a :: st) := fun H locs ls hP hD hS hl => by
  obtain ⟨q, hq, hq'⟩ := zW_at (E := E) (μ := (I, J, R)) ha.1 (zc_r ha.2.1 ha.2.2 (by decide))
  refine va_aldA h.1 h.2.1 h.2.2.2.2.2.1 hP q 6 hq' rfl hi.1 hd ?_
  rw [hi.2, show (I, J, R).2.2 a j = some b from hr]
  exact kk H locs ls hP hD hS hl
theorem zu_upd {f : Nat → Nat → Int32} {a j : Nat} {v : Int32} : zu f a j v a = upd (f a) j v := funext fun q => by by_cases e : q = j <;> simp [zu, upd, e]
theorem zu_updL {f : Nat → Nat → Int64} {a j : Nat} {v : Int64} : zu f a j v a = vp_updL (f a) j v := funext fun q => by by_cases e : q = j <;> simp [zu, vp_updL, e]
theorem z_iast (h : zOK X E l cc own Ts rm nL) {n j : Nat} {i x : Int32} (ha : zA S a 9 n) (hi : zix i j n) (hd : decode cc pc = .ok (.iastore, 1)) (kk : zV X E S kc ks (zu I a j x, J, R) (pc + 1) lv st) : zV X E S kc ks (I, J, R) pc lv (.int x :: .int i :: .ref a :: st) := fun H locs ls hP hD hS hl => by
  obtain ⟨q, hq, hq'⟩ := zW_at (E := E) (μ := (I, J, R)) ha.1 (zc_i ha.2.1 ha.2.2 (by decide) (by decide) (by decide))
  refine va_iast h.1 h.2.1 h.2.2.2.2.2.1 hP hD hS q 1 hq' rfl hi.1 hd (fun H1 locs1 hP1 hD1 hS1 => ?_)
  have e := zW_set (ν := (zu I a j x, J, R)) hD ha.1 hq (zc_i ha.2.1 ha.2.2 (by decide) (by decide) (by decide)) (fun b hb => zc_congr (zu_o hb) rfl rfl)
  rw [show (zu I a j x, J, R).1 a = upd (I a) j x from zu_upd] at e
  rw [hi.2] at hP1 hD1
  rw [e] at hP1 hD1
  exact kk H1 locs1 ls hP1 hD1 hS1 hl
theorem z_bast (h : zOK X E l cc own Ts rm nL) {n j : Nat} {i x : Int32} (ha : zA S a 8 n) (hi : zix i j n) (hd : decode cc pc = .ok (.bastore, 1)) (kk : zV X E S kc ks (zu I a j (vp_nar .byte x), J, R) (pc + 1) lv st) : zV X E S kc ks (I, J, R) pc lv (.int x :: .int i :: .ref a :: st) := fun H locs ls hP hD hS hl => by
  obtain ⟨q, hq, hq'⟩ := zW_at (E := E) (μ := (I, J, R)) ha.1 (zc_i ha.2.1 ha.2.2 (by decide) (by decide) (by decide))
  refine va_bast h.1 h.2.1 h.2.2.2.2.2.1 hP hD hS q 0 hq' rfl hi.1 hd (fun H1 locs1 hP1 hD1 hS1 => ?_)
  have e := zW_set (ν := (zu I a j (vp_nar .byte x), J, R)) hD ha.1 hq (zc_i ha.2.1 ha.2.2 (by decide) (by decide) (by decide)) (fun b hb => zc_congr (zu_o hb) rfl rfl)
  rw [show (zu I a j (vp_nar .byte x), J, R).1 a = upd (I a) j (vp_nar .byte x) from zu_upd] at e
  rw [hi.2] at hP1 hD1
  rw [e] at hP1 hD1
  exact kk H1 locs1 ls hP1 hD1 hS1 hl
theorem z_last (h : zOK X E l cc own Ts rm nL) {n j : Nat} {i : Int32} {x : Int64} (ha : zA S a 10 n) (hi : zix i j n) (hd : decode cc pc = .ok (.lastore, 1)) (kk : zV X E S kc ks (I, zu J a j x, R) (pc + 1) lv st) : zV X E S kc ks (I, J, R) pc lv (.long x :: .int i :: .ref a :: st) := fun H locs ls hP hD hS hl => by
  obtain ⟨q, hq, hq'⟩ := zW_at (E := E) (μ := (I, J, R)) ha.1 (zc_j ha.2.1 ha.2.2)
  refine va_last h.1 h.2.1 h.2.2.2.2.2.1 hP hD hS q 2 hq' rfl hi.1 hd (fun H1 locs1 hP1 hD1 hS1 => ?_)
  have e := zW_set (ν := (I, zu J a j x, R)) hD ha.1 hq (zc_j ha.2.1 ha.2.2) (fun b hb => zc_congr rfl (zu_o hb) rfl)
  rw [show (I, zu J a j x, R).2.1 a = vp_updL (J a) j x from zu_updL] at e
  rw [hi.2] at hP1 hD1
  rw [e] at hP1 hD1
  exact kk H1 locs1 ls hP1 hD1 hS1 hl
end ZF
/-! CONTRACTS: at memory μ, with these arguments, the method answers r and leaves the memory ν; it makes nothing. -/
def zP (E : zE) (S : zS) (μ : zM) (sz : Nat) (U : State) : Prop := U.heap.size = sz ∧ va_P E.1 vwCl (zW E S μ) U.heap ∧ va_K E.1 vwCl (zT E) U ∧ va_D (fun _ => True) (zW E S μ) ∧ zX E (va_A (zW E S μ) sz) U
def zB (E : zE) (S : zS) (A : Nat → Prop) (u : zM) (t : State) : Prop := va_P E.1 vwCl (zW E S u) t.heap ∧ va_K E.1 vwCl (zT E) t ∧ va_D A (zW E S u)
def zI (l : Launch) (y : MethodName) (ws : List Cond) (rm : Room) (E : zE) (S : zS) (av : List Value) (μ : zM) (r : Int32) (ν : zM) : Prop :=
  ∀ sz, Met l y ws rm (va_Pc av (zP E S μ sz)) (va_Qi (fun r' u => r' = r ∧ u = ν) (zB E S (va_A (zW E S μ) sz)) (va_A (zW E S μ) sz)) 0 0 (va_A (zW E S μ) sz)
def zL (l : Launch) (y : MethodName) (ws : List Cond) (rm : Room) (E : zE) (S : zS) (av : List Value) (μ : zM) (r : Int64) (ν : zM) : Prop :=
  ∀ sz, Met l y ws rm (va_Pc av (zP E S μ sz)) (va_Ql (fun r' u => r' = r ∧ u = ν) (zB E S (va_A (zW E S μ) sz)) (va_A (zW E S μ) sz)) 0 0 (va_A (zW E S μ) sz)
def zN (l : Launch) (y : MethodName) (ws : List Cond) (rm : Room) (E : zE) (S : zS) (av : List Value) (μ ν : zM) : Prop :=
  ∀ sz, Met l y ws rm (va_Pc av (zP E S μ sz)) (va_Qv (fun u => u = ν) (zB E S (va_A (zW E S μ) sz)) (va_A (zW E S μ) sz)) 0 0 (va_A (zW E S μ) sz)
theorem zX_moved {E : zE} {A : Nat → Prop} {u U : State} (hv : U.vm = u.vm) (hh : U.heap = u.heap) (h : zX E A u) : zX E A U := by
  have q : u.vm.Alike U.vm := by rw [hv]; exact Vm.Alike.refl u.vm
  refine ⟨fun i hi => ?_, fun i hi => vk_R.same hv (h.2.1 i hi), ?_⟩
  · rw [hh]
    exact zs1_moved q (h.1 i hi)
  · rw [hh]
    exact ⟨va_Z.moved q h.2.2.1, va_Z.moved q h.2.2.2⟩
theorem zX_warm {E : zE} {A B : Nat → Prop} {s U : State} {H : Heap} {locs : List Loc} (hW : s.WarmedH U.vm) (hU : U.heap = H) (hS : va_S A s.heap H locs) (hAB : ∀ q, B q → A q) (h : zX E A s) : zX E B U := by
  refine ⟨fun i hi => ?_, fun i hi => vk_R.warm hW (h.2.1 i hi), ?_⟩
  · rw [hU]
    exact zs1_narrow hAB (zs1_kept hS.2.1 (zs1_moved hW.alike (h.1 i hi)))
  · rw [hU]
    exact ⟨va_Z.narrow (va_Z.kept (va_Z.moved hW.alike h.2.2.1) hS.2.1) hAB, va_Z.narrow (va_Z.kept (va_Z.moved hW.alike h.2.2.2) hS.2.1) hAB⟩
section ZC
variable {l : Launch} {y : MethodName} {ws ws' : List Cond} {rm : Room} {E : zE} {S : zS} {av : List Value} {μ ν : zM} {cc : ByteArray} {maxL : Nat}
theorem zA_sub {A : Nat → Prop} {s : State} {H : Heap} {locs : List Loc} (hD : va_D A (zW E S μ)) (hS : va_S A s.heap H locs) (hA : ∀ q, s.heap.size ≤ q → A q) : ∀ q, va_A (zW E S μ) H.size q → A q := by
  intro q hq
  rcases hq with ⟨k, e, hk⟩ | hq
  · exact hD.2 k _ hk
  · exact hA q (Nat.le_trans hS.1 hq)
theorem z_metI {r : Int32} {ty : FieldType} (hy : plainName y.cls = true) (hw : ws = Cond.code y cc maxL (some ty) :: zTbl) (hlen : (lg_sl av).length ≤ maxL)
    (body : ∀ X : zC, zOK X E l cc y.cls zTbl rm maxL → (∀ {pc : Nat} {lv : List (Nat × Value)}, decode cc pc = .ok (.ireturn, 1) → narrow ty (.int r) = .int r → zV X E S 0 0 ν pc lv [.int r]) → zV X E S 0 0 μ 0 (lv_args 0 av) []) : zI l y ws rm E S av μ r ν := by
  intro sz
  refine Met.ofW (cc := cc) (maxL := maxL) (ret := some ty) hy hw ?_
  intro p e s m args below meth c s₁ B hml hv
  obtain ⟨rfl, hsz, hP, hK, hD0, hE⟩ := hv
  subst hsz
  have hD : va_D (va_A (zW E S μ) s.heap.size) (zW E S μ) := hD0.self (sz := s.heap.size)
  have hlocks := B.notSynchronized
  have hb := body (p, l, e, (headSpec ws rm).room, s, m, av.toArray, below, meth, c, MQ below (va_Qi (fun r' u => r' = r ∧ u = ν) (zB E S (va_A (zW E S μ) s.heap.size)) (va_A (zW E S μ) s.heap.size)) av.toArray s 0 0 (va_A (zW E S μ) s.heap.size), va_A (zW E S μ) s.heap.size, maxL)
    ⟨B.exec, B.bytes, hml, findClass_of_methodNamed B.named, fun w hw9 => atoms_spec (ws := ws) B.pre w (by rw [hw]; exact List.mem_cons_of_mem _ hw9), hK, fun q h => Or.inr h, hE, rfl, rfl, rfl⟩
    (fun {pc lv} hd hn H locs ls hP hD hS hl => W.zret (v := r) B.exec B.bytes B.returns hn (fun t ht hW => ⟨⟨r, ν, rfl, ⟨rfl, rfl⟩, by rw [ht]; exact hP, va_K.moved hW.alike hK, hD⟩, hS.F ht⟩) hS.2.2 hd)
  rw [lg_entry_eq]
  exact hb s.heap [] _ hP hD va_S.rf (lv_entry av hlen)
theorem z_metL {r : Int64} (hy : plainName y.cls = true) (hw : ws = Cond.code y cc maxL (some .long) :: zTbl) (hlen : (lg_sl av).length ≤ maxL)
    (body : ∀ X : zC, zOK X E l cc y.cls zTbl rm maxL → (∀ {pc : Nat} {lv : List (Nat × Value)}, decode cc pc = .ok (.lreturn, 1) → zV X E S 0 0 ν pc lv [.long r]) → zV X E S 0 0 μ 0 (lv_args 0 av) []) : zL l y ws rm E S av μ r ν := by
  intro sz
  refine Met.ofW (cc := cc) (maxL := maxL) (ret := some .long) hy hw ?_
  intro p e s m args below meth c s₁ B hml hv
  obtain ⟨rfl, hsz, hP, hK, hD0, hE⟩ := hv
  subst hsz
  have hD : va_D (va_A (zW E S μ) s.heap.size) (zW E S μ) := hD0.self (sz := s.heap.size)
  have hlocks := B.notSynchronized
  have hb := body (p, l, e, (headSpec ws rm).room, s, m, av.toArray, below, meth, c, MQ below (va_Ql (fun r' u => r' = r ∧ u = ν) (zB E S (va_A (zW E S μ) s.heap.size)) (va_A (zW E S μ) s.heap.size)) av.toArray s 0 0 (va_A (zW E S μ) s.heap.size), va_A (zW E S μ) s.heap.size, maxL)
    ⟨B.exec, B.bytes, hml, findClass_of_methodNamed B.named, fun w hw9 => atoms_spec (ws := ws) B.pre w (by rw [hw]; exact List.mem_cons_of_mem _ hw9), hK, fun q h => Or.inr h, hE, rfl, rfl, rfl⟩
    (fun {pc lv} hd H locs ls hP hD hS hl => W.lret (v := r) B.exec B.bytes B.returns (fun t ht hW => ⟨⟨r, ν, rfl, ⟨rfl, rfl⟩, by rw [ht]; exact hP, va_K.moved hW.alike hK, hD⟩, hS.F ht⟩) hS.2.2 hd)
  rw [lg_entry_eq]
  exact hb s.heap [] _ hP hD va_S.rf (lv_entry av hlen)
theorem z_metN (hy : plainName y.cls = true) (hw : ws = Cond.code y cc maxL none :: zTbl) (hlen : (lg_sl av).length ≤ maxL)
    (body : ∀ X : zC, zOK X E l cc y.cls zTbl rm maxL → (∀ {pc : Nat} {lv : List (Nat × Value)}, decode cc pc = .ok (.return_, 1) → zV X E S 0 0 ν pc lv []) → zV X E S 0 0 μ 0 (lv_args 0 av) []) : zN l y ws rm E S av μ ν := by
  intro sz
  refine Met.ofW (cc := cc) (maxL := maxL) (ret := none) hy hw ?_
  intro p e s m args below meth c s₁ B hml hv
  obtain ⟨rfl, hsz, hP, hK, hD0, hE⟩ := hv
  subst hsz
  have hD : va_D (va_A (zW E S μ) s.heap.size) (zW E S μ) := hD0.self (sz := s.heap.size)
  have hlocks := B.notSynchronized
  have hb := body (p, l, e, (headSpec ws rm).room, s, m, av.toArray, below, meth, c, MQ below (va_Qv (fun u => u = ν) (zB E S (va_A (zW E S μ) s.heap.size)) (va_A (zW E S μ) s.heap.size)) av.toArray s 0 0 (va_A (zW E S μ) s.heap.size), va_A (zW E S μ) s.heap.size, maxL)
    ⟨B.exec, B.bytes, hml, findClass_of_methodNamed B.named, fun w hw9 => atoms_spec (ws := ws) B.pre w (by rw [hw]; exact List.mem_cons_of_mem _ hw9), hK, fun q h => Or.inr h, hE, rfl, rfl, rfl⟩
    (fun {pc lv} hd H locs ls hP hD hS hl => W.vret B.exec B.bytes B.returns (fun t ht hW => ⟨⟨ν, rfl, rfl, by rw [ht]; exact hP, va_K.moved hW.alike hK, hD⟩, hS.F ht⟩) hS.2.2 hd)
  rw [lg_entry_eq]
  exact hb s.heap [] _ hP hD va_S.rf (lv_entry av hlen)
theorem zP_blind {sz : Nat} : FrameBlind (va_Pc av (zP E S μ sz)) := fun a U g mk q => by
  obtain ⟨q0, q1, qP, qK, qD, qE⟩ := q
  exact ⟨q0, q1, qP, va_K.moved (u := U) (U := U.calling g mk a) (Vm.Alike.refl U.vm) qK, qD, zX_moved (u := U) rfl rfl qE⟩
end ZC
section ZCALL
variable {X : zC} {E : zE} {S : zS} {kc ks : Nat} {μ ν : zM} {pc : Nat} {lv : List (Nat × Value)} {st st0 : List Value} {l : Launch} {cc : ByteArray} {own : String} {Ts : List Cond} {rm : Room} {nL : Nat}
variable {C : String} {T : u_T} {N ci index b n maxL : Nat} {y : MethodName} {bytes : ByteArray} {ret : Option FieldType} {ws ws' : List Cond} {rc : Room} {As : List Value}
theorem z_pre (h : zOK X E l cc own Ts rm nL) {H : Heap} {locs : List Loc} (hP : va_P E.1 vwCl (zW E S μ) H) (hD : va_D X.2.2.2.2.2.2.2.2.2.2.2.1 (zW E S μ)) (hS : va_S X.2.2.2.2.2.2.2.2.2.2.2.1 X.2.2.2.2.1.heap H locs) (av : List Value) : ∀ U : State, U.heap = H → X.2.2.2.2.1.WarmedH U.vm → va_Pc av (zP E S μ H.size) av.toArray U := fun U hU hW =>
  ⟨rfl, by rw [hU], by rw [hU]; exact hP, va_K.moved hW.alike h.2.2.2.2.2.1, hD.weaken (fun _ _ _ _ => trivial), zX_warm hW hU hS (zA_sub hD hS h.2.2.2.2.2.2.1) h.2.2.2.2.2.2.2.1⟩
theorem z_callVI {r : Int32} (h : zOK X E l cc own Ts rm nL) (hM : zI l y ws rc E S (.ref b :: As) μ r ν) (ho : zO S b ci) (hc : vwCl[ci]? = some (C, T, N)) (hg : GoodIn Ts (wsV own index C y ws)) (hws : ws = Cond.code y bytes maxL ret :: ws') (hrc : rc.cells = 0 ∧ rc.slots = 0) (n : Nat)
    (hd0 : y.cls = C ∧ y.cls ≠ "java/lang/invoke/MethodHandle" ∧ y.cls ≠ "java/lang/invoke/VarHandle" ∧ (parseMethodDescriptor y.desc).map (fun d => d.parameters.length) = some n) (hR : rc.frames + 1 ≤ rm.frames ∧ 8 + (maxL + 11) + rc.locals ≤ rm.locals) (hn : As.length = n) (hst : st0 = As.reverse ++ .ref b :: st) (hcat : (st.map fun v => v.category).sum ≤ 8) (hkc : kc ≤ rm.cells ∧ ks ≤ rm.slots) (hd : decode cc pc = .ok (.invokevirtual index, 3))
    (k : zV X E S kc ks ν (pc + 3) lv (.int r :: st)) : zV X E S kc ks μ pc lv st0 := fun H locs ls hP hD hS hl => by
  subst hst
  obtain ⟨q, hq, hq'⟩ := zW_at (E := E) (μ := μ) ho.1 (zc_o ho.2 (zcls hc).2.2)
  have hF := zA_sub hD hS h.2.2.2.2.2.2.1
  have hl2 : X.2.1 = l := h.2.2.2.2.2.2.2.2.1
  have hR2 : X.2.2.2.1 = rm := h.2.2.2.2.2.2.2.2.2.1
  have hM2 := hM H.size
  rw [← hl2] at hM2
  refine va_calli (va_runV (As := As) (rest := st) ⟨h.1, h.2.1, h.2.2.1, h.2.2.2.1, h.2.2.2.2.1⟩ hM2 (cwV n h.2.2.2.2.1 hg hws hrc.1 hrc.2 hd0 (by rw [hR2]; exact hR)) ⟨zP_blind, va_recv h.2.2.2.2.2.1 hP (q := (C, T, N)) (ci := ci) (q0 := q) hc hq', z_pre h hP hD hS _⟩ rfl hn (hl.1.trans h.2.2.2.2.2.2.2.2.2.2) rfl (lv_room hcat) hd (by rw [hR2]; exact hkc)) hS (fun q _ h => hF q h) hF (fun r2 u t H1 locs1 ht hvm hw hB hz1 hk1 hS1 => ?_)
  obtain ⟨rfl, rfl⟩ := hw
  obtain ⟨hP1, hK1, hD1⟩ := hB
  rw [ht] at hP1
  exact k H1 locs1 ls hP1 (hD1.weaken (fun _ _ _ q => hF _ q)) hS1 hl
theorem z_callVL {r : Int64} (h : zOK X E l cc own Ts rm nL) (hM : zL l y ws rc E S (.ref b :: As) μ r ν) (ho : zO S b ci) (hc : vwCl[ci]? = some (C, T, N)) (hg : GoodIn Ts (wsV own index C y ws)) (hws : ws = Cond.code y bytes maxL ret :: ws') (hrc : rc.cells = 0 ∧ rc.slots = 0) (n : Nat)
    (hd0 : y.cls = C ∧ y.cls ≠ "java/lang/invoke/MethodHandle" ∧ y.cls ≠ "java/lang/invoke/VarHandle" ∧ (parseMethodDescriptor y.desc).map (fun d => d.parameters.length) = some n) (hR : rc.frames + 1 ≤ rm.frames ∧ 8 + (maxL + 11) + rc.locals ≤ rm.locals) (hn : As.length = n) (hst : st0 = As.reverse ++ .ref b :: st) (hcat : (st.map fun v => v.category).sum ≤ 8) (hkc : kc ≤ rm.cells ∧ ks ≤ rm.slots) (hd : decode cc pc = .ok (.invokevirtual index, 3))
    (k : zV X E S kc ks ν (pc + 3) lv (.long r :: st)) : zV X E S kc ks μ pc lv st0 := fun H locs ls hP hD hS hl => by
  subst hst
  obtain ⟨q, hq, hq'⟩ := zW_at (E := E) (μ := μ) ho.1 (zc_o ho.2 (zcls hc).2.2)
  have hF := zA_sub hD hS h.2.2.2.2.2.2.1
  have hl2 : X.2.1 = l := h.2.2.2.2.2.2.2.2.1
  have hR2 : X.2.2.2.1 = rm := h.2.2.2.2.2.2.2.2.2.1
  have hM2 := hM H.size
  rw [← hl2] at hM2
  refine va_calll (va_runV (As := As) (rest := st) ⟨h.1, h.2.1, h.2.2.1, h.2.2.2.1, h.2.2.2.2.1⟩ hM2 (cwV n h.2.2.2.2.1 hg hws hrc.1 hrc.2 hd0 (by rw [hR2]; exact hR)) ⟨zP_blind, va_recv h.2.2.2.2.2.1 hP (q := (C, T, N)) (ci := ci) (q0 := q) hc hq', z_pre h hP hD hS _⟩ rfl hn (hl.1.trans h.2.2.2.2.2.2.2.2.2.2) rfl (lv_room hcat) hd (by rw [hR2]; exact hkc)) hS (fun q _ h => hF q h) hF (fun r2 u t H1 locs1 ht hvm hw hB hz1 hk1 hS1 => ?_)
  obtain ⟨rfl, rfl⟩ := hw
  obtain ⟨hP1, hK1, hD1⟩ := hB
  rw [ht] at hP1
  exact k H1 locs1 ls hP1 (hD1.weaken (fun _ _ _ q => hF _ q)) hS1 hl
theorem z_callVN (h : zOK X E l cc own Ts rm nL) (hM : zN l y ws rc E S (.ref b :: As) μ ν) (ho : zO S b ci) (hc : vwCl[ci]? = some (C, T, N)) (hg : GoodIn Ts (wsV own index C y ws)) (hws : ws = Cond.code y bytes maxL ret :: ws') (hrc : rc.cells = 0 ∧ rc.slots = 0) (n : Nat)
    (hd0 : y.cls = C ∧ y.cls ≠ "java/lang/invoke/MethodHandle" ∧ y.cls ≠ "java/lang/invoke/VarHandle" ∧ (parseMethodDescriptor y.desc).map (fun d => d.parameters.length) = some n) (hR : rc.frames + 1 ≤ rm.frames ∧ 8 + (maxL + 11) + rc.locals ≤ rm.locals) (hn : As.length = n) (hst : st0 = As.reverse ++ .ref b :: st) (hcat : (st.map fun v => v.category).sum ≤ 8) (hkc : kc ≤ rm.cells ∧ ks ≤ rm.slots) (hd : decode cc pc = .ok (.invokevirtual index, 3))
    (k : zV X E S kc ks ν (pc + 3) lv st) : zV X E S kc ks μ pc lv st0 := fun H locs ls hP hD hS hl => by
  subst hst
  obtain ⟨q, hq, hq'⟩ := zW_at (E := E) (μ := μ) ho.1 (zc_o ho.2 (zcls hc).2.2)
  have hF := zA_sub hD hS h.2.2.2.2.2.2.1
  have hl2 : X.2.1 = l := h.2.2.2.2.2.2.2.2.1
  have hR2 : X.2.2.2.1 = rm := h.2.2.2.2.2.2.2.2.2.1
  have hM2 := hM H.size
  rw [← hl2] at hM2
  refine va_callv (va_runV (As := As) (rest := st) ⟨h.1, h.2.1, h.2.2.1, h.2.2.2.1, h.2.2.2.2.1⟩ hM2 (cwV n h.2.2.2.2.1 hg hws hrc.1 hrc.2 hd0 (by rw [hR2]; exact hR)) ⟨zP_blind, va_recv h.2.2.2.2.2.1 hP (q := (C, T, N)) (ci := ci) (q0 := q) hc hq', z_pre h hP hD hS _⟩ rfl hn (hl.1.trans h.2.2.2.2.2.2.2.2.2.2) rfl (lv_room hcat) hd (by rw [hR2]; exact hkc)) hS (fun q _ h => hF q h) hF (fun u t H1 locs1 ht hvm hw hB hz1 hk1 hS1 => ?_)
  subst hw
  obtain ⟨hP1, hK1, hD1⟩ := hB
  rw [ht] at hP1
  exact k H1 locs1 ls hP1 (hD1.weaken (fun _ _ _ q => hF _ q)) hS1 hl
theorem z_callSI {r : Int32} (h : zOK X E l cc own Ts rm nL) (hM : zI l y ws rc E S As μ r ν) (hcw : CallB rm X.2.2.2.2.1 X.2.2.2.2.2.2.1 own index y bytes maxL ret ws rc 0 0 n ∧ (Cond.static y).before X.2.2.2.2.2.2.1 X.2.2.2.2.1 = true) (hn : As.length = n) (hst : st0 = As.reverse ++ st) (hcat : (st.map fun v => v.category).sum ≤ 8) (hkc : kc ≤ rm.cells ∧ ks ≤ rm.slots) (hd : decode cc pc = .ok (.invokestatic index, 3))
    (k : zV X E S kc ks ν (pc + 3) lv (.int r :: st)) : zV X E S kc ks μ pc lv st0 := fun H locs ls hP hD hS hl => by
  subst hst
  have hF := zA_sub hD hS h.2.2.2.2.2.2.1
  have hl2 : X.2.1 = l := h.2.2.2.2.2.2.2.2.1
  have hR2 : X.2.2.2.1 = rm := h.2.2.2.2.2.2.2.2.2.1
  have hM2 := hM H.size
  rw [← hl2] at hM2
  refine va_calli (va_runS (As := As) (rest := st) ⟨h.1, h.2.1, h.2.2.1, h.2.2.2.1, h.2.2.2.2.1⟩ hM2 (by rw [hR2]; exact hcw) ⟨zP_blind, z_pre h hP hD hS _⟩ rfl hn (hl.1.trans h.2.2.2.2.2.2.2.2.2.2) rfl (lv_room hcat) hd (by rw [hR2]; exact hkc)) hS (fun q _ h => hF q h) hF (fun r2 u t H1 locs1 ht hvm hw hB hz1 hk1 hS1 => ?_)
  obtain ⟨rfl, rfl⟩ := hw
  obtain ⟨hP1, hK1, hD1⟩ := hB
  rw [ht] at hP1
  exact k H1 locs1 ls hP1 (hD1.weaken (fun _ _ _ q => hF _ q)) hS1 hl
theorem z_callSL {r : Int64} (h : zOK X E l cc own Ts rm nL) (hM : zL l y ws rc E S As μ r ν) (hcw : CallB rm X.2.2.2.2.1 X.2.2.2.2.2.2.1 own index y bytes maxL ret ws rc 0 0 n ∧ (Cond.static y).before X.2.2.2.2.2.2.1 X.2.2.2.2.1 = true) (hn : As.length = n) (hst : st0 = As.reverse ++ st) (hcat : (st.map fun v => v.category).sum ≤ 8) (hkc : kc ≤ rm.cells ∧ ks ≤ rm.slots) (hd : decode cc pc = .ok (.invokestatic index, 3))
    (k : zV X E S kc ks ν (pc + 3) lv (.long r :: st)) : zV X E S kc ks μ pc lv st0 := fun H locs ls hP hD hS hl => by
  subst hst
  have hF := zA_sub hD hS h.2.2.2.2.2.2.1
  have hl2 : X.2.1 = l := h.2.2.2.2.2.2.2.2.1
  have hR2 : X.2.2.2.1 = rm := h.2.2.2.2.2.2.2.2.2.1
  have hM2 := hM H.size
  rw [← hl2] at hM2
  refine va_calll (va_runS (As := As) (rest := st) ⟨h.1, h.2.1, h.2.2.1, h.2.2.2.1, h.2.2.2.2.1⟩ hM2 (by rw [hR2]; exact hcw) ⟨zP_blind, z_pre h hP hD hS _⟩ rfl hn (hl.1.trans h.2.2.2.2.2.2.2.2.2.2) rfl (lv_room hcat) hd (by rw [hR2]; exact hkc)) hS (fun q _ h => hF q h) hF (fun r2 u t H1 locs1 ht hvm hw hB hz1 hk1 hS1 => ?_)
  obtain ⟨rfl, rfl⟩ := hw
  obtain ⟨hP1, hK1, hD1⟩ := hB
  rw [ht] at hP1
  exact k H1 locs1 ls hP1 (hD1.weaken (fun _ _ _ q => hF _ q)) hS1 hl
theorem z_callSN (h : zOK X E l cc own Ts rm nL) (hM : zN l y ws rc E S As μ ν) (hcw : CallB rm X.2.2.2.2.1 X.2.2.2.2.2.2.1 own index y bytes maxL ret ws rc 0 0 n ∧ (Cond.static y).before X.2.2.2.2.2.2.1 X.2.2.2.2.1 = true) (hn : As.length = n) (hst : st0 = As.reverse ++ st) (hcat : (st.map fun v => v.category).sum ≤ 8) (hkc : kc ≤ rm.cells ∧ ks ≤ rm.slots) (hd : decode cc pc = .ok (.invokestatic index, 3))
    (k : zV X E S kc ks ν (pc + 3) lv st) : zV X E S kc ks μ pc lv st0 := fun H locs ls hP hD hS hl => by
  subst hst
  have hF := zA_sub hD hS h.2.2.2.2.2.2.1
  have hl2 : X.2.1 = l := h.2.2.2.2.2.2.2.2.1
  have hR2 : X.2.2.2.1 = rm := h.2.2.2.2.2.2.2.2.2.1
  have hM2 := hM H.size
  rw [← hl2] at hM2
  refine va_callv (va_runS (As := As) (rest := st) ⟨h.1, h.2.1, h.2.2.1, h.2.2.2.1, h.2.2.2.2.1⟩ hM2 (by rw [hR2]; exact hcw) ⟨zP_blind, z_pre h hP hD hS _⟩ rfl hn (hl.1.trans h.2.2.2.2.2.2.2.2.2.2) rfl (lv_room hcat) hd (by rw [hR2]; exact hkc)) hS (fun q _ h => hF q h) hF (fun u t H1 locs1 ht hvm hw hB hz1 hk1 hS1 => ?_)
  subst hw
  obtain ⟨hP1, hK1, hD1⟩ := hB
  rw [ht] at hP1
  exact k H1 locs1 ls hP1 (hD1.weaken (fun _ _ _ q => hF _ q)) hS1 hl
end ZCALL
section ZSTR
variable {X : zC} {E : zE} {S : zS} {kc ks : Nat} {μ ν : zM} {pc : Nat} {lv : List (Nat × Value)} {st st0 : List Value} {l : Launch} {cc : ByteArray} {own : String} {Ts : List Cond} {rm : Room} {nL : Nat}
variable {index i n maxL : Nat} {y : MethodName} {bytes : ByteArray} {ret : Option FieldType} {ws ws' : List Cond} {rc : Room} {As : List Value}
/-- a call on a text -/
theorem z_callTI {r : Int32} (h : zOK X E l cc own Ts rm nL) (hi : i < zlN) (hM : zI l y ws rc E S (.ref (E.2.2.1 i) :: As) μ r ν) (hg : GoodIn Ts (wsV own index "java/lang/String" y ws)) (hws : ws = Cond.code y bytes maxL ret :: ws') (hrc : rc.cells = 0 ∧ rc.slots = 0) (n : Nat)
    (hd0 : y.cls = "java/lang/String" ∧ y.cls ≠ "java/lang/invoke/MethodHandle" ∧ y.cls ≠ "java/lang/invoke/VarHandle" ∧ (parseMethodDescriptor y.desc).map (fun d => d.parameters.length) = some n) (hR : rc.frames + 1 ≤ rm.frames ∧ 8 + (maxL + 11) + rc.locals ≤ rm.locals) (hn : As.length = n) (hst : st0 = As.reverse ++ .ref (E.2.2.1 i) :: st) (hcat : (st.map fun v => v.category).sum ≤ 8) (hkc : kc ≤ rm.cells ∧ ks ≤ rm.slots) (hd : decode cc pc = .ok (.invokevirtual index, 3))
    (k : zV X E S kc ks ν (pc + 3) lv (.int r :: st)) : zV X E S kc ks μ pc lv st0 := fun H locs ls hP hD hS hl => by
  subst hst
  have hF := zA_sub hD hS h.2.2.2.2.2.2.1
  have hl2 : X.2.1 = l := h.2.2.2.2.2.2.2.2.1
  have hR2 : X.2.2.2.1 = rm := h.2.2.2.2.2.2.2.2.2.1
  have hM2 := hM H.size
  rw [← hl2] at hM2
  have hrecv : ∃ cell : Cell, H[E.2.2.1 i]? = some cell ∧ cell.vm.isStatics = false ∧ X.2.2.2.2.1.vm.findClass "java/lang/String" = some cell.cls := by
    obtain ⟨cell, h1, h2, h3, -⟩ := (h.2.2.2.2.2.2.2.1.1 i hi).1.kept hS.2.1
    exact ⟨cell, h1, h2, h3⟩
  refine va_calli (va_runV (As := As) (rest := st) ⟨h.1, h.2.1, h.2.2.1, h.2.2.2.1, h.2.2.2.2.1⟩ hM2 (cwV n h.2.2.2.2.1 hg hws hrc.1 hrc.2 hd0 (by rw [hR2]; exact hR)) ⟨zP_blind, hrecv, z_pre h hP hD hS _⟩ rfl hn (hl.1.trans h.2.2.2.2.2.2.2.2.2.2) rfl (lv_room hcat) hd (by rw [hR2]; exact hkc)) hS (fun q _ h => hF q h) hF (fun r2 u t H1 locs1 ht hvm hw hB hz1 hk1 hS1 => ?_)
  obtain ⟨rfl, rfl⟩ := hw
  obtain ⟨hP1, hK1, hD1⟩ := hB
  rw [ht] at hP1
  exact k H1 locs1 ls hP1 (hD1.weaken (fun _ _ _ q => hF _ q)) hS1 hl
theorem z_getC (h : zOK X E l cc own Ts rm nL) (hi : i < zlN) (hw : Cond.fieldLink own index "java/lang/String" "coder" "B" ∈ Ts) (hd : decode cc pc = .ok (.getfield index, 3)) (kk : zV X E S kc ks μ (pc + 3) lv (.int 0 :: st)) : zV X E S kc ks μ pc lv (.ref (E.2.2.1 i) :: st) := fun H locs ls hP hD hS hl =>
  vk_getf h.1 h.2.1 (h.2.2.2.2.2.2.2.1.1 i hi).2.1 hS h.2.2.2.1 (h.2.2.2.2.1 _ hw) (fun _ h9 => h9) hd (kk H locs ls hP hD hS hl)
theorem z_getT (h : zOK X E l cc own Ts rm nL) (hi : i < zlN) (hw : Cond.fieldLink own index "java/lang/String" "value" "[B" ∈ Ts) (hd : decode cc pc = .ok (.getfield index, 3)) (kk : zV X E S kc ks μ (pc + 3) lv (.ref (E.2.2.2 i) :: st)) : zV X E S kc ks μ pc lv (.ref (E.2.2.1 i) :: st) := fun H locs ls hP hD hS hl =>
  vk_getf h.1 h.2.1 (h.2.2.2.2.2.2.2.1.1 i hi).2.2.1 hS h.2.2.2.1 (h.2.2.2.2.1 _ hw) (fun _ h9 => h9) hd (kk H locs ls hP hD hS hl)
theorem z_tlen (h : zOK X E l cc own Ts rm nL) (hi : i < zlN) (hd : decode cc pc = .ok (.arraylength, 1)) (kk : zV X E S kc ks μ (pc + 1) lv (.int (nI (zsb i).length) :: st)) : zV X E S kc ks μ pc lv (.ref (E.2.2.2 i) :: st) := fun H locs ls hP hD hS hl =>
  va_tlen h.1 h.2.1 (h.2.2.2.2.2.2.2.1.1 i hi).2.2.2 hS rfl hd (kk H locs ls hP hD hS hl)
theorem z_tald (h : zOK X E l cc own Ts rm nL) (hi : i < zlN) {k : Int32} {j : Nat} (hk : zix k j (zsb i).length) (hd : decode cc pc = .ok (.baload, 1)) (kk : zV X E S kc ks μ (pc + 1) lv (.int ((zsb i).getD j 0) :: st)) : zV X E S kc ks μ pc lv (.int k :: .ref (E.2.2.2 i) :: st) := fun H locs ls hP hD hS hl =>
  va_tb h.1 h.2.1 (h.2.2.2.2.2.2.2.1.1 i hi).2.2.2 hS hk.1 (by rw [hk.2]) hd (kk H locs ls hP hD hS hl)
theorem z_gets1 (h : zOK X E l cc own Ts rm nL) (hw : Cond.fieldLink own index "java/lang/String" "COMPACT_STRINGS" "Z" ∈ Ts) (hd : decode cc pc = .ok (.getstatic index, 3)) (kk : zV X E S kc ks μ (pc + 3) lv (.int 1 :: st)) : zV X E S kc ks μ pc lv st := fun H locs ls hP hD hS hl =>
  va_gets h.1 h.2.1 h.2.2.2.2.2.2.2.1.2.2.1 hS h.2.2.2.1 (h.2.2.2.2.1 _ hw) (fun _ h9 => h9) hd (kk H locs ls hP hD hS hl)
theorem z_gets2 (h : zOK X E l cc own Ts rm nL) (hw : Cond.fieldLink own index "jdk/internal/util/Preconditions" "SIOOBE_FORMATTER" "Ljava/util/function/BiFunction;" ∈ Ts) (hd : decode cc pc = .ok (.getstatic index, 3)) (kk : zV X E S kc ks μ (pc + 3) lv (.ref (E.2.2.2 48) :: st)) : zV X E S kc ks μ pc lv st := fun H locs ls hP hD hS hl =>
  va_gets h.1 h.2.1 h.2.2.2.2.2.2.2.1.2.2.2 hS h.2.2.2.1 (h.2.2.2.2.1 _ hw) (fun _ h9 => h9) hd (kk H locs ls hP hD hS hl)
/-- the length of an int row (or a long one) of the world -/
theorem z_alenJ {a n : Nat} (h : zOK X E l cc own Ts rm nL) (ha : zA S a 10 n) {v : Int32} (hv : nI n = v) (hd : decode cc pc = .ok (.arraylength, 1)) (kk : zV X E S kc ks μ (pc + 1) lv (.int v :: st)) : zV X E S kc ks μ pc lv (.ref a :: st) := fun H locs ls hP hD hS hl => by
  obtain ⟨q, hq, hq'⟩ := zW_at (E := E) (μ := μ) ha.1 (zc_j ha.2.1 ha.2.2)
  exact va_alen h.1 h.2.1 h.2.2.2.2.2.1 hP q 2 hq' (ty := .long) rfl hv hd (kk H locs ls hP hD hS hl)
end ZSTR
end
section
set_option maxRecDepth 20000 in
theorem kn_RJ0 : Cond.initialized RJ0 ∈ zTbl := zmem 60 rfl rfl
set_option maxRecDepth 20000 in
theorem kn_RJ1 : Cond.initialized RJ1 ∈ zTbl := zmem 61 rfl rfl
set_option maxRecDepth 20000 in
theorem kn_RJ2 : Cond.initialized RJ2 ∈ zTbl := zmem 63 rfl rfl
set_option maxRecDepth 20000 in
theorem kn_RJ3 : Cond.initialized RJ3 ∈ zTbl := zmem 62 rfl rfl
set_option maxRecDepth 20000 in
theorem kn_RJ6 : Cond.initialized RJ6 ∈ zTbl := zmem 71 rfl rfl
set_option maxRecDepth 20000 in
theorem kn_RJ7 : Cond.initialized RJ7 ∈ zTbl := zmem 64 rfl rfl
set_option maxRecDepth 20000 in
theorem kn_RJ9 : Cond.initialized RJ9 ∈ zTbl := zmem 70 rfl rfl
set_option maxRecDepth 20000 in
theorem kn_RX0 : Cond.initialized RX0 ∈ zTbl := zmem 55 rfl rfl
set_option maxRecDepth 20000 in
theorem kn_RX1 : Cond.initialized RX1 ∈ zTbl := zmem 58 rfl rfl
set_option maxRecDepth 20000 in
theorem kn_RX2 : Cond.initialized RX2 ∈ zTbl := zmem 54 rfl rfl
set_option maxRecDepth 20000 in
theorem kn_RX3 : Cond.initialized RX3 ∈ zTbl := zmem 56 rfl rfl
set_option maxRecDepth 20000 in
theorem kn_RX4 : Cond.initialized RX4 ∈ zTbl := zmem 57 rfl rfl
set_option maxRecDepth 20000 in
theorem kn_RX5 : Cond.initialized RX5 ∈ zTbl := zmem 53 rfl rfl
set_option maxRecDepth 20000 in
theorem kn_RX6 : Cond.initialized RX6 ∈ zTbl := zmem 52 rfl rfl
set_option maxRecDepth 20000 in
theorem kn_RX7 : Cond.initialized RX7 ∈ zTbl := zmem 59 rfl rfl
set_option maxRecDepth 20000 in
theorem kc_X0_init : Cond.code yX0_init cX0_init 1 none ∈ zTbl := zmem 114 rfl rfl
abbrev wsX0_init : List Cond := Cond.code yX0_init cX0_init 1 none :: zTbl
set_option maxRecDepth 20000 in
theorem ki_X0_init : Cond.instanceMethod yX0_init ∈ zTbl := zmem 113 rfl rfl
set_option maxRecDepth 20000 in
theorem kc_X0_clear : Cond.code yX0_clear cX0_clear 1 none ∈ zTbl := zmem 438 rfl rfl
abbrev wsX0_clear : List Cond := Cond.code yX0_clear cX0_clear 1 none :: zTbl
set_option maxRecDepth 20000 in
theorem ki_X0_clear : Cond.instanceMethod yX0_clear ∈ zTbl := zmem 436 rfl rfl
set_option maxRecDepth 20000 in
theorem ke_X0_clear : Cond.selects RX0 yX0_clear yX0_clear ∈ zTbl := zmem 437 rfl rfl
set_option maxRecDepth 20000 in
theorem kc_X0_size : Cond.code yX0_size cX0_size 1 (some .int) ∈ zTbl := zmem 679 rfl rfl
abbrev wsX0_size : List Cond := Cond.code yX0_size cX0_size 1 (some .int) :: zTbl
set_option maxRecDepth 20000 in
theorem ki_X0_size : Cond.instanceMethod yX0_size ∈ zTbl := zmem 677 rfl rfl
set_option maxRecDepth 20000 in
theorem ke_X0_size : Cond.selects RX0 yX0_size yX0_size ∈ zTbl := zmem 678 rfl rfl
set_option maxRecDepth 20000 in
theorem kc_X0_keep : Cond.code yX0_keep cX0_keep 3 none ∈ zTbl := zmem 662 rfl rfl
abbrev wsX0_keep : List Cond := Cond.code yX0_keep cX0_keep 3 none :: zTbl
set_option maxRecDepth 20000 in
theorem ki_X0_keep : Cond.instanceMethod yX0_keep ∈ zTbl := zmem 660 rfl rfl
set_option maxRecDepth 20000 in
theorem ke_X0_keep : Cond.selects RX0 yX0_keep yX0_keep ∈ zTbl := zmem 661 rfl rfl
set_option maxRecDepth 20000 in
theorem kc_X0_dropFirst : Cond.code yX0_dropFirst cX0_dropFirst 2 none ∈ zTbl := zmem 666 rfl rfl
abbrev wsX0_dropFirst : List Cond := Cond.code yX0_dropFirst cX0_dropFirst 2 none :: zTbl
set_option maxRecDepth 20000 in
theorem ki_X0_dropFirst : Cond.instanceMethod yX0_dropFirst ∈ zTbl := zmem 665 rfl rfl
set_option maxRecDepth 20000 in
theorem ke_X0_dropFirst : Cond.selects RX0 yX0_dropFirst yX0_dropFirst ∈ zTbl := zmem 21 rfl rfl
set_option maxRecDepth 20000 in
theorem kc_X0_dropLast : Cond.code yX0_dropLast cX0_dropLast 1 none ∈ zTbl := zmem 691 rfl rfl
abbrev wsX0_dropLast : List Cond := Cond.code yX0_dropLast cX0_dropLast 1 none :: zTbl
set_option maxRecDepth 20000 in
theorem ki_X0_dropLast : Cond.instanceMethod yX0_dropLast ∈ zTbl := zmem 689 rfl rfl
set_option maxRecDepth 20000 in
theorem ke_X0_dropLast : Cond.selects RX0 yX0_dropLast yX0_dropLast ∈ zTbl := zmem 690 rfl rfl
set_option maxRecDepth 20000 in
theorem kc_X0_lastSentence : Cond.code yX0_lastSentence cX0_lastSentence 1 (some .int) ∈ zTbl := zmem 683 rfl rfl
abbrev wsX0_lastSentence : List Cond := Cond.code yX0_lastSentence cX0_lastSentence 1 (some .int) :: zTbl
set_option maxRecDepth 20000 in
theorem ki_X0_lastSentence : Cond.instanceMethod yX0_lastSentence ∈ zTbl := zmem 681 rfl rfl
set_option maxRecDepth 20000 in
theorem ke_X0_lastSentence : Cond.selects RX0 yX0_lastSentence yX0_lastSentence ∈ zTbl := zmem 682 rfl rfl
set_option maxRecDepth 20000 in
theorem kc_X0_lastNumber : Cond.code yX0_lastNumber cX0_lastNumber 1 (some .int) ∈ zTbl := zmem 687 rfl rfl
abbrev wsX0_lastNumber : List Cond := Cond.code yX0_lastNumber cX0_lastNumber 1 (some .int) :: zTbl
set_option maxRecDepth 20000 in
theorem ki_X0_lastNumber : Cond.instanceMethod yX0_lastNumber ∈ zTbl := zmem 685 rfl rfl
set_option maxRecDepth 20000 in
theorem ke_X0_lastNumber : Cond.selects RX0 yX0_lastNumber yX0_lastNumber ∈ zTbl := zmem 686 rfl rfl
set_option maxRecDepth 20000 in
theorem kc_X1_init : Cond.code yX1_init cX1_init 1 none ∈ zTbl := zmem 164 rfl rfl
abbrev wsX1_init : List Cond := Cond.code yX1_init cX1_init 1 none :: zTbl
set_option maxRecDepth 20000 in
theorem ki_X1_init : Cond.instanceMethod yX1_init ∈ zTbl := zmem 163 rfl rfl
set_option maxRecDepth 20000 in
theorem kc_X1_clear : Cond.code yX1_clear cX1_clear 2 none ∈ zTbl := zmem 497 rfl rfl
abbrev wsX1_clear : List Cond := Cond.code yX1_clear cX1_clear 2 none :: zTbl
set_option maxRecDepth 20000 in
theorem ki_X1_clear : Cond.instanceMethod yX1_clear ∈ zTbl := zmem 495 rfl rfl
set_option maxRecDepth 20000 in
theorem ke_X1_clear : Cond.selects RX1 yX1_clear yX1_clear ∈ zTbl := zmem 496 rfl rfl
set_option maxRecDepth 20000 in
theorem kc_X1_add : Cond.code yX1_add cX1_add 4 (some .boolean) ∈ zTbl := zmem 512 rfl rfl
abbrev wsX1_add : List Cond := Cond.code yX1_add cX1_add 4 (some .boolean) :: zTbl
set_option maxRecDepth 20000 in
theorem ki_X1_add : Cond.instanceMethod yX1_add ∈ zTbl := zmem 510 rfl rfl
set_option maxRecDepth 20000 in
theorem ke_X1_add : Cond.selects RX1 yX1_add yX1_add ∈ zTbl := zmem 511 rfl rfl
set_option maxRecDepth 20000 in
theorem kc_X1_reduce : Cond.code yX1_reduce cX1_reduce 3 none ∈ zTbl := zmem 516 rfl rfl
abbrev wsX1_reduce : List Cond := Cond.code yX1_reduce cX1_reduce 3 none :: zTbl
set_option maxRecDepth 20000 in
theorem ki_X1_reduce : Cond.instanceMethod yX1_reduce ∈ zTbl := zmem 514 rfl rfl
set_option maxRecDepth 20000 in
theorem ke_X1_reduce : Cond.selects RX1 yX1_reduce yX1_reduce ∈ zTbl := zmem 515 rfl rfl
set_option maxRecDepth 20000 in
theorem kc_X1_firstName : Cond.code yX1_firstName cX1_firstName 2 (some .int) ∈ zTbl := zmem 525 rfl rfl
abbrev wsX1_firstName : List Cond := Cond.code yX1_firstName cX1_firstName 2 (some .int) :: zTbl
set_option maxRecDepth 20000 in
theorem ks_X1_firstName : Cond.static yX1_firstName ∈ zTbl := zmem 524 rfl rfl
set_option maxRecDepth 20000 in
theorem kc_X1_negate : Cond.code yX1_negate cX1_negate 2 none ∈ zTbl := zmem 528 rfl rfl
abbrev wsX1_negate : List Cond := Cond.code yX1_negate cX1_negate 2 none :: zTbl
set_option maxRecDepth 20000 in
theorem ks_X1_negate : Cond.static yX1_negate ∈ zTbl := zmem 527 rfl rfl
set_option maxRecDepth 20000 in
theorem kc_X1_eliminate : Cond.code yX1_eliminate cX1_eliminate 12 none ∈ zTbl := zmem 519 rfl rfl
abbrev wsX1_eliminate : List Cond := Cond.code yX1_eliminate cX1_eliminate 12 none :: zTbl
set_option maxRecDepth 20000 in
theorem ks_X1_eliminate : Cond.static yX1_eliminate ∈ zTbl := zmem 518 rfl rfl
set_option maxRecDepth 20000 in
theorem kc_X1_gcd : Cond.code yX1_gcd cX1_gcd 11 (some .long) ∈ zTbl := zmem 522 rfl rfl
abbrev wsX1_gcd : List Cond := Cond.code yX1_gcd cX1_gcd 11 (some .long) :: zTbl
set_option maxRecDepth 20000 in
theorem ks_X1_gcd : Cond.static yX1_gcd ∈ zTbl := zmem 521 rfl rfl
set_option maxRecDepth 20000 in
theorem kc_X2_init : Cond.code yX2_init cX2_init 2 none ∈ zTbl := zmem 104 rfl rfl
abbrev wsX2_init : List Cond := Cond.code yX2_init cX2_init 2 none :: zTbl
set_option maxRecDepth 20000 in
theorem ki_X2_init : Cond.instanceMethod yX2_init ∈ zTbl := zmem 103 rfl rfl
set_option maxRecDepth 20000 in
theorem kc_X2_read : Cond.code yX2_read cX2_read 4 (some .int) ∈ zTbl := zmem 284 rfl rfl
abbrev wsX2_read : List Cond := Cond.code yX2_read cX2_read 4 (some .int) :: zTbl
set_option maxRecDepth 20000 in
theorem ki_X2_read : Cond.instanceMethod yX2_read ∈ zTbl := zmem 282 rfl rfl
set_option maxRecDepth 20000 in
theorem ke_X2_read : Cond.selects RX2 yX2_read yX2_read ∈ zTbl := zmem 283 rfl rfl
set_option maxRecDepth 20000 in
theorem kc_X2_readSentence : Cond.code yX2_readSentence cX2_readSentence 5 (some .boolean) ∈ zTbl := zmem 386 rfl rfl
abbrev wsX2_readSentence : List Cond := Cond.code yX2_readSentence cX2_readSentence 5 (some .boolean) :: zTbl
set_option maxRecDepth 20000 in
theorem ki_X2_readSentence : Cond.instanceMethod yX2_readSentence ∈ zTbl := zmem 385 rfl rfl
set_option maxRecDepth 20000 in
theorem ke_X2_readSentence : Cond.selects RX2 yX2_readSentence yX2_readSentence ∈ zTbl := zmem 4 rfl rfl
set_option maxRecDepth 20000 in
theorem kc_X2_readHas : Cond.code yX2_readHas cX2_readHas 4 (some .boolean) ∈ zTbl := zmem 398 rfl rfl
abbrev wsX2_readHas : List Cond := Cond.code yX2_readHas cX2_readHas 4 (some .boolean) :: zTbl
set_option maxRecDepth 20000 in
theorem ki_X2_readHas : Cond.instanceMethod yX2_readHas ∈ zTbl := zmem 397 rfl rfl
set_option maxRecDepth 20000 in
theorem ke_X2_readHas : Cond.selects RX2 yX2_readHas yX2_readHas ∈ zTbl := zmem 5 rfl rfl
set_option maxRecDepth 20000 in
theorem kc_X2_readPlain : Cond.code yX2_readPlain cX2_readPlain 4 (some .boolean) ∈ zTbl := zmem 420 rfl rfl
abbrev wsX2_readPlain : List Cond := Cond.code yX2_readPlain cX2_readPlain 4 (some .boolean) :: zTbl
set_option maxRecDepth 20000 in
theorem ki_X2_readPlain : Cond.instanceMethod yX2_readPlain ∈ zTbl := zmem 419 rfl rfl
set_option maxRecDepth 20000 in
theorem ke_X2_readPlain : Cond.selects RX2 yX2_readPlain yX2_readPlain ∈ zTbl := zmem 8 rfl rfl
set_option maxRecDepth 20000 in
theorem kc_X2_readUnit : Cond.code yX2_readUnit cX2_readUnit 3 (some .boolean) ∈ zTbl := zmem 408 rfl rfl
abbrev wsX2_readUnit : List Cond := Cond.code yX2_readUnit cX2_readUnit 3 (some .boolean) :: zTbl
set_option maxRecDepth 20000 in
theorem ki_X2_readUnit : Cond.instanceMethod yX2_readUnit ∈ zTbl := zmem 407 rfl rfl
set_option maxRecDepth 20000 in
theorem ke_X2_readUnit : Cond.selects RX2 yX2_readUnit yX2_readUnit ∈ zTbl := zmem 6 rfl rfl
set_option maxRecDepth 20000 in
theorem kc_X2_readSecond : Cond.code yX2_readSecond cX2_readSecond 4 (some .boolean) ∈ zTbl := zmem 413 rfl rfl
abbrev wsX2_readSecond : List Cond := Cond.code yX2_readSecond cX2_readSecond 4 (some .boolean) :: zTbl
set_option maxRecDepth 20000 in
theorem ki_X2_readSecond : Cond.instanceMethod yX2_readSecond ∈ zTbl := zmem 412 rfl rfl
set_option maxRecDepth 20000 in
theorem ke_X2_readSecond : Cond.selects RX2 yX2_readSecond yX2_readSecond ∈ zTbl := zmem 7 rfl rfl
set_option maxRecDepth 20000 in
theorem kc_X2_readQuestion : Cond.code yX2_readQuestion cX2_readQuestion 6 (some .boolean) ∈ zTbl := zmem 350 rfl rfl
abbrev wsX2_readQuestion : List Cond := Cond.code yX2_readQuestion cX2_readQuestion 6 (some .boolean) :: zTbl
set_option maxRecDepth 20000 in
theorem ki_X2_readQuestion : Cond.instanceMethod yX2_readQuestion ∈ zTbl := zmem 349 rfl rfl
set_option maxRecDepth 20000 in
theorem ke_X2_readQuestion : Cond.selects RX2 yX2_readQuestion yX2_readQuestion ∈ zTbl := zmem 2 rfl rfl
set_option maxRecDepth 20000 in
theorem kc_X2_takeAskedSort : Cond.code yX2_takeAskedSort cX2_takeAskedSort 1 (some .int) ∈ zTbl := zmem 360 rfl rfl
abbrev wsX2_takeAskedSort : List Cond := Cond.code yX2_takeAskedSort cX2_takeAskedSort 1 (some .int) :: zTbl
set_option maxRecDepth 20000 in
theorem ki_X2_takeAskedSort : Cond.instanceMethod yX2_takeAskedSort ∈ zTbl := zmem 359 rfl rfl
set_option maxRecDepth 20000 in
theorem ke_X2_takeAskedSort : Cond.selects RX2 yX2_takeAskedSort yX2_takeAskedSort ∈ zTbl := zmem 3 rfl rfl
set_option maxRecDepth 20000 in
theorem kc_X3_init : Cond.code yX3_init cX3_init 1 none ∈ zTbl := zmem 130 rfl rfl
abbrev wsX3_init : List Cond := Cond.code yX3_init cX3_init 1 none :: zTbl
set_option maxRecDepth 20000 in
theorem ki_X3_init : Cond.instanceMethod yX3_init ∈ zTbl := zmem 129 rfl rfl
set_option maxRecDepth 20000 in
theorem kc_X3_clear : Cond.code yX3_clear cX3_clear 1 none ∈ zTbl := zmem 288 rfl rfl
abbrev wsX3_clear : List Cond := Cond.code yX3_clear cX3_clear 1 none :: zTbl
set_option maxRecDepth 20000 in
theorem ki_X3_clear : Cond.instanceMethod yX3_clear ∈ zTbl := zmem 286 rfl rfl
set_option maxRecDepth 20000 in
theorem ke_X3_clear : Cond.selects RX3 yX3_clear yX3_clear ∈ zTbl := zmem 287 rfl rfl
set_option maxRecDepth 20000 in
theorem kc_X3_open : Cond.code yX3_open cX3_open 3 none ∈ zTbl := zmem 390 rfl rfl
abbrev wsX3_open : List Cond := Cond.code yX3_open cX3_open 3 none :: zTbl
set_option maxRecDepth 20000 in
theorem ki_X3_open : Cond.instanceMethod yX3_open ∈ zTbl := zmem 388 rfl rfl
set_option maxRecDepth 20000 in
theorem ke_X3_open : Cond.selects RX3 yX3_open yX3_open ∈ zTbl := zmem 389 rfl rfl
set_option maxRecDepth 20000 in
theorem kc_X3_tell : Cond.code yX3_tell cX3_tell 3 none ∈ zTbl := zmem 394 rfl rfl
abbrev wsX3_tell : List Cond := Cond.code yX3_tell cX3_tell 3 none :: zTbl
set_option maxRecDepth 20000 in
theorem ki_X3_tell : Cond.instanceMethod yX3_tell ∈ zTbl := zmem 392 rfl rfl
set_option maxRecDepth 20000 in
theorem ke_X3_tell : Cond.selects RX3 yX3_tell yX3_tell ∈ zTbl := zmem 393 rfl rfl
set_option maxRecDepth 20000 in
theorem kc_X3_close : Cond.code yX3_close cX3_close 1 none ∈ zTbl := zmem 429 rfl rfl
abbrev wsX3_close : List Cond := Cond.code yX3_close cX3_close 1 none :: zTbl
set_option maxRecDepth 20000 in
theorem ki_X3_close : Cond.instanceMethod yX3_close ∈ zTbl := zmem 427 rfl rfl
set_option maxRecDepth 20000 in
theorem ke_X3_close : Cond.selects RX3 yX3_close yX3_close ∈ zTbl := zmem 428 rfl rfl
set_option maxRecDepth 20000 in
theorem kc_X3_ask : Cond.code yX3_ask cX3_ask 5 none ∈ zTbl := zmem 374 rfl rfl
abbrev wsX3_ask : List Cond := Cond.code yX3_ask cX3_ask 5 none :: zTbl
set_option maxRecDepth 20000 in
theorem ki_X3_ask : Cond.instanceMethod yX3_ask ∈ zTbl := zmem 372 rfl rfl
set_option maxRecDepth 20000 in
theorem ke_X3_ask : Cond.selects RX3 yX3_ask yX3_ask ∈ zTbl := zmem 373 rfl rfl
set_option maxRecDepth 20000 in
theorem kc_X3_size : Cond.code yX3_size cX3_size 1 (some .int) ∈ zTbl := zmem 457 rfl rfl
abbrev wsX3_size : List Cond := Cond.code yX3_size cX3_size 1 (some .int) :: zTbl
set_option maxRecDepth 20000 in
theorem ki_X3_size : Cond.instanceMethod yX3_size ∈ zTbl := zmem 455 rfl rfl
set_option maxRecDepth 20000 in
theorem ke_X3_size : Cond.selects RX3 yX3_size yX3_size ∈ zTbl := zmem 456 rfl rfl
set_option maxRecDepth 20000 in
theorem kc_X3_facts : Cond.code yX3_facts cX3_facts 1 (some .int) ∈ zTbl := zmem 505 rfl rfl
abbrev wsX3_facts : List Cond := Cond.code yX3_facts cX3_facts 1 (some .int) :: zTbl
set_option maxRecDepth 20000 in
theorem ki_X3_facts : Cond.instanceMethod yX3_facts ∈ zTbl := zmem 503 rfl rfl
set_option maxRecDepth 20000 in
theorem ke_X3_facts : Cond.selects RX3 yX3_facts yX3_facts ∈ zTbl := zmem 504 rfl rfl
set_option maxRecDepth 20000 in
theorem kc_X3_stages : Cond.code yX3_stages cX3_stages 1 (some .int) ∈ zTbl := zmem 583 rfl rfl
abbrev wsX3_stages : List Cond := Cond.code yX3_stages cX3_stages 1 (some .int) :: zTbl
set_option maxRecDepth 20000 in
theorem ki_X3_stages : Cond.instanceMethod yX3_stages ∈ zTbl := zmem 581 rfl rfl
set_option maxRecDepth 20000 in
theorem ke_X3_stages : Cond.selects RX3 yX3_stages yX3_stages ∈ zTbl := zmem 582 rfl rfl
set_option maxRecDepth 20000 in
theorem kc_X3_has : Cond.code yX3_has cX3_has 2 (some .boolean) ∈ zTbl := zmem 465 rfl rfl
abbrev wsX3_has : List Cond := Cond.code yX3_has cX3_has 2 (some .boolean) :: zTbl
set_option maxRecDepth 20000 in
theorem ki_X3_has : Cond.instanceMethod yX3_has ∈ zTbl := zmem 463 rfl rfl
set_option maxRecDepth 20000 in
theorem ke_X3_has : Cond.selects RX3 yX3_has yX3_has ∈ zTbl := zmem 464 rfl rfl
set_option maxRecDepth 20000 in
theorem kc_X3_part : Cond.code yX3_part cX3_part 3 (some .int) ∈ zTbl := zmem 461 rfl rfl
abbrev wsX3_part : List Cond := Cond.code yX3_part cX3_part 3 (some .int) :: zTbl
set_option maxRecDepth 20000 in
theorem ki_X3_part : Cond.instanceMethod yX3_part ∈ zTbl := zmem 459 rfl rfl
set_option maxRecDepth 20000 in
theorem ke_X3_part : Cond.selects RX3 yX3_part yX3_part ∈ zTbl := zmem 460 rfl rfl
set_option maxRecDepth 20000 in
theorem kc_X3_asked : Cond.code yX3_asked cX3_asked 2 (some .int) ∈ zTbl := zmem 486 rfl rfl
abbrev wsX3_asked : List Cond := Cond.code yX3_asked cX3_asked 2 (some .int) :: zTbl
set_option maxRecDepth 20000 in
theorem ki_X3_asked : Cond.instanceMethod yX3_asked ∈ zTbl := zmem 484 rfl rfl
set_option maxRecDepth 20000 in
theorem ke_X3_asked : Cond.selects RX3 yX3_asked yX3_asked ∈ zTbl := zmem 485 rfl rfl
set_option maxRecDepth 20000 in
theorem kc_X3_allows : Cond.code yX3_allows cX3_allows 3 (some .boolean) ∈ zTbl := zmem 656 rfl rfl
abbrev wsX3_allows : List Cond := Cond.code yX3_allows cX3_allows 3 (some .boolean) :: zTbl
set_option maxRecDepth 20000 in
theorem ki_X3_allows : Cond.instanceMethod yX3_allows ∈ zTbl := zmem 654 rfl rfl
set_option maxRecDepth 20000 in
theorem ke_X3_allows : Cond.selects RX3 yX3_allows yX3_allows ∈ zTbl := zmem 655 rfl rfl
set_option maxRecDepth 20000 in
theorem kc_X3_setNumber : Cond.code yX3_setNumber cX3_setNumber 3 none ∈ zTbl := zmem 670 rfl rfl
abbrev wsX3_setNumber : List Cond := Cond.code yX3_setNumber cX3_setNumber 3 none :: zTbl
set_option maxRecDepth 20000 in
theorem ki_X3_setNumber : Cond.instanceMethod yX3_setNumber ∈ zTbl := zmem 668 rfl rfl
set_option maxRecDepth 20000 in
theorem ke_X3_setNumber : Cond.selects RX3 yX3_setNumber yX3_setNumber ∈ zTbl := zmem 669 rfl rfl
set_option maxRecDepth 20000 in
theorem kc_X3_gain : Cond.code yX3_gain cX3_gain 8 (some .long) ∈ zTbl := zmem 476 rfl rfl
abbrev wsX3_gain : List Cond := Cond.code yX3_gain cX3_gain 8 (some .long) :: zTbl
set_option maxRecDepth 20000 in
theorem ki_X3_gain : Cond.instanceMethod yX3_gain ∈ zTbl := zmem 474 rfl rfl
set_option maxRecDepth 20000 in
theorem ke_X3_gain : Cond.selects RX3 yX3_gain yX3_gain ∈ zTbl := zmem 475 rfl rfl
set_option maxRecDepth 20000 in
theorem kc_X3_gainBy : Cond.code yX3_gainBy cX3_gainBy 4 (some .int) ∈ zTbl := zmem 479 rfl rfl
abbrev wsX3_gainBy : List Cond := Cond.code yX3_gainBy cX3_gainBy 4 (some .int) :: zTbl
set_option maxRecDepth 20000 in
theorem ks_X3_gainBy : Cond.static yX3_gainBy ∈ zTbl := zmem 478 rfl rfl
set_option maxRecDepth 20000 in
theorem kc_X4_init : Cond.code yX4_init cX4_init 3 none ∈ zTbl := zmem 157 rfl rfl
abbrev wsX4_init : List Cond := Cond.code yX4_init cX4_init 3 none :: zTbl
set_option maxRecDepth 20000 in
theorem ki_X4_init : Cond.instanceMethod yX4_init ∈ zTbl := zmem 156 rfl rfl
set_option maxRecDepth 20000 in
theorem kc_X4_begin : Cond.code yX4_begin cX4_begin 2 none ∈ zTbl := zmem 442 rfl rfl
abbrev wsX4_begin : List Cond := Cond.code yX4_begin cX4_begin 2 none :: zTbl
set_option maxRecDepth 20000 in
theorem ki_X4_begin : Cond.instanceMethod yX4_begin ∈ zTbl := zmem 440 rfl rfl
set_option maxRecDepth 20000 in
theorem ke_X4_begin : Cond.selects RX4 yX4_begin yX4_begin ∈ zTbl := zmem 441 rfl rfl
set_option maxRecDepth 20000 in
theorem kc_X4_solve : Cond.code yX4_solve cX4_solve 1 none ∈ zTbl := zmem 446 rfl rfl
abbrev wsX4_solve : List Cond := Cond.code yX4_solve cX4_solve 1 none :: zTbl
set_option maxRecDepth 20000 in
theorem ki_X4_solve : Cond.instanceMethod yX4_solve ∈ zTbl := zmem 444 rfl rfl
set_option maxRecDepth 20000 in
theorem ke_X4_solve : Cond.selects RX4 yX4_solve yX4_solve ∈ zTbl := zmem 445 rfl rfl
set_option maxRecDepth 20000 in
theorem kc_X4_makeLaws : Cond.code yX4_makeLaws cX4_makeLaws 7 none ∈ zTbl := zmem 453 rfl rfl
abbrev wsX4_makeLaws : List Cond := Cond.code yX4_makeLaws cX4_makeLaws 7 none :: zTbl
set_option maxRecDepth 20000 in
theorem ki_X4_makeLaws : Cond.instanceMethod yX4_makeLaws ∈ zTbl := zmem 452 rfl rfl
set_option maxRecDepth 20000 in
theorem ke_X4_makeLaws : Cond.selects RX4 yX4_makeLaws yX4_makeLaws ∈ zTbl := zmem 9 rfl rfl
set_option maxRecDepth 20000 in
theorem kc_X4_madeBy : Cond.code yX4_madeBy cX4_madeBy 2 (some .int) ∈ zTbl := zmem 468 rfl rfl
abbrev wsX4_madeBy : List Cond := Cond.code yX4_madeBy cX4_madeBy 2 (some .int) :: zTbl
set_option maxRecDepth 20000 in
theorem ks_X4_madeBy : Cond.static yX4_madeBy ∈ zTbl := zmem 467 rfl rfl
set_option maxRecDepth 20000 in
theorem kc_X4_secondWeight : Cond.code yX4_secondWeight cX4_secondWeight 2 (some .int) ∈ zTbl := zmem 482 rfl rfl
abbrev wsX4_secondWeight : List Cond := Cond.code yX4_secondWeight cX4_secondWeight 2 (some .int) :: zTbl
set_option maxRecDepth 20000 in
theorem ks_X4_secondWeight : Cond.static yX4_secondWeight ∈ zTbl := zmem 481 rfl rfl
set_option maxRecDepth 20000 in
theorem kc_X4_startSought : Cond.code yX4_startSought cX4_startSought 1 none ∈ zTbl := zmem 489 rfl rfl
abbrev wsX4_startSought : List Cond := Cond.code yX4_startSought cX4_startSought 1 none :: zTbl
set_option maxRecDepth 20000 in
theorem ks_X4_startSought : Cond.static yX4_startSought ∈ zTbl := zmem 488 rfl rfl
set_option maxRecDepth 20000 in
theorem kc_X4_weigh : Cond.code yX4_weigh cX4_weigh 6 none ∈ zTbl := zmem 472 rfl rfl
abbrev wsX4_weigh : List Cond := Cond.code yX4_weigh cX4_weigh 6 none :: zTbl
set_option maxRecDepth 20000 in
theorem ki_X4_weigh : Cond.instanceMethod yX4_weigh ∈ zTbl := zmem 471 rfl rfl
set_option maxRecDepth 20000 in
theorem ke_X4_weigh : Cond.selects RX4 yX4_weigh yX4_weigh ∈ zTbl := zmem 10 rfl rfl
set_option maxRecDepth 20000 in
theorem kc_X4_addFacts : Cond.code yX4_addFacts cX4_addFacts 3 none ∈ zTbl := zmem 493 rfl rfl
abbrev wsX4_addFacts : List Cond := Cond.code yX4_addFacts cX4_addFacts 3 none :: zTbl
set_option maxRecDepth 20000 in
theorem ki_X4_addFacts : Cond.instanceMethod yX4_addFacts ∈ zTbl := zmem 492 rfl rfl
set_option maxRecDepth 20000 in
theorem ke_X4_addFacts : Cond.selects RX4 yX4_addFacts yX4_addFacts ∈ zTbl := zmem 11 rfl rfl
set_option maxRecDepth 20000 in
theorem kc_X4_isFact : Cond.code yX4_isFact cX4_isFact 2 (some .boolean) ∈ zTbl := zmem 501 rfl rfl
abbrev wsX4_isFact : List Cond := Cond.code yX4_isFact cX4_isFact 2 (some .boolean) :: zTbl
set_option maxRecDepth 20000 in
theorem ki_X4_isFact : Cond.instanceMethod yX4_isFact ∈ zTbl := zmem 500 rfl rfl
set_option maxRecDepth 20000 in
theorem ke_X4_isFact : Cond.selects RX4 yX4_isFact yX4_isFact ∈ zTbl := zmem 12 rfl rfl
set_option maxRecDepth 20000 in
theorem kc_X4_settleAmounts : Cond.code yX4_settleAmounts cX4_settleAmounts 3 none ∈ zTbl := zmem 533 rfl rfl
abbrev wsX4_settleAmounts : List Cond := Cond.code yX4_settleAmounts cX4_settleAmounts 3 none :: zTbl
set_option maxRecDepth 20000 in
theorem ki_X4_settleAmounts : Cond.instanceMethod yX4_settleAmounts ∈ zTbl := zmem 532 rfl rfl
set_option maxRecDepth 20000 in
theorem ke_X4_settleAmounts : Cond.selects RX4 yX4_settleAmounts yX4_settleAmounts ∈ zTbl := zmem 13 rfl rfl
set_option maxRecDepth 20000 in
theorem kc_X4_settleAnswer : Cond.code yX4_settleAnswer cX4_settleAnswer 2 none ∈ zTbl := zmem 540 rfl rfl
abbrev wsX4_settleAnswer : List Cond := Cond.code yX4_settleAnswer cX4_settleAnswer 2 none :: zTbl
set_option maxRecDepth 20000 in
theorem ki_X4_settleAnswer : Cond.instanceMethod yX4_settleAnswer ∈ zTbl := zmem 539 rfl rfl
set_option maxRecDepth 20000 in
theorem ke_X4_settleAnswer : Cond.selects RX4 yX4_settleAnswer yX4_settleAnswer ∈ zTbl := zmem 14 rfl rfl
set_option maxRecDepth 20000 in
theorem kc_X4_quarrelAt : Cond.code yX4_quarrelAt cX4_quarrelAt 1 (some .int) ∈ zTbl := zmem 558 rfl rfl
abbrev wsX4_quarrelAt : List Cond := Cond.code yX4_quarrelAt cX4_quarrelAt 1 (some .int) :: zTbl
set_option maxRecDepth 20000 in
theorem ki_X4_quarrelAt : Cond.instanceMethod yX4_quarrelAt ∈ zTbl := zmem 556 rfl rfl
set_option maxRecDepth 20000 in
theorem ke_X4_quarrelAt : Cond.selects RX4 yX4_quarrelAt yX4_quarrelAt ∈ zTbl := zmem 557 rfl rfl
set_option maxRecDepth 20000 in
theorem kc_X4_hasAnswer : Cond.code yX4_hasAnswer cX4_hasAnswer 1 (some .boolean) ∈ zTbl := zmem 570 rfl rfl
abbrev wsX4_hasAnswer : List Cond := Cond.code yX4_hasAnswer cX4_hasAnswer 1 (some .boolean) :: zTbl
set_option maxRecDepth 20000 in
theorem ki_X4_hasAnswer : Cond.instanceMethod yX4_hasAnswer ∈ zTbl := zmem 569 rfl rfl
set_option maxRecDepth 20000 in
theorem ke_X4_hasAnswer : Cond.selects RX4 yX4_hasAnswer yX4_hasAnswer ∈ zTbl := zmem 15 rfl rfl
set_option maxRecDepth 20000 in
theorem kc_X4_answerPart : Cond.code yX4_answerPart cX4_answerPart 2 (some .long) ∈ zTbl := zmem 566 rfl rfl
abbrev wsX4_answerPart : List Cond := Cond.code yX4_answerPart cX4_answerPart 2 (some .long) :: zTbl
set_option maxRecDepth 20000 in
theorem ki_X4_answerPart : Cond.instanceMethod yX4_answerPart ∈ zTbl := zmem 564 rfl rfl
set_option maxRecDepth 20000 in
theorem ke_X4_answerPart : Cond.selects RX4 yX4_answerPart yX4_answerPart ∈ zTbl := zmem 565 rfl rfl
set_option maxRecDepth 20000 in
theorem kc_X4_amountPart : Cond.code yX4_amountPart cX4_amountPart 7 (some .long) ∈ zTbl := zmem 579 rfl rfl
abbrev wsX4_amountPart : List Cond := Cond.code yX4_amountPart cX4_amountPart 7 (some .long) :: zTbl
set_option maxRecDepth 20000 in
theorem ki_X4_amountPart : Cond.instanceMethod yX4_amountPart ∈ zTbl := zmem 577 rfl rfl
set_option maxRecDepth 20000 in
theorem ke_X4_amountPart : Cond.selects RX4 yX4_amountPart yX4_amountPart ∈ zTbl := zmem 578 rfl rfl
set_option maxRecDepth 20000 in
theorem kc_X4_topAt : Cond.code yX4_topAt cX4_topAt 5 (some .long) ∈ zTbl := zmem 587 rfl rfl
abbrev wsX4_topAt : List Cond := Cond.code yX4_topAt cX4_topAt 5 (some .long) :: zTbl
set_option maxRecDepth 20000 in
theorem ki_X4_topAt : Cond.instanceMethod yX4_topAt ∈ zTbl := zmem 586 rfl rfl
set_option maxRecDepth 20000 in
theorem ke_X4_topAt : Cond.selects RX4 yX4_topAt yX4_topAt ∈ zTbl := zmem 16 rfl rfl
set_option maxRecDepth 20000 in
theorem kc_X4_settledAtFirst : Cond.code yX4_settledAtFirst cX4_settledAtFirst 3 (some .int) ∈ zTbl := zmem 702 rfl rfl
abbrev wsX4_settledAtFirst : List Cond := Cond.code yX4_settledAtFirst cX4_settledAtFirst 3 (some .int) :: zTbl
set_option maxRecDepth 20000 in
theorem ki_X4_settledAtFirst : Cond.instanceMethod yX4_settledAtFirst ∈ zTbl := zmem 700 rfl rfl
set_option maxRecDepth 20000 in
theorem ke_X4_settledAtFirst : Cond.selects RX4 yX4_settledAtFirst yX4_settledAtFirst ∈ zTbl := zmem 701 rfl rfl
set_option maxRecDepth 20000 in
theorem kc_X4_strangePart : Cond.code yX4_strangePart cX4_strangePart 5 (some .int) ∈ zTbl := zmem 641 rfl rfl
abbrev wsX4_strangePart : List Cond := Cond.code yX4_strangePart cX4_strangePart 5 (some .int) :: zTbl
set_option maxRecDepth 20000 in
theorem ki_X4_strangePart : Cond.instanceMethod yX4_strangePart ∈ zTbl := zmem 639 rfl rfl
set_option maxRecDepth 20000 in
theorem ke_X4_strangePart : Cond.selects RX4 yX4_strangePart yX4_strangePart ∈ zTbl := zmem 640 rfl rfl
set_option maxRecDepth 20000 in
theorem kc_X4_isStrange : Cond.code yX4_isStrange cX4_isStrange 6 (some .boolean) ∈ zTbl := zmem 645 rfl rfl
abbrev wsX4_isStrange : List Cond := Cond.code yX4_isStrange cX4_isStrange 6 (some .boolean) :: zTbl
set_option maxRecDepth 20000 in
theorem ki_X4_isStrange : Cond.instanceMethod yX4_isStrange ∈ zTbl := zmem 644 rfl rfl
set_option maxRecDepth 20000 in
theorem ke_X4_isStrange : Cond.selects RX4 yX4_isStrange yX4_isStrange ∈ zTbl := zmem 20 rfl rfl
set_option maxRecDepth 20000 in
theorem kc_X4_choose : Cond.code yX4_choose cX4_choose 4 (some .int) ∈ zTbl := zmem 648 rfl rfl
abbrev wsX4_choose : List Cond := Cond.code yX4_choose cX4_choose 4 (some .int) :: zTbl
set_option maxRecDepth 20000 in
theorem ks_X4_choose : Cond.static yX4_choose ∈ zTbl := zmem 647 rfl rfl
set_option maxRecDepth 20000 in
theorem kc_X4_lackingName : Cond.code yX4_lackingName cX4_lackingName 3 (some .int) ∈ zTbl := zmem 630 rfl rfl
abbrev wsX4_lackingName : List Cond := Cond.code yX4_lackingName cX4_lackingName 3 (some .int) :: zTbl
set_option maxRecDepth 20000 in
theorem ki_X4_lackingName : Cond.instanceMethod yX4_lackingName ∈ zTbl := zmem 628 rfl rfl
set_option maxRecDepth 20000 in
theorem ke_X4_lackingName : Cond.selects RX4 yX4_lackingName yX4_lackingName ∈ zTbl := zmem 629 rfl rfl
set_option maxRecDepth 20000 in
theorem kc_X4_areAlongside : Cond.code yX4_areAlongside cX4_areAlongside 4 (some .boolean) ∈ zTbl := zmem 633 rfl rfl
abbrev wsX4_areAlongside : List Cond := Cond.code yX4_areAlongside cX4_areAlongside 4 (some .boolean) :: zTbl
set_option maxRecDepth 20000 in
theorem ks_X4_areAlongside : Cond.static yX4_areAlongside ∈ zTbl := zmem 632 rfl rfl
set_option maxRecDepth 20000 in
theorem kc_X4_idleFacts : Cond.code yX4_idleFacts cX4_idleFacts 2 (some .int) ∈ zTbl := zmem 595 rfl rfl
abbrev wsX4_idleFacts : List Cond := Cond.code yX4_idleFacts cX4_idleFacts 2 (some .int) :: zTbl
set_option maxRecDepth 20000 in
theorem ki_X4_idleFacts : Cond.instanceMethod yX4_idleFacts ∈ zTbl := zmem 593 rfl rfl
set_option maxRecDepth 20000 in
theorem ke_X4_idleFacts : Cond.selects RX4 yX4_idleFacts yX4_idleFacts ∈ zTbl := zmem 594 rfl rfl
set_option maxRecDepth 20000 in
theorem kc_X4_fewestFacts : Cond.code yX4_fewestFacts cX4_fewestFacts 1 (some .int) ∈ zTbl := zmem 611 rfl rfl
abbrev wsX4_fewestFacts : List Cond := Cond.code yX4_fewestFacts cX4_fewestFacts 1 (some .int) :: zTbl
set_option maxRecDepth 20000 in
theorem ki_X4_fewestFacts : Cond.instanceMethod yX4_fewestFacts ∈ zTbl := zmem 609 rfl rfl
set_option maxRecDepth 20000 in
theorem ke_X4_fewestFacts : Cond.selects RX4 yX4_fewestFacts yX4_fewestFacts ∈ zTbl := zmem 610 rfl rfl
set_option maxRecDepth 20000 in
theorem kc_X4_seekFewest : Cond.code yX4_seekFewest cX4_seekFewest 5 (some .int) ∈ zTbl := zmem 616 rfl rfl
abbrev wsX4_seekFewest : List Cond := Cond.code yX4_seekFewest cX4_seekFewest 5 (some .int) :: zTbl
set_option maxRecDepth 20000 in
theorem ki_X4_seekFewest : Cond.instanceMethod yX4_seekFewest ∈ zTbl := zmem 615 rfl rfl
set_option maxRecDepth 20000 in
theorem ke_X4_seekFewest : Cond.selects RX4 yX4_seekFewest yX4_seekFewest ∈ zTbl := zmem 19 rfl rfl
set_option maxRecDepth 20000 in
theorem kc_X4_factsOf : Cond.code yX4_factsOf cX4_factsOf 4 (some .int) ∈ zTbl := zmem 603 rfl rfl
abbrev wsX4_factsOf : List Cond := Cond.code yX4_factsOf cX4_factsOf 4 (some .int) :: zTbl
set_option maxRecDepth 20000 in
theorem ki_X4_factsOf : Cond.instanceMethod yX4_factsOf ∈ zTbl := zmem 602 rfl rfl
set_option maxRecDepth 20000 in
theorem ke_X4_factsOf : Cond.selects RX4 yX4_factsOf yX4_factsOf ∈ zTbl := zmem 18 rfl rfl
set_option maxRecDepth 20000 in
theorem kc_X4_isSettledBy : Cond.code yX4_isSettledBy cX4_isSettledBy 4 (some .boolean) ∈ zTbl := zmem 599 rfl rfl
abbrev wsX4_isSettledBy : List Cond := Cond.code yX4_isSettledBy cX4_isSettledBy 4 (some .boolean) :: zTbl
set_option maxRecDepth 20000 in
theorem ki_X4_isSettledBy : Cond.instanceMethod yX4_isSettledBy ∈ zTbl := zmem 598 rfl rfl
set_option maxRecDepth 20000 in
theorem ke_X4_isSettledBy : Cond.selects RX4 yX4_isSettledBy yX4_isSettledBy ∈ zTbl := zmem 17 rfl rfl
set_option maxRecDepth 20000 in
theorem kc_X5_init : Cond.code yX5_init cX5_init 1 none ∈ zTbl := zmem 84 rfl rfl
abbrev wsX5_init : List Cond := Cond.code yX5_init cX5_init 1 none :: zTbl
set_option maxRecDepth 20000 in
theorem ki_X5_init : Cond.instanceMethod yX5_init ∈ zTbl := zmem 83 rfl rfl
set_option maxRecDepth 20000 in
theorem kc_X5_filledBytes : Cond.code yX5_filledBytes cX5_filledBytes 3 (some .int) ∈ zTbl := zmem 246 rfl rfl
abbrev wsX5_filledBytes : List Cond := Cond.code yX5_filledBytes cX5_filledBytes 3 (some .int) :: zTbl
set_option maxRecDepth 20000 in
theorem ks_X5_filledBytes : Cond.static yX5_filledBytes ∈ zTbl := zmem 245 rfl rfl
set_option maxRecDepth 20000 in
theorem kc_X5_size : Cond.code yX5_size cX5_size 1 (some .int) ∈ zTbl := zmem 250 rfl rfl
abbrev wsX5_size : List Cond := Cond.code yX5_size cX5_size 1 (some .int) :: zTbl
set_option maxRecDepth 20000 in
theorem ki_X5_size : Cond.instanceMethod yX5_size ∈ zTbl := zmem 248 rfl rfl
set_option maxRecDepth 20000 in
theorem ke_X5_size : Cond.selects RX5 yX5_size yX5_size ∈ zTbl := zmem 249 rfl rfl
set_option maxRecDepth 20000 in
theorem kc_X5_append : Cond.code yX5_append cX5_append 4 none ∈ zTbl := zmem 254 rfl rfl
abbrev wsX5_append : List Cond := Cond.code yX5_append cX5_append 4 none :: zTbl
set_option maxRecDepth 20000 in
theorem ki_X5_append : Cond.instanceMethod yX5_append ∈ zTbl := zmem 252 rfl rfl
set_option maxRecDepth 20000 in
theorem ke_X5_append : Cond.selects RX5 yX5_append yX5_append ∈ zTbl := zmem 253 rfl rfl
set_option maxRecDepth 20000 in
theorem kc_X5_cut : Cond.code yX5_cut cX5_cut 2 (some .boolean) ∈ zTbl := zmem 262 rfl rfl
abbrev wsX5_cut : List Cond := Cond.code yX5_cut cX5_cut 2 (some .boolean) :: zTbl
set_option maxRecDepth 20000 in
theorem ki_X5_cut : Cond.instanceMethod yX5_cut ∈ zTbl := zmem 260 rfl rfl
set_option maxRecDepth 20000 in
theorem ke_X5_cut : Cond.selects RX5 yX5_cut yX5_cut ∈ zTbl := zmem 261 rfl rfl
set_option maxRecDepth 20000 in
theorem kc_X5_rewind : Cond.code yX5_rewind cX5_rewind 1 none ∈ zTbl := zmem 266 rfl rfl
abbrev wsX5_rewind : List Cond := Cond.code yX5_rewind cX5_rewind 1 none :: zTbl
set_option maxRecDepth 20000 in
theorem ki_X5_rewind : Cond.instanceMethod yX5_rewind ∈ zTbl := zmem 264 rfl rfl
set_option maxRecDepth 20000 in
theorem ke_X5_rewind : Cond.selects RX5 yX5_rewind yX5_rewind ∈ zTbl := zmem 265 rfl rfl
set_option maxRecDepth 20000 in
theorem kc_X5_advance : Cond.code yX5_advance cX5_advance 4 none ∈ zTbl := zmem 270 rfl rfl
abbrev wsX5_advance : List Cond := Cond.code yX5_advance cX5_advance 4 none :: zTbl
set_option maxRecDepth 20000 in
theorem ki_X5_advance : Cond.instanceMethod yX5_advance ∈ zTbl := zmem 269 rfl rfl
set_option maxRecDepth 20000 in
theorem ke_X5_advance : Cond.selects RX5 yX5_advance yX5_advance ∈ zTbl := zmem 0 rfl rfl
set_option maxRecDepth 20000 in
theorem kc_X5_isLetter : Cond.code yX5_isLetter cX5_isLetter 1 (some .boolean) ∈ zTbl := zmem 276 rfl rfl
abbrev wsX5_isLetter : List Cond := Cond.code yX5_isLetter cX5_isLetter 1 (some .boolean) :: zTbl
set_option maxRecDepth 20000 in
theorem ks_X5_isLetter : Cond.static yX5_isLetter ∈ zTbl := zmem 275 rfl rfl
set_option maxRecDepth 20000 in
theorem kc_X5_isDigit : Cond.code yX5_isDigit cX5_isDigit 1 (some .boolean) ∈ zTbl := zmem 273 rfl rfl
abbrev wsX5_isDigit : List Cond := Cond.code yX5_isDigit cX5_isDigit 1 (some .boolean) :: zTbl
set_option maxRecDepth 20000 in
theorem ks_X5_isDigit : Cond.static yX5_isDigit ∈ zTbl := zmem 272 rfl rfl
set_option maxRecDepth 20000 in
theorem kc_X5_start : Cond.code yX5_start cX5_start 1 (some .int) ∈ zTbl := zmem 382 rfl rfl
abbrev wsX5_start : List Cond := Cond.code yX5_start cX5_start 1 (some .int) :: zTbl
set_option maxRecDepth 20000 in
theorem ki_X5_start : Cond.instanceMethod yX5_start ∈ zTbl := zmem 380 rfl rfl
set_option maxRecDepth 20000 in
theorem ke_X5_start : Cond.selects RX5 yX5_start yX5_start ∈ zTbl := zmem 381 rfl rfl
set_option maxRecDepth 20000 in
theorem kc_X5_isOver : Cond.code yX5_isOver cX5_isOver 1 (some .boolean) ∈ zTbl := zmem 378 rfl rfl
abbrev wsX5_isOver : List Cond := Cond.code yX5_isOver cX5_isOver 1 (some .boolean) :: zTbl
set_option maxRecDepth 20000 in
theorem ki_X5_isOver : Cond.instanceMethod yX5_isOver ∈ zTbl := zmem 376 rfl rfl
set_option maxRecDepth 20000 in
theorem ke_X5_isOver : Cond.selects RX5 yX5_isOver yX5_isOver ∈ zTbl := zmem 377 rfl rfl
set_option maxRecDepth 20000 in
theorem kc_X5_take : Cond.code yX5_take cX5_take 2 (some .boolean) ∈ zTbl := zmem 294 rfl rfl
abbrev wsX5_take : List Cond := Cond.code yX5_take cX5_take 2 (some .boolean) :: zTbl
set_option maxRecDepth 20000 in
theorem ki_X5_take : Cond.instanceMethod yX5_take ∈ zTbl := zmem 292 rfl rfl
set_option maxRecDepth 20000 in
theorem ke_X5_take : Cond.selects RX5 yX5_take yX5_take ∈ zTbl := zmem 293 rfl rfl
set_option maxRecDepth 20000 in
theorem kc_X5_takeName : Cond.code yX5_takeName cX5_takeName 3 (some .int) ∈ zTbl := zmem 367 rfl rfl
abbrev wsX5_takeName : List Cond := Cond.code yX5_takeName cX5_takeName 3 (some .int) :: zTbl
set_option maxRecDepth 20000 in
theorem ki_X5_takeName : Cond.instanceMethod yX5_takeName ∈ zTbl := zmem 365 rfl rfl
set_option maxRecDepth 20000 in
theorem ke_X5_takeName : Cond.selects RX5 yX5_takeName yX5_takeName ∈ zTbl := zmem 366 rfl rfl
set_option maxRecDepth 20000 in
theorem kc_X5_takeUnit : Cond.code yX5_takeUnit cX5_takeUnit 2 (some .int) ∈ zTbl := zmem 355 rfl rfl
abbrev wsX5_takeUnit : List Cond := Cond.code yX5_takeUnit cX5_takeUnit 2 (some .int) :: zTbl
set_option maxRecDepth 20000 in
theorem ki_X5_takeUnit : Cond.instanceMethod yX5_takeUnit ∈ zTbl := zmem 353 rfl rfl
set_option maxRecDepth 20000 in
theorem ke_X5_takeUnit : Cond.selects RX5 yX5_takeUnit yX5_takeUnit ∈ zTbl := zmem 354 rfl rfl
set_option maxRecDepth 20000 in
theorem kc_X5_find : Cond.code yX5_find cX5_find 6 (some .int) ∈ zTbl := zmem 308 rfl rfl
abbrev wsX5_find : List Cond := Cond.code yX5_find cX5_find 6 (some .int) :: zTbl
set_option maxRecDepth 20000 in
theorem ki_X5_find : Cond.instanceMethod yX5_find ∈ zTbl := zmem 307 rfl rfl
set_option maxRecDepth 20000 in
theorem ke_X5_find : Cond.selects RX5 yX5_find yX5_find ∈ zTbl := zmem 1 rfl rfl
set_option maxRecDepth 20000 in
theorem kc_X5_takeNumber : Cond.code yX5_takeNumber cX5_takeNumber 3 (some .int) ∈ zTbl := zmem 402 rfl rfl
abbrev wsX5_takeNumber : List Cond := Cond.code yX5_takeNumber cX5_takeNumber 3 (some .int) :: zTbl
set_option maxRecDepth 20000 in
theorem ki_X5_takeNumber : Cond.instanceMethod yX5_takeNumber ∈ zTbl := zmem 400 rfl rfl
set_option maxRecDepth 20000 in
theorem ke_X5_takeNumber : Cond.selects RX5 yX5_takeNumber yX5_takeNumber ∈ zTbl := zmem 401 rfl rfl
set_option maxRecDepth 20000 in
theorem kc_X6_init : Cond.code yX6_init cX6_init 1 none ∈ zTbl := zmem 76 rfl rfl
abbrev wsX6_init : List Cond := Cond.code yX6_init cX6_init 1 none :: zTbl
set_option maxRecDepth 20000 in
theorem ki_X6_init : Cond.instanceMethod yX6_init ∈ zTbl := zmem 75 rfl rfl
set_option maxRecDepth 20000 in
theorem kc_X6_feed : Cond.code yX6_feed cX6_feed 7 (some .int) ∈ zTbl := zmem 243 rfl rfl
abbrev wsX6_feed : List Cond := Cond.code yX6_feed cX6_feed 7 (some .int) :: zTbl
set_option maxRecDepth 20000 in
theorem ki_X6_feed : Cond.instanceMethod yX6_feed ∈ zTbl := zmem 241 rfl rfl
set_option maxRecDepth 20000 in
theorem ke_X6_feed : Cond.selects RX6 yX6_feed yX6_feed ∈ zTbl := zmem 242 rfl rfl
set_option maxRecDepth 20000 in
theorem kc_X6_end : Cond.code yX6_end cX6_end 2 (some .boolean) ∈ zTbl := zmem 258 rfl rfl
abbrev wsX6_end : List Cond := Cond.code yX6_end cX6_end 2 (some .boolean) :: zTbl
set_option maxRecDepth 20000 in
theorem ki_X6_end : Cond.instanceMethod yX6_end ∈ zTbl := zmem 256 rfl rfl
set_option maxRecDepth 20000 in
theorem ke_X6_end : Cond.selects RX6 yX6_end yX6_end ∈ zTbl := zmem 257 rfl rfl
set_option maxRecDepth 20000 in
theorem kc_X6_fault : Cond.code yX6_fault cX6_fault 1 (some .int) ∈ zTbl := zmem 280 rfl rfl
abbrev wsX6_fault : List Cond := Cond.code yX6_fault cX6_fault 1 (some .int) :: zTbl
set_option maxRecDepth 20000 in
theorem ki_X6_fault : Cond.instanceMethod yX6_fault ∈ zTbl := zmem 278 rfl rfl
set_option maxRecDepth 20000 in
theorem ke_X6_fault : Cond.selects RX6 yX6_fault yX6_fault ∈ zTbl := zmem 279 rfl rfl
set_option maxRecDepth 20000 in
theorem kc_X6_tale : Cond.code yX6_tale cX6_tale 2 (some .boolean) ∈ zTbl := zmem 434 rfl rfl
abbrev wsX6_tale : List Cond := Cond.code yX6_tale cX6_tale 2 (some .boolean) :: zTbl
set_option maxRecDepth 20000 in
theorem ki_X6_tale : Cond.instanceMethod yX6_tale ∈ zTbl := zmem 432 rfl rfl
set_option maxRecDepth 20000 in
theorem ke_X6_tale : Cond.selects RX6 yX6_tale yX6_tale ∈ zTbl := zmem 433 rfl rfl
set_option maxRecDepth 20000 in
theorem kc_X6_sentences : Cond.code yX6_sentences cX6_sentences 1 (some .int) ∈ zTbl := zmem 544 rfl rfl
abbrev wsX6_sentences : List Cond := Cond.code yX6_sentences cX6_sentences 1 (some .int) :: zTbl
set_option maxRecDepth 20000 in
theorem ki_X6_sentences : Cond.instanceMethod yX6_sentences ∈ zTbl := zmem 542 rfl rfl
set_option maxRecDepth 20000 in
theorem ke_X6_sentences : Cond.selects RX6 yX6_sentences yX6_sentences ∈ zTbl := zmem 543 rfl rfl
set_option maxRecDepth 20000 in
theorem kc_X6_sentence : Cond.code yX6_sentence cX6_sentence 3 (some .int) ∈ zTbl := zmem 710 rfl rfl
abbrev wsX6_sentence : List Cond := Cond.code yX6_sentence cX6_sentence 3 (some .int) :: zTbl
set_option maxRecDepth 20000 in
theorem ki_X6_sentence : Cond.instanceMethod yX6_sentence ∈ zTbl := zmem 708 rfl rfl
set_option maxRecDepth 20000 in
theorem ke_X6_sentence : Cond.selects RX6 yX6_sentence yX6_sentence ∈ zTbl := zmem 709 rfl rfl
set_option maxRecDepth 20000 in
theorem kc_X6_question : Cond.code yX6_question cX6_question 2 (some .int) ∈ zTbl := zmem 549 rfl rfl
abbrev wsX6_question : List Cond := Cond.code yX6_question cX6_question 2 (some .int) :: zTbl
set_option maxRecDepth 20000 in
theorem ki_X6_question : Cond.instanceMethod yX6_question ∈ zTbl := zmem 547 rfl rfl
set_option maxRecDepth 20000 in
theorem ke_X6_question : Cond.selects RX6 yX6_question yX6_question ∈ zTbl := zmem 548 rfl rfl
set_option maxRecDepth 20000 in
theorem kc_X6_quarrel : Cond.code yX6_quarrel cX6_quarrel 1 (some .int) ∈ zTbl := zmem 554 rfl rfl
abbrev wsX6_quarrel : List Cond := Cond.code yX6_quarrel cX6_quarrel 1 (some .int) :: zTbl
set_option maxRecDepth 20000 in
theorem ki_X6_quarrel : Cond.instanceMethod yX6_quarrel ∈ zTbl := zmem 552 rfl rfl
set_option maxRecDepth 20000 in
theorem ke_X6_quarrel : Cond.selects RX6 yX6_quarrel yX6_quarrel ∈ zTbl := zmem 553 rfl rfl
set_option maxRecDepth 20000 in
theorem kc_X6_answer : Cond.code yX6_answer cX6_answer 2 (some .long) ∈ zTbl := zmem 562 rfl rfl
abbrev wsX6_answer : List Cond := Cond.code yX6_answer cX6_answer 2 (some .long) :: zTbl
set_option maxRecDepth 20000 in
theorem ki_X6_answer : Cond.instanceMethod yX6_answer ∈ zTbl := zmem 560 rfl rfl
set_option maxRecDepth 20000 in
theorem ke_X6_answer : Cond.selects RX6 yX6_answer yX6_answer ∈ zTbl := zmem 561 rfl rfl
set_option maxRecDepth 20000 in
theorem kc_X6_amount : Cond.code yX6_amount cX6_amount 5 (some .long) ∈ zTbl := zmem 575 rfl rfl
abbrev wsX6_amount : List Cond := Cond.code yX6_amount cX6_amount 5 (some .long) :: zTbl
set_option maxRecDepth 20000 in
theorem ki_X6_amount : Cond.instanceMethod yX6_amount ∈ zTbl := zmem 573 rfl rfl
set_option maxRecDepth 20000 in
theorem ke_X6_amount : Cond.selects RX6 yX6_amount yX6_amount ∈ zTbl := zmem 574 rfl rfl
set_option maxRecDepth 20000 in
theorem kc_X6_idle : Cond.code yX6_idle cX6_idle 1 (some .int) ∈ zTbl := zmem 591 rfl rfl
abbrev wsX6_idle : List Cond := Cond.code yX6_idle cX6_idle 1 (some .int) :: zTbl
set_option maxRecDepth 20000 in
theorem ki_X6_idle : Cond.instanceMethod yX6_idle ∈ zTbl := zmem 589 rfl rfl
set_option maxRecDepth 20000 in
theorem ke_X6_idle : Cond.selects RX6 yX6_idle yX6_idle ∈ zTbl := zmem 590 rfl rfl
set_option maxRecDepth 20000 in
theorem kc_X6_enough : Cond.code yX6_enough cX6_enough 1 (some .int) ∈ zTbl := zmem 607 rfl rfl
abbrev wsX6_enough : List Cond := Cond.code yX6_enough cX6_enough 1 (some .int) :: zTbl
set_option maxRecDepth 20000 in
theorem ki_X6_enough : Cond.instanceMethod yX6_enough ∈ zTbl := zmem 605 rfl rfl
set_option maxRecDepth 20000 in
theorem ke_X6_enough : Cond.selects RX6 yX6_enough yX6_enough ∈ zTbl := zmem 606 rfl rfl
set_option maxRecDepth 20000 in
theorem kc_X6_lacking : Cond.code yX6_lacking cX6_lacking 1 (some .int) ∈ zTbl := zmem 626 rfl rfl
abbrev wsX6_lacking : List Cond := Cond.code yX6_lacking cX6_lacking 1 (some .int) :: zTbl
set_option maxRecDepth 20000 in
theorem ki_X6_lacking : Cond.instanceMethod yX6_lacking ∈ zTbl := zmem 624 rfl rfl
set_option maxRecDepth 20000 in
theorem ke_X6_lacking : Cond.selects RX6 yX6_lacking yX6_lacking ∈ zTbl := zmem 625 rfl rfl
set_option maxRecDepth 20000 in
theorem kc_X6_strange : Cond.code yX6_strange cX6_strange 2 (some .int) ∈ zTbl := zmem 637 rfl rfl
abbrev wsX6_strange : List Cond := Cond.code yX6_strange cX6_strange 2 (some .int) :: zTbl
set_option maxRecDepth 20000 in
theorem ki_X6_strange : Cond.instanceMethod yX6_strange ∈ zTbl := zmem 635 rfl rfl
set_option maxRecDepth 20000 in
theorem ke_X6_strange : Cond.selects RX6 yX6_strange yX6_strange ∈ zTbl := zmem 636 rfl rfl
set_option maxRecDepth 20000 in
theorem kc_X6_put : Cond.code yX6_put cX6_put 3 (some .boolean) ∈ zTbl := zmem 652 rfl rfl
abbrev wsX6_put : List Cond := Cond.code yX6_put cX6_put 3 (some .boolean) :: zTbl
set_option maxRecDepth 20000 in
theorem ki_X6_put : Cond.instanceMethod yX6_put ∈ zTbl := zmem 650 rfl rfl
set_option maxRecDepth 20000 in
theorem ke_X6_put : Cond.selects RX6 yX6_put yX6_put ∈ zTbl := zmem 651 rfl rfl
set_option maxRecDepth 20000 in
theorem kc_X6_undo : Cond.code yX6_undo cX6_undo 2 (some .int) ∈ zTbl := zmem 675 rfl rfl
abbrev wsX6_undo : List Cond := Cond.code yX6_undo cX6_undo 2 (some .int) :: zTbl
set_option maxRecDepth 20000 in
theorem ki_X6_undo : Cond.instanceMethod yX6_undo ∈ zTbl := zmem 673 rfl rfl
set_option maxRecDepth 20000 in
theorem ke_X6_undo : Cond.selects RX6 yX6_undo yX6_undo ∈ zTbl := zmem 674 rfl rfl
set_option maxRecDepth 20000 in
theorem kc_X6_count : Cond.code yX6_count cX6_count 2 (some .int) ∈ zTbl := zmem 695 rfl rfl
abbrev wsX6_count : List Cond := Cond.code yX6_count cX6_count 2 (some .int) :: zTbl
set_option maxRecDepth 20000 in
theorem ki_X6_count : Cond.instanceMethod yX6_count ∈ zTbl := zmem 693 rfl rfl
set_option maxRecDepth 20000 in
theorem ke_X6_count : Cond.selects RX6 yX6_count yX6_count ∈ zTbl := zmem 694 rfl rfl
set_option maxRecDepth 20000 in
theorem kc_X7_init : Cond.code yX7_init cX7_init 1 none ∈ zTbl := zmem 777 rfl rfl
abbrev wsX7_init : List Cond := Cond.code yX7_init cX7_init 1 none :: zTbl
set_option maxRecDepth 20000 in
theorem ki_X7_init : Cond.instanceMethod yX7_init ∈ zTbl := zmem 776 rfl rfl
set_option maxRecDepth 20000 in
theorem kc_X7_thrown : Cond.code yX7_thrown cX7_thrown 1 (some .int) ∈ zTbl := zmem 864 rfl rfl
abbrev wsX7_thrown : List Cond := Cond.code yX7_thrown cX7_thrown 1 (some .int) :: zTbl
set_option maxRecDepth 20000 in
theorem ki_X7_thrown : Cond.instanceMethod yX7_thrown ∈ zTbl := zmem 862 rfl rfl
set_option maxRecDepth 20000 in
theorem ke_X7_thrown : Cond.selects RX7 yX7_thrown yX7_thrown ∈ zTbl := zmem 863 rfl rfl
set_option maxRecDepth 20000 in
theorem kc_X7_isIn : Cond.code yX7_isIn cX7_isIn 3 (some .boolean) ∈ zTbl := zmem 966 rfl rfl
abbrev wsX7_isIn : List Cond := Cond.code yX7_isIn cX7_isIn 3 (some .boolean) :: zTbl
set_option maxRecDepth 20000 in
theorem ks_X7_isIn : Cond.static yX7_isIn ∈ zTbl := zmem 965 rfl rfl
set_option maxRecDepth 20000 in
theorem kc_X7_bytesIn : Cond.code yX7_bytesIn cX7_bytesIn 3 (some .int) ∈ zTbl := zmem 871 rfl rfl
abbrev wsX7_bytesIn : List Cond := Cond.code yX7_bytesIn cX7_bytesIn 3 (some .int) :: zTbl
set_option maxRecDepth 20000 in
theorem ks_X7_bytesIn : Cond.static yX7_bytesIn ∈ zTbl := zmem 870 rfl rfl
set_option maxRecDepth 20000 in
theorem kc_X7_put4 : Cond.code yX7_put4 cX7_put4 3 none ∈ zTbl := zmem 875 rfl rfl
abbrev wsX7_put4 : List Cond := Cond.code yX7_put4 cX7_put4 3 none :: zTbl
set_option maxRecDepth 20000 in
theorem ki_X7_put4 : Cond.instanceMethod yX7_put4 ∈ zTbl := zmem 874 rfl rfl
set_option maxRecDepth 20000 in
theorem ke_X7_put4 : Cond.selects RX7 yX7_put4 yX7_put4 ∈ zTbl := zmem 23 rfl rfl
set_option maxRecDepth 20000 in
theorem kc_X7_feed : Cond.code yX7_feed cX7_feed 6 (some .int) ∈ zTbl := zmem 868 rfl rfl
abbrev wsX7_feed : List Cond := Cond.code yX7_feed cX7_feed 6 (some .int) :: zTbl
set_option maxRecDepth 20000 in
theorem ki_X7_feed : Cond.instanceMethod yX7_feed ∈ zTbl := zmem 866 rfl rfl
set_option maxRecDepth 20000 in
theorem ke_X7_feed : Cond.selects RX7 yX7_feed yX7_feed ∈ zTbl := zmem 867 rfl rfl
set_option maxRecDepth 20000 in
theorem kc_X7_end : Cond.code yX7_end cX7_end 2 (some .boolean) ∈ zTbl := zmem 879 rfl rfl
abbrev wsX7_end : List Cond := Cond.code yX7_end cX7_end 2 (some .boolean) :: zTbl
set_option maxRecDepth 20000 in
theorem ki_X7_end : Cond.instanceMethod yX7_end ∈ zTbl := zmem 877 rfl rfl
set_option maxRecDepth 20000 in
theorem ke_X7_end : Cond.selects RX7 yX7_end yX7_end ∈ zTbl := zmem 878 rfl rfl
set_option maxRecDepth 20000 in
theorem kc_X7_isSmall : Cond.code yX7_isSmall cX7_isSmall 1 (some .boolean) ∈ zTbl := zmem 894 rfl rfl
abbrev wsX7_isSmall : List Cond := Cond.code yX7_isSmall cX7_isSmall 1 (some .boolean) :: zTbl
set_option maxRecDepth 20000 in
theorem ks_X7_isSmall : Cond.static yX7_isSmall ∈ zTbl := zmem 893 rfl rfl
set_option maxRecDepth 20000 in
theorem kc_X7_isDigit : Cond.code yX7_isDigit cX7_isDigit 1 (some .boolean) ∈ zTbl := zmem 897 rfl rfl
abbrev wsX7_isDigit : List Cond := Cond.code yX7_isDigit cX7_isDigit 1 (some .boolean) :: zTbl
set_option maxRecDepth 20000 in
theorem ks_X7_isDigit : Cond.static yX7_isDigit ∈ zTbl := zmem 896 rfl rfl
set_option maxRecDepth 20000 in
theorem kc_X7_next : Cond.code yX7_next cX7_next 2 none ∈ zTbl := zmem 891 rfl rfl
abbrev wsX7_next : List Cond := Cond.code yX7_next cX7_next 2 none :: zTbl
set_option maxRecDepth 20000 in
theorem ki_X7_next : Cond.instanceMethod yX7_next ∈ zTbl := zmem 890 rfl rfl
set_option maxRecDepth 20000 in
theorem ke_X7_next : Cond.selects RX7 yX7_next yX7_next ∈ zTbl := zmem 25 rfl rfl
set_option maxRecDepth 20000 in
theorem kc_X7_is : Cond.code yX7_is cX7_is 3 (some .boolean) ∈ zTbl := zmem 902 rfl rfl
abbrev wsX7_is : List Cond := Cond.code yX7_is cX7_is 3 (some .boolean) :: zTbl
set_option maxRecDepth 20000 in
theorem ki_X7_is : Cond.instanceMethod yX7_is ∈ zTbl := zmem 901 rfl rfl
set_option maxRecDepth 20000 in
theorem ke_X7_is : Cond.selects RX7 yX7_is yX7_is ∈ zTbl := zmem 26 rfl rfl
set_option maxRecDepth 20000 in
theorem kc_X7_takes : Cond.code yX7_takes cX7_takes 2 (some .boolean) ∈ zTbl := zmem 932 rfl rfl
abbrev wsX7_takes : List Cond := Cond.code yX7_takes cX7_takes 2 (some .boolean) :: zTbl
set_option maxRecDepth 20000 in
theorem ki_X7_takes : Cond.instanceMethod yX7_takes ∈ zTbl := zmem 931 rfl rfl
set_option maxRecDepth 20000 in
theorem ke_X7_takes : Cond.selects RX7 yX7_takes yX7_takes ∈ zTbl := zmem 30 rfl rfl
set_option maxRecDepth 20000 in
theorem kc_X7_one : Cond.code yX7_one cX7_one 4 (some .int) ∈ zTbl := zmem 915 rfl rfl
abbrev wsX7_one : List Cond := Cond.code yX7_one cX7_one 4 (some .int) :: zTbl
set_option maxRecDepth 20000 in
theorem ks_X7_one : Cond.static yX7_one ∈ zTbl := zmem 914 rfl rfl
set_option maxRecDepth 20000 in
theorem kc_X7_name : Cond.code yX7_name cX7_name 2 (some .int) ∈ zTbl := zmem 908 rfl rfl
abbrev wsX7_name : List Cond := Cond.code yX7_name cX7_name 2 (some .int) :: zTbl
set_option maxRecDepth 20000 in
theorem ki_X7_name : Cond.instanceMethod yX7_name ∈ zTbl := zmem 907 rfl rfl
set_option maxRecDepth 20000 in
theorem ke_X7_name : Cond.selects RX7 yX7_name yX7_name ∈ zTbl := zmem 27 rfl rfl
set_option maxRecDepth 20000 in
theorem kc_X7_unit : Cond.code yX7_unit cX7_unit 1 (some .int) ∈ zTbl := zmem 949 rfl rfl
abbrev wsX7_unit : List Cond := Cond.code yX7_unit cX7_unit 1 (some .int) :: zTbl
set_option maxRecDepth 20000 in
theorem ki_X7_unit : Cond.instanceMethod yX7_unit ∈ zTbl := zmem 948 rfl rfl
set_option maxRecDepth 20000 in
theorem ke_X7_unit : Cond.selects RX7 yX7_unit yX7_unit ∈ zTbl := zmem 34 rfl rfl
set_option maxRecDepth 20000 in
theorem kc_X7_number : Cond.code yX7_number cX7_number 3 (some .int) ∈ zTbl := zmem 941 rfl rfl
abbrev wsX7_number : List Cond := Cond.code yX7_number cX7_number 3 (some .int) :: zTbl
set_option maxRecDepth 20000 in
theorem ki_X7_number : Cond.instanceMethod yX7_number ∈ zTbl := zmem 940 rfl rfl
set_option maxRecDepth 20000 in
theorem ke_X7_number : Cond.selects RX7 yX7_number yX7_number ∈ zTbl := zmem 32 rfl rfl
set_option maxRecDepth 20000 in
theorem kc_X7_takesName : Cond.code yX7_takesName cX7_takesName 3 (some .boolean) ∈ zTbl := zmem 927 rfl rfl
abbrev wsX7_takesName : List Cond := Cond.code yX7_takesName cX7_takesName 3 (some .boolean) :: zTbl
set_option maxRecDepth 20000 in
theorem ki_X7_takesName : Cond.instanceMethod yX7_takesName ∈ zTbl := zmem 926 rfl rfl
set_option maxRecDepth 20000 in
theorem ke_X7_takesName : Cond.selects RX7 yX7_takesName yX7_takesName ∈ zTbl := zmem 29 rfl rfl
set_option maxRecDepth 20000 in
theorem kc_X7_takesUnit : Cond.code yX7_takesUnit cX7_takesUnit 1 (some .boolean) ∈ zTbl := zmem 945 rfl rfl
abbrev wsX7_takesUnit : List Cond := Cond.code yX7_takesUnit cX7_takesUnit 1 (some .boolean) :: zTbl
set_option maxRecDepth 20000 in
theorem ki_X7_takesUnit : Cond.instanceMethod yX7_takesUnit ∈ zTbl := zmem 944 rfl rfl
set_option maxRecDepth 20000 in
theorem ke_X7_takesUnit : Cond.selects RX7 yX7_takesUnit yX7_takesUnit ∈ zTbl := zmem 33 rfl rfl
set_option maxRecDepth 20000 in
theorem kc_X7_takesNumber : Cond.code yX7_takesNumber cX7_takesNumber 1 (some .boolean) ∈ zTbl := zmem 937 rfl rfl
abbrev wsX7_takesNumber : List Cond := Cond.code yX7_takesNumber cX7_takesNumber 1 (some .boolean) :: zTbl
set_option maxRecDepth 20000 in
theorem ki_X7_takesNumber : Cond.instanceMethod yX7_takesNumber ∈ zTbl := zmem 936 rfl rfl
set_option maxRecDepth 20000 in
theorem ke_X7_takesNumber : Cond.selects RX7 yX7_takesNumber yX7_takesNumber ∈ zTbl := zmem 31 rfl rfl
set_option maxRecDepth 20000 in
theorem kc_X7_sentence : Cond.code yX7_sentence cX7_sentence 2 (some .boolean) ∈ zTbl := zmem 923 rfl rfl
abbrev wsX7_sentence : List Cond := Cond.code yX7_sentence cX7_sentence 2 (some .boolean) :: zTbl
set_option maxRecDepth 20000 in
theorem ki_X7_sentence : Cond.instanceMethod yX7_sentence ∈ zTbl := zmem 922 rfl rfl
set_option maxRecDepth 20000 in
theorem ke_X7_sentence : Cond.selects RX7 yX7_sentence yX7_sentence ∈ zTbl := zmem 28 rfl rfl
set_option maxRecDepth 20000 in
theorem kc_X7_asks : Cond.code yX7_asks cX7_asks 2 (some .boolean) ∈ zTbl := zmem 972 rfl rfl
abbrev wsX7_asks : List Cond := Cond.code yX7_asks cX7_asks 2 (some .boolean) :: zTbl
set_option maxRecDepth 20000 in
theorem ki_X7_asks : Cond.instanceMethod yX7_asks ∈ zTbl := zmem 971 rfl rfl
set_option maxRecDepth 20000 in
theorem ke_X7_asks : Cond.selects RX7 yX7_asks yX7_asks ∈ zTbl := zmem 35 rfl rfl
set_option maxRecDepth 20000 in
theorem kc_X7_reads : Cond.code yX7_reads cX7_reads 4 (some .int) ∈ zTbl := zmem 887 rfl rfl
abbrev wsX7_reads : List Cond := Cond.code yX7_reads cX7_reads 4 (some .int) :: zTbl
set_option maxRecDepth 20000 in
theorem ki_X7_reads : Cond.instanceMethod yX7_reads ∈ zTbl := zmem 886 rfl rfl
set_option maxRecDepth 20000 in
theorem ke_X7_reads : Cond.selects RX7 yX7_reads yX7_reads ∈ zTbl := zmem 24 rfl rfl
set_option maxRecDepth 20000 in
theorem kc_X7_fault : Cond.code yX7_fault cX7_fault 1 (some .int) ∈ zTbl := zmem 883 rfl rfl
abbrev wsX7_fault : List Cond := Cond.code yX7_fault cX7_fault 1 (some .int) :: zTbl
set_option maxRecDepth 20000 in
theorem ki_X7_fault : Cond.instanceMethod yX7_fault ∈ zTbl := zmem 881 rfl rfl
set_option maxRecDepth 20000 in
theorem ke_X7_fault : Cond.selects RX7 yX7_fault yX7_fault ∈ zTbl := zmem 882 rfl rfl
set_option maxRecDepth 20000 in
theorem kc_X7_tale : Cond.code yX7_tale cX7_tale 2 (some .boolean) ∈ zTbl := zmem 978 rfl rfl
abbrev wsX7_tale : List Cond := Cond.code yX7_tale cX7_tale 2 (some .boolean) :: zTbl
set_option maxRecDepth 20000 in
theorem ki_X7_tale : Cond.instanceMethod yX7_tale ∈ zTbl := zmem 976 rfl rfl
set_option maxRecDepth 20000 in
theorem ke_X7_tale : Cond.selects RX7 yX7_tale yX7_tale ∈ zTbl := zmem 977 rfl rfl
set_option maxRecDepth 20000 in
theorem kc_X7_sentences : Cond.code yX7_sentences cX7_sentences 1 (some .int) ∈ zTbl := zmem 982 rfl rfl
abbrev wsX7_sentences : List Cond := Cond.code yX7_sentences cX7_sentences 1 (some .int) :: zTbl
set_option maxRecDepth 20000 in
theorem ki_X7_sentences : Cond.instanceMethod yX7_sentences ∈ zTbl := zmem 980 rfl rfl
set_option maxRecDepth 20000 in
theorem ke_X7_sentences : Cond.selects RX7 yX7_sentences yX7_sentences ∈ zTbl := zmem 981 rfl rfl
set_option maxRecDepth 20000 in
theorem kc_X7_of : Cond.code yX7_of cX7_of 3 (some .int) ∈ zTbl := zmem 990 rfl rfl
abbrev wsX7_of : List Cond := Cond.code yX7_of cX7_of 3 (some .int) :: zTbl
set_option maxRecDepth 20000 in
theorem ki_X7_of : Cond.instanceMethod yX7_of ∈ zTbl := zmem 989 rfl rfl
set_option maxRecDepth 20000 in
theorem ke_X7_of : Cond.selects RX7 yX7_of yX7_of ∈ zTbl := zmem 36 rfl rfl
set_option maxRecDepth 20000 in
theorem kc_X7_sentence_ : Cond.code yX7_sentence_ cX7_sentence_ 3 (some .int) ∈ zTbl := zmem 986 rfl rfl
abbrev wsX7_sentence_ : List Cond := Cond.code yX7_sentence_ cX7_sentence_ 3 (some .int) :: zTbl
set_option maxRecDepth 20000 in
theorem ki_X7_sentence_ : Cond.instanceMethod yX7_sentence_ ∈ zTbl := zmem 984 rfl rfl
set_option maxRecDepth 20000 in
theorem ke_X7_sentence_ : Cond.selects RX7 yX7_sentence_ yX7_sentence_ ∈ zTbl := zmem 985 rfl rfl
set_option maxRecDepth 20000 in
theorem kc_X7_question : Cond.code yX7_question cX7_question 2 (some .int) ∈ zTbl := zmem 994 rfl rfl
abbrev wsX7_question : List Cond := Cond.code yX7_question cX7_question 2 (some .int) :: zTbl
set_option maxRecDepth 20000 in
theorem ki_X7_question : Cond.instanceMethod yX7_question ∈ zTbl := zmem 992 rfl rfl
set_option maxRecDepth 20000 in
theorem ke_X7_question : Cond.selects RX7 yX7_question yX7_question ∈ zTbl := zmem 993 rfl rfl
set_option maxRecDepth 20000 in
theorem kc_X7_more : Cond.code yX7_more cX7_more 7 (some .int) ∈ zTbl := zmem 1018 rfl rfl
abbrev wsX7_more : List Cond := Cond.code yX7_more cX7_more 7 (some .int) :: zTbl
set_option maxRecDepth 20000 in
theorem ki_X7_more : Cond.instanceMethod yX7_more ∈ zTbl := zmem 1017 rfl rfl
set_option maxRecDepth 20000 in
theorem ke_X7_more : Cond.selects RX7 yX7_more yX7_more ∈ zTbl := zmem 41 rfl rfl
set_option maxRecDepth 20000 in
theorem kc_X7_common : Cond.code yX7_common cX7_common 10 (some .long) ∈ zTbl := zmem 1026 rfl rfl
abbrev wsX7_common : List Cond := Cond.code yX7_common cX7_common 10 (some .long) :: zTbl
set_option maxRecDepth 20000 in
theorem ks_X7_common : Cond.static yX7_common ∈ zTbl := zmem 1025 rfl rfl
set_option maxRecDepth 20000 in
theorem kc_X7_law : Cond.code yX7_law cX7_law 12 none ∈ zTbl := zmem 1014 rfl rfl
abbrev wsX7_law : List Cond := Cond.code yX7_law cX7_law 12 none :: zTbl
set_option maxRecDepth 20000 in
theorem ki_X7_law : Cond.instanceMethod yX7_law ∈ zTbl := zmem 1013 rfl rfl
set_option maxRecDepth 20000 in
theorem ke_X7_law : Cond.selects RX7 yX7_law yX7_law ∈ zTbl := zmem 40 rfl rfl
set_option maxRecDepth 20000 in
theorem kc_X7_adds : Cond.code yX7_adds cX7_adds 9 (some .boolean) ∈ zTbl := zmem 1023 rfl rfl
abbrev wsX7_adds : List Cond := Cond.code yX7_adds cX7_adds 9 (some .boolean) :: zTbl
set_option maxRecDepth 20000 in
theorem ki_X7_adds : Cond.instanceMethod yX7_adds ∈ zTbl := zmem 1022 rfl rfl
set_option maxRecDepth 20000 in
theorem ke_X7_adds : Cond.selects RX7 yX7_adds yX7_adds ∈ zTbl := zmem 42 rfl rfl
set_option maxRecDepth 20000 in
theorem kc_X7_isFact : Cond.code yX7_isFact cX7_isFact 2 (some .boolean) ∈ zTbl := zmem 1006 rfl rfl
abbrev wsX7_isFact : List Cond := Cond.code yX7_isFact cX7_isFact 2 (some .boolean) :: zTbl
set_option maxRecDepth 20000 in
theorem ki_X7_isFact : Cond.instanceMethod yX7_isFact ∈ zTbl := zmem 1005 rfl rfl
set_option maxRecDepth 20000 in
theorem ke_X7_isFact : Cond.selects RX7 yX7_isFact yX7_isFact ∈ zTbl := zmem 38 rfl rfl
set_option maxRecDepth 20000 in
theorem kc_X7_gather : Cond.code yX7_gather cX7_gather 5 (some .boolean) ∈ zTbl := zmem 1010 rfl rfl
abbrev wsX7_gather : List Cond := Cond.code yX7_gather cX7_gather 5 (some .boolean) :: zTbl
set_option maxRecDepth 20000 in
theorem ki_X7_gather : Cond.instanceMethod yX7_gather ∈ zTbl := zmem 1009 rfl rfl
set_option maxRecDepth 20000 in
theorem ke_X7_gather : Cond.selects RX7 yX7_gather yX7_gather ∈ zTbl := zmem 39 rfl rfl
set_option maxRecDepth 20000 in
theorem kc_X7_settles : Cond.code yX7_settles cX7_settles 11 (some .boolean) ∈ zTbl := zmem 1049 rfl rfl
abbrev wsX7_settles : List Cond := Cond.code yX7_settles cX7_settles 11 (some .boolean) :: zTbl
set_option maxRecDepth 20000 in
theorem ki_X7_settles : Cond.instanceMethod yX7_settles ∈ zTbl := zmem 1048 rfl rfl
set_option maxRecDepth 20000 in
theorem ke_X7_settles : Cond.selects RX7 yX7_settles yX7_settles ∈ zTbl := zmem 46 rfl rfl
set_option maxRecDepth 20000 in
theorem kc_X7_part : Cond.code yX7_part cX7_part 4 (some .long) ∈ zTbl := zmem 1054 rfl rfl
abbrev wsX7_part : List Cond := Cond.code yX7_part cX7_part 4 (some .long) :: zTbl
set_option maxRecDepth 20000 in
theorem ki_X7_part : Cond.instanceMethod yX7_part ∈ zTbl := zmem 1053 rfl rfl
set_option maxRecDepth 20000 in
theorem ke_X7_part : Cond.selects RX7 yX7_part yX7_part ∈ zTbl := zmem 47 rfl rfl
set_option maxRecDepth 20000 in
theorem kc_X7_all : Cond.code yX7_all cX7_all 1 (some .int) ∈ zTbl := zmem 1041 rfl rfl
abbrev wsX7_all : List Cond := Cond.code yX7_all cX7_all 1 (some .int) :: zTbl
set_option maxRecDepth 20000 in
theorem ki_X7_all : Cond.instanceMethod yX7_all ∈ zTbl := zmem 1040 rfl rfl
set_option maxRecDepth 20000 in
theorem ke_X7_all : Cond.selects RX7 yX7_all yX7_all ∈ zTbl := zmem 44 rfl rfl
set_option maxRecDepth 20000 in
theorem kc_X7_quarrelAt : Cond.code yX7_quarrelAt cX7_quarrelAt 2 (some .int) ∈ zTbl := zmem 1002 rfl rfl
abbrev wsX7_quarrelAt : List Cond := Cond.code yX7_quarrelAt cX7_quarrelAt 2 (some .int) :: zTbl
set_option maxRecDepth 20000 in
theorem ki_X7_quarrelAt : Cond.instanceMethod yX7_quarrelAt ∈ zTbl := zmem 1001 rfl rfl
set_option maxRecDepth 20000 in
theorem ke_X7_quarrelAt : Cond.selects RX7 yX7_quarrelAt yX7_quarrelAt ∈ zTbl := zmem 37 rfl rfl
set_option maxRecDepth 20000 in
theorem kc_X7_quarrel : Cond.code yX7_quarrel cX7_quarrel 1 (some .int) ∈ zTbl := zmem 998 rfl rfl
abbrev wsX7_quarrel : List Cond := Cond.code yX7_quarrel cX7_quarrel 1 (some .int) :: zTbl
set_option maxRecDepth 20000 in
theorem ki_X7_quarrel : Cond.instanceMethod yX7_quarrel ∈ zTbl := zmem 996 rfl rfl
set_option maxRecDepth 20000 in
theorem ke_X7_quarrel : Cond.selects RX7 yX7_quarrel yX7_quarrel ∈ zTbl := zmem 997 rfl rfl
set_option maxRecDepth 20000 in
theorem kc_X7_answersBy : Cond.code yX7_answersBy cX7_answersBy 2 (some .boolean) ∈ zTbl := zmem 1045 rfl rfl
abbrev wsX7_answersBy : List Cond := Cond.code yX7_answersBy cX7_answersBy 2 (some .boolean) :: zTbl
set_option maxRecDepth 20000 in
theorem ki_X7_answersBy : Cond.instanceMethod yX7_answersBy ∈ zTbl := zmem 1044 rfl rfl
set_option maxRecDepth 20000 in
theorem ke_X7_answersBy : Cond.selects RX7 yX7_answersBy yX7_answersBy ∈ zTbl := zmem 45 rfl rfl
set_option maxRecDepth 20000 in
theorem kc_X7_hasAnswer : Cond.code yX7_hasAnswer cX7_hasAnswer 1 (some .boolean) ∈ zTbl := zmem 1037 rfl rfl
abbrev wsX7_hasAnswer : List Cond := Cond.code yX7_hasAnswer cX7_hasAnswer 1 (some .boolean) :: zTbl
set_option maxRecDepth 20000 in
theorem ki_X7_hasAnswer : Cond.instanceMethod yX7_hasAnswer ∈ zTbl := zmem 1036 rfl rfl
set_option maxRecDepth 20000 in
theorem ke_X7_hasAnswer : Cond.selects RX7 yX7_hasAnswer yX7_hasAnswer ∈ zTbl := zmem 43 rfl rfl
set_option maxRecDepth 20000 in
theorem kc_X7_answer : Cond.code yX7_answer cX7_answer 2 (some .long) ∈ zTbl := zmem 1033 rfl rfl
abbrev wsX7_answer : List Cond := Cond.code yX7_answer cX7_answer 2 (some .long) :: zTbl
set_option maxRecDepth 20000 in
theorem ki_X7_answer : Cond.instanceMethod yX7_answer ∈ zTbl := zmem 1031 rfl rfl
set_option maxRecDepth 20000 in
theorem ke_X7_answer : Cond.selects RX7 yX7_answer yX7_answer ∈ zTbl := zmem 1032 rfl rfl
set_option maxRecDepth 20000 in
theorem kc_X7_stages : Cond.code yX7_stages cX7_stages 3 (some .int) ∈ zTbl := zmem 1062 rfl rfl
abbrev wsX7_stages : List Cond := Cond.code yX7_stages cX7_stages 3 (some .int) :: zTbl
set_option maxRecDepth 20000 in
theorem ki_X7_stages : Cond.instanceMethod yX7_stages ∈ zTbl := zmem 1061 rfl rfl
set_option maxRecDepth 20000 in
theorem ke_X7_stages : Cond.selects RX7 yX7_stages yX7_stages ∈ zTbl := zmem 48 rfl rfl
set_option maxRecDepth 20000 in
theorem kc_X7_amounts : Cond.code yX7_amounts cX7_amounts 4 (some .boolean) ∈ zTbl := zmem 1066 rfl rfl
abbrev wsX7_amounts : List Cond := Cond.code yX7_amounts cX7_amounts 4 (some .boolean) :: zTbl
set_option maxRecDepth 20000 in
theorem ki_X7_amounts : Cond.instanceMethod yX7_amounts ∈ zTbl := zmem 1065 rfl rfl
set_option maxRecDepth 20000 in
theorem ke_X7_amounts : Cond.selects RX7 yX7_amounts yX7_amounts ∈ zTbl := zmem 49 rfl rfl
set_option maxRecDepth 20000 in
theorem kc_X7_amount : Cond.code yX7_amount cX7_amount 5 (some .long) ∈ zTbl := zmem 1058 rfl rfl
abbrev wsX7_amount : List Cond := Cond.code yX7_amount cX7_amount 5 (some .long) :: zTbl
set_option maxRecDepth 20000 in
theorem ki_X7_amount : Cond.instanceMethod yX7_amount ∈ zTbl := zmem 1056 rfl rfl
set_option maxRecDepth 20000 in
theorem ke_X7_amount : Cond.selects RX7 yX7_amount yX7_amount ∈ zTbl := zmem 1057 rfl rfl
set_option maxRecDepth 20000 in
theorem kc_X7_idle : Cond.code yX7_idle cX7_idle 3 (some .int) ∈ zTbl := zmem 1070 rfl rfl
abbrev wsX7_idle : List Cond := Cond.code yX7_idle cX7_idle 3 (some .int) :: zTbl
set_option maxRecDepth 20000 in
theorem ki_X7_idle : Cond.instanceMethod yX7_idle ∈ zTbl := zmem 1068 rfl rfl
end
section
set_option maxRecDepth 20000 in
theorem ke_X7_idle : Cond.selects RX7 yX7_idle yX7_idle ∈ zTbl := zmem 1069 rfl rfl
set_option maxRecDepth 20000 in
theorem kc_X7_facts : Cond.code yX7_facts cX7_facts 3 (some .int) ∈ zTbl := zmem 1078 rfl rfl
abbrev wsX7_facts : List Cond := Cond.code yX7_facts cX7_facts 3 (some .int) :: zTbl
set_option maxRecDepth 20000 in
theorem ki_X7_facts : Cond.instanceMethod yX7_facts ∈ zTbl := zmem 1077 rfl rfl
set_option maxRecDepth 20000 in
theorem ke_X7_facts : Cond.selects RX7 yX7_facts yX7_facts ∈ zTbl := zmem 50 rfl rfl
set_option maxRecDepth 20000 in
theorem kc_X7_enough : Cond.code yX7_enough cX7_enough 3 (some .int) ∈ zTbl := zmem 1074 rfl rfl
abbrev wsX7_enough : List Cond := Cond.code yX7_enough cX7_enough 3 (some .int) :: zTbl
set_option maxRecDepth 20000 in
theorem ki_X7_enough : Cond.instanceMethod yX7_enough ∈ zTbl := zmem 1072 rfl rfl
set_option maxRecDepth 20000 in
theorem ke_X7_enough : Cond.selects RX7 yX7_enough yX7_enough ∈ zTbl := zmem 1073 rfl rfl
set_option maxRecDepth 20000 in
theorem kc_X7_lacking : Cond.code yX7_lacking cX7_lacking 4 (some .int) ∈ zTbl := zmem 1083 rfl rfl
abbrev wsX7_lacking : List Cond := Cond.code yX7_lacking cX7_lacking 4 (some .int) :: zTbl
set_option maxRecDepth 20000 in
theorem ki_X7_lacking : Cond.instanceMethod yX7_lacking ∈ zTbl := zmem 1081 rfl rfl
set_option maxRecDepth 20000 in
theorem ke_X7_lacking : Cond.selects RX7 yX7_lacking yX7_lacking ∈ zTbl := zmem 1082 rfl rfl
set_option maxRecDepth 20000 in
theorem kc_X7_strange : Cond.code yX7_strange cX7_strange 5 (some .int) ∈ zTbl := zmem 1087 rfl rfl
abbrev wsX7_strange : List Cond := Cond.code yX7_strange cX7_strange 5 (some .int) :: zTbl
set_option maxRecDepth 20000 in
theorem ki_X7_strange : Cond.instanceMethod yX7_strange ∈ zTbl := zmem 1085 rfl rfl
set_option maxRecDepth 20000 in
theorem ke_X7_strange : Cond.selects RX7 yX7_strange yX7_strange ∈ zTbl := zmem 1086 rfl rfl
set_option maxRecDepth 20000 in
theorem kc_X7_put : Cond.code yX7_put cX7_put 4 (some .boolean) ∈ zTbl := zmem 1091 rfl rfl
abbrev wsX7_put : List Cond := Cond.code yX7_put cX7_put 4 (some .boolean) :: zTbl
set_option maxRecDepth 20000 in
theorem ki_X7_put : Cond.instanceMethod yX7_put ∈ zTbl := zmem 1089 rfl rfl
set_option maxRecDepth 20000 in
theorem ke_X7_put : Cond.selects RX7 yX7_put yX7_put ∈ zTbl := zmem 1090 rfl rfl
set_option maxRecDepth 20000 in
theorem kc_X7_undo : Cond.code yX7_undo cX7_undo 1 (some .int) ∈ zTbl := zmem 1095 rfl rfl
abbrev wsX7_undo : List Cond := Cond.code yX7_undo cX7_undo 1 (some .int) :: zTbl
set_option maxRecDepth 20000 in
theorem ki_X7_undo : Cond.instanceMethod yX7_undo ∈ zTbl := zmem 1093 rfl rfl
set_option maxRecDepth 20000 in
theorem ke_X7_undo : Cond.selects RX7 yX7_undo yX7_undo ∈ zTbl := zmem 1094 rfl rfl
set_option maxRecDepth 20000 in
theorem kc_X7_count : Cond.code yX7_count cX7_count 5 (some .int) ∈ zTbl := zmem 1099 rfl rfl
abbrev wsX7_count : List Cond := Cond.code yX7_count cX7_count 5 (some .int) :: zTbl
set_option maxRecDepth 20000 in
theorem ki_X7_count : Cond.instanceMethod yX7_count ∈ zTbl := zmem 1097 rfl rfl
set_option maxRecDepth 20000 in
theorem ke_X7_count : Cond.selects RX7 yX7_count yX7_count ∈ zTbl := zmem 1098 rfl rfl
set_option maxRecDepth 20000 in
theorem kc_J6_bitCount_0f7a4 : Cond.code yJ6_bitCount_0f7a4 cJ6_bitCount_0f7a4 1 (some .int) ∈ zTbl := zmem 619 rfl rfl
abbrev wsJ6_bitCount_0f7a4 : List Cond := Cond.code yJ6_bitCount_0f7a4 cJ6_bitCount_0f7a4 1 (some .int) :: zTbl
set_option maxRecDepth 20000 in
theorem ks_J6_bitCount_0f7a4 : Cond.static yJ6_bitCount_0f7a4 ∈ zTbl := zmem 618 rfl rfl
set_option maxRecDepth 20000 in
theorem kc_J9_abs_067f4 : Cond.code yJ9_abs_067f4 cJ9_abs_067f4 2 (some .long) ∈ zTbl := zmem 1029 rfl rfl
abbrev wsJ9_abs_067f4 : List Cond := Cond.code yJ9_abs_067f4 cJ9_abs_067f4 2 (some .long) :: zTbl
set_option maxRecDepth 20000 in
theorem ks_J9_abs_067f4 : Cond.static yJ9_abs_067f4 ∈ zTbl := zmem 1028 rfl rfl
set_option maxRecDepth 20000 in
theorem kc_J0_length_8abf5 : Cond.code yJ0_length_8abf5 cJ0_length_8abf5 1 (some .int) ∈ zTbl := zmem 298 rfl rfl
abbrev wsJ0_length_8abf5 : List Cond := Cond.code yJ0_length_8abf5 cJ0_length_8abf5 1 (some .int) :: zTbl
set_option maxRecDepth 20000 in
theorem ki_J0_length_8abf5 : Cond.instanceMethod yJ0_length_8abf5 ∈ zTbl := zmem 296 rfl rfl
set_option maxRecDepth 20000 in
theorem ke_J0_length_8abf5 : Cond.selects RJ0 yJ0_length_8abf5 yJ0_length_8abf5 ∈ zTbl := zmem 297 rfl rfl
set_option maxRecDepth 20000 in
theorem kc_J0_charAt_5068e : Cond.code yJ0_charAt_5068e cJ0_charAt_5068e 2 (some .char) ∈ zTbl := zmem 312 rfl rfl
abbrev wsJ0_charAt_5068e : List Cond := Cond.code yJ0_charAt_5068e cJ0_charAt_5068e 2 (some .char) :: zTbl
set_option maxRecDepth 20000 in
theorem ki_J0_charAt_5068e : Cond.instanceMethod yJ0_charAt_5068e ∈ zTbl := zmem 310 rfl rfl
set_option maxRecDepth 20000 in
theorem ke_J0_charAt_5068e : Cond.selects RJ0 yJ0_charAt_5068e yJ0_charAt_5068e ∈ zTbl := zmem 311 rfl rfl
set_option maxRecDepth 20000 in
theorem kc_J0_coder_7d493 : Cond.code yJ0_coder_7d493 cJ0_coder_7d493 1 (some .byte) ∈ zTbl := zmem 302 rfl rfl
abbrev wsJ0_coder_7d493 : List Cond := Cond.code yJ0_coder_7d493 cJ0_coder_7d493 1 (some .byte) :: zTbl
set_option maxRecDepth 20000 in
theorem ki_J0_coder_7d493 : Cond.instanceMethod yJ0_coder_7d493 ∈ zTbl := zmem 300 rfl rfl
set_option maxRecDepth 20000 in
theorem ke_J0_coder_7d493 : Cond.selects RJ0 yJ0_coder_7d493 yJ0_coder_7d493 ∈ zTbl := zmem 301 rfl rfl
set_option maxRecDepth 20000 in
theorem kc_J0_isLatin1_aae02 : Cond.code yJ0_isLatin1_aae02 cJ0_isLatin1_aae02 1 (some .boolean) ∈ zTbl := zmem 316 rfl rfl
abbrev wsJ0_isLatin1_aae02 : List Cond := Cond.code yJ0_isLatin1_aae02 cJ0_isLatin1_aae02 1 (some .boolean) :: zTbl
set_option maxRecDepth 20000 in
theorem ki_J0_isLatin1_aae02 : Cond.instanceMethod yJ0_isLatin1_aae02 ∈ zTbl := zmem 314 rfl rfl
set_option maxRecDepth 20000 in
theorem ke_J0_isLatin1_aae02 : Cond.selects RJ0 yJ0_isLatin1_aae02 yJ0_isLatin1_aae02 ∈ zTbl := zmem 315 rfl rfl
set_option maxRecDepth 20000 in
theorem kc_J0_checkIndex_df160 : Cond.code yJ0_checkIndex_df160 cJ0_checkIndex_df160 2 none ∈ zTbl := zmem 322 rfl rfl
abbrev wsJ0_checkIndex_df160 : List Cond := Cond.code yJ0_checkIndex_df160 cJ0_checkIndex_df160 2 none :: zTbl
set_option maxRecDepth 20000 in
theorem ks_J0_checkIndex_df160 : Cond.static yJ0_checkIndex_df160 ∈ zTbl := zmem 321 rfl rfl
set_option maxRecDepth 20000 in
theorem kc_J1_charAt_3b067 : Cond.code yJ1_charAt_3b067 cJ1_charAt_3b067 2 (some .char) ∈ zTbl := zmem 319 rfl rfl
abbrev wsJ1_charAt_3b067 : List Cond := Cond.code yJ1_charAt_3b067 cJ1_charAt_3b067 2 (some .char) :: zTbl
set_option maxRecDepth 20000 in
theorem ks_J1_charAt_3b067 : Cond.static yJ1_charAt_3b067 ∈ zTbl := zmem 318 rfl rfl
set_option maxRecDepth 20000 in
theorem kc_J2_getChar_3b067 : Cond.code yJ2_getChar_3b067 cJ2_getChar_3b067 2 (some .char) ∈ zTbl := zmem 340 rfl rfl
abbrev wsJ2_getChar_3b067 : List Cond := Cond.code yJ2_getChar_3b067 cJ2_getChar_3b067 2 (some .char) :: zTbl
set_option maxRecDepth 20000 in
theorem ks_J2_getChar_3b067 : Cond.static yJ2_getChar_3b067 ∈ zTbl := zmem 339 rfl rfl
set_option maxRecDepth 20000 in
theorem kc_J2_length_9d52b : Cond.code yJ2_length_9d52b cJ2_length_9d52b 1 (some .int) ∈ zTbl := zmem 336 rfl rfl
abbrev wsJ2_length_9d52b : List Cond := Cond.code yJ2_length_9d52b cJ2_length_9d52b 1 (some .int) :: zTbl
set_option maxRecDepth 20000 in
theorem ks_J2_length_9d52b : Cond.static yJ2_length_9d52b ∈ zTbl := zmem 335 rfl rfl
set_option maxRecDepth 20000 in
theorem kc_J2_charAt_3b067 : Cond.code yJ2_charAt_3b067 cJ2_charAt_3b067 2 (some .char) ∈ zTbl := zmem 330 rfl rfl
abbrev wsJ2_charAt_3b067 : List Cond := Cond.code yJ2_charAt_3b067 cJ2_charAt_3b067 2 (some .char) :: zTbl
set_option maxRecDepth 20000 in
theorem ks_J2_charAt_3b067 : Cond.static yJ2_charAt_3b067 ∈ zTbl := zmem 329 rfl rfl
set_option maxRecDepth 20000 in
theorem kc_J2_checkIndex_2214a : Cond.code yJ2_checkIndex_2214a cJ2_checkIndex_2214a 2 none ∈ zTbl := zmem 333 rfl rfl
abbrev wsJ2_checkIndex_2214a : List Cond := Cond.code yJ2_checkIndex_2214a cJ2_checkIndex_2214a 2 none :: zTbl
set_option maxRecDepth 20000 in
theorem ks_J2_checkIndex_2214a : Cond.static yJ2_checkIndex_2214a ∈ zTbl := zmem 332 rfl rfl
set_option maxRecDepth 20000 in
theorem kc_J7_fill_d0a16 : Cond.code yJ7_fill_d0a16 cJ7_fill_d0a16 5 none ∈ zTbl := zmem 449 rfl rfl
abbrev wsJ7_fill_d0a16 : List Cond := Cond.code yJ7_fill_d0a16 cJ7_fill_d0a16 5 none :: zTbl
set_option maxRecDepth 20000 in
theorem ks_J7_fill_d0a16 : Cond.static yJ7_fill_d0a16 ∈ zTbl := zmem 448 rfl rfl
set_option maxRecDepth 20000 in
theorem kc_J3_checkIndex_8e157 : Cond.code yJ3_checkIndex_8e157 cJ3_checkIndex_8e157 3 (some .int) ∈ zTbl := zmem 327 rfl rfl
abbrev wsJ3_checkIndex_8e157 : List Cond := Cond.code yJ3_checkIndex_8e157 cJ3_checkIndex_8e157 3 (some .int) :: zTbl
set_option maxRecDepth 20000 in
theorem ks_J3_checkIndex_8e157 : Cond.static yJ3_checkIndex_8e157 ∈ zTbl := zmem 326 rfl rfl
set_option maxRecDepth 20000 in
theorem kf_RJ0_9 : Cond.fieldLink RJ0 9 "java/lang/String" "value" "[B" ∈ zTbl := zmem 1112 rfl rfl
set_option maxRecDepth 20000 in
theorem kf_RJ0_15 : Cond.fieldLink RJ0 15 "java/lang/String" "coder" "B" ∈ zTbl := zmem 1113 rfl rfl
set_option maxRecDepth 20000 in
theorem kf_RJ0_38 : Cond.fieldLink RJ0 38 "java/lang/String" "COMPACT_STRINGS" "Z" ∈ zTbl := zmem 303 rfl rfl
set_option maxRecDepth 20000 in
theorem kf_RJ0_1053 : Cond.fieldLink RJ0 1053 "jdk/internal/util/Preconditions" "SIOOBE_FORMATTER" "Ljava/util/function/BiFunction;" ∈ zTbl := zmem 323 rfl rfl
set_option maxRecDepth 20000 in
theorem kf_RJ2_44 : Cond.fieldLink RJ2 44 "java/lang/StringUTF16" "$assertionsDisabled" "Z" ∈ zTbl := zmem 341 rfl rfl
set_option maxRecDepth 20000 in
theorem kf_RJ2_59 : Cond.fieldLink RJ2 59 "java/lang/StringUTF16" "HI_BYTE_SHIFT" "I" ∈ zTbl := zmem 343 rfl rfl
set_option maxRecDepth 20000 in
theorem kf_RJ2_63 : Cond.fieldLink RJ2 63 "java/lang/StringUTF16" "LO_BYTE_SHIFT" "I" ∈ zTbl := zmem 345 rfl rfl
set_option maxRecDepth 20000 in
theorem kf_RX0_9 : Cond.fieldLink RX0 9 (TX0 0).1 (TX0 0).2.1 (TX0 0).2.2.1 ∈ zTbl := zmem 116 rfl rfl
set_option maxRecDepth 20000 in
theorem kf_RX0_15 : Cond.fieldLink RX0 15 (TX0 1).1 (TX0 1).2.1 (TX0 1).2.2.1 ∈ zTbl := zmem 117 rfl rfl
set_option maxRecDepth 20000 in
theorem kf_RX0_18 : Cond.fieldLink RX0 18 (TX0 2).1 (TX0 2).2.1 (TX0 2).2.2.1 ∈ zTbl := zmem 118 rfl rfl
set_option maxRecDepth 20000 in
theorem kf_RX1_11 : Cond.fieldLink RX1 11 (TX1 0).1 (TX1 0).2.1 (TX1 0).2.2.1 ∈ zTbl := zmem 168 rfl rfl
set_option maxRecDepth 20000 in
theorem kf_RX1_16 : Cond.fieldLink RX1 16 (TX1 1).1 (TX1 1).2.1 (TX1 1).2.2.1 ∈ zTbl := zmem 169 rfl rfl
set_option maxRecDepth 20000 in
theorem kf_RX2_9 : Cond.fieldLink RX2 9 (TX2 0).1 (TX2 0).2.1 (TX2 0).2.2.1 ∈ zTbl := zmem 106 rfl rfl
set_option maxRecDepth 20000 in
theorem kf_RX3_11 : Cond.fieldLink RX3 11 (TX3 0).1 (TX3 0).2.1 (TX3 0).2.2.1 ∈ zTbl := zmem 134 rfl rfl
set_option maxRecDepth 20000 in
theorem kf_RX3_16 : Cond.fieldLink RX3 16 (TX3 1).1 (TX3 1).2.1 (TX3 1).2.2.1 ∈ zTbl := zmem 135 rfl rfl
set_option maxRecDepth 20000 in
theorem kf_RX3_20 : Cond.fieldLink RX3 20 (TX3 2).1 (TX3 2).2.1 (TX3 2).2.2.1 ∈ zTbl := zmem 136 rfl rfl
set_option maxRecDepth 20000 in
theorem kf_RX3_24 : Cond.fieldLink RX3 24 (TX3 3).1 (TX3 3).2.1 (TX3 3).2.2.1 ∈ zTbl := zmem 137 rfl rfl
set_option maxRecDepth 20000 in
theorem kf_RX3_27 : Cond.fieldLink RX3 27 (TX3 4).1 (TX3 4).2.1 (TX3 4).2.2.1 ∈ zTbl := zmem 138 rfl rfl
set_option maxRecDepth 20000 in
theorem kf_RX3_30 : Cond.fieldLink RX3 30 (TX3 5).1 (TX3 5).2.1 (TX3 5).2.2.1 ∈ zTbl := zmem 139 rfl rfl
set_option maxRecDepth 20000 in
theorem kf_RX4_11 : Cond.fieldLink RX4 11 (TX4 0).1 (TX4 0).2.1 (TX4 0).2.2.1 ∈ zTbl := zmem 178 rfl rfl
set_option maxRecDepth 20000 in
theorem kf_RX4_18 : Cond.fieldLink RX4 18 (TX4 1).1 (TX4 1).2.1 (TX4 1).2.2.1 ∈ zTbl := zmem 179 rfl rfl
set_option maxRecDepth 20000 in
theorem kf_RX4_24 : Cond.fieldLink RX4 24 (TX4 2).1 (TX4 2).2.1 (TX4 2).2.2.1 ∈ zTbl := zmem 180 rfl rfl
set_option maxRecDepth 20000 in
theorem kf_RX4_27 : Cond.fieldLink RX4 27 (TX4 3).1 (TX4 3).2.1 (TX4 3).2.2.1 ∈ zTbl := zmem 181 rfl rfl
set_option maxRecDepth 20000 in
theorem kf_RX4_31 : Cond.fieldLink RX4 31 (TX4 4).1 (TX4 4).2.1 (TX4 4).2.2.1 ∈ zTbl := zmem 182 rfl rfl
set_option maxRecDepth 20000 in
theorem kf_RX4_34 : Cond.fieldLink RX4 34 (TX4 5).1 (TX4 5).2.1 (TX4 5).2.2.1 ∈ zTbl := zmem 183 rfl rfl
set_option maxRecDepth 20000 in
theorem kf_RX4_37 : Cond.fieldLink RX4 37 (TX4 6).1 (TX4 6).2.1 (TX4 6).2.2.1 ∈ zTbl := zmem 184 rfl rfl
set_option maxRecDepth 20000 in
theorem kf_RX4_40 : Cond.fieldLink RX4 40 (TX4 7).1 (TX4 7).2.1 (TX4 7).2.2.1 ∈ zTbl := zmem 185 rfl rfl
set_option maxRecDepth 20000 in
theorem kf_RX4_43 : Cond.fieldLink RX4 43 (TX4 9).1 (TX4 9).2.1 (TX4 9).2.2.1 ∈ zTbl := zmem 187 rfl rfl
set_option maxRecDepth 20000 in
theorem kf_RX4_47 : Cond.fieldLink RX4 47 (TX4 10).1 (TX4 10).2.1 (TX4 10).2.2.1 ∈ zTbl := zmem 188 rfl rfl
set_option maxRecDepth 20000 in
theorem kf_RX4_51 : Cond.fieldLink RX4 51 (TX4 11).1 (TX4 11).2.1 (TX4 11).2.2.1 ∈ zTbl := zmem 189 rfl rfl
set_option maxRecDepth 20000 in
theorem kf_RX4_54 : Cond.fieldLink RX4 54 (TX4 12).1 (TX4 12).2.1 (TX4 12).2.2.1 ∈ zTbl := zmem 190 rfl rfl
set_option maxRecDepth 20000 in
theorem kf_RX4_57 : Cond.fieldLink RX4 57 (TX4 13).1 (TX4 13).2.1 (TX4 13).2.2.1 ∈ zTbl := zmem 191 rfl rfl
set_option maxRecDepth 20000 in
theorem kf_RX4_60 : Cond.fieldLink RX4 60 (TX4 8).1 (TX4 8).2.1 (TX4 8).2.2.1 ∈ zTbl := zmem 186 rfl rfl
set_option maxRecDepth 20000 in
theorem kf_RX5_9 : Cond.fieldLink RX5 9 (TX5 0).1 (TX5 0).2.1 (TX5 0).2.2.1 ∈ zTbl := zmem 86 rfl rfl
set_option maxRecDepth 20000 in
theorem kf_RX5_15 : Cond.fieldLink RX5 15 (TX5 1).1 (TX5 1).2.1 (TX5 1).2.2.1 ∈ zTbl := zmem 87 rfl rfl
set_option maxRecDepth 20000 in
theorem kf_RX5_19 : Cond.fieldLink RX5 19 (TX5 2).1 (TX5 2).2.1 (TX5 2).2.2.1 ∈ zTbl := zmem 88 rfl rfl
set_option maxRecDepth 20000 in
theorem kf_RX5_22 : Cond.fieldLink RX5 22 (TX5 3).1 (TX5 3).2.1 (TX5 3).2.2.1 ∈ zTbl := zmem 89 rfl rfl
set_option maxRecDepth 20000 in
theorem kf_RX6_12 : Cond.fieldLink RX6 12 (TX6 0).1 (TX6 0).2.1 (TX6 0).2.2.1 ∈ zTbl := zmem 221 rfl rfl
set_option maxRecDepth 20000 in
theorem kf_RX6_21 : Cond.fieldLink RX6 21 (TX6 1).1 (TX6 1).2.1 (TX6 1).2.2.1 ∈ zTbl := zmem 222 rfl rfl
set_option maxRecDepth 20000 in
theorem kf_RX6_28 : Cond.fieldLink RX6 28 (TX6 2).1 (TX6 2).2.1 (TX6 2).2.2.1 ∈ zTbl := zmem 223 rfl rfl
set_option maxRecDepth 20000 in
theorem kf_RX6_35 : Cond.fieldLink RX6 35 (TX6 4).1 (TX6 4).2.1 (TX6 4).2.2.1 ∈ zTbl := zmem 225 rfl rfl
set_option maxRecDepth 20000 in
theorem kf_RX6_39 : Cond.fieldLink RX6 39 (TX6 5).1 (TX6 5).2.1 (TX6 5).2.2.1 ∈ zTbl := zmem 226 rfl rfl
set_option maxRecDepth 20000 in
theorem kf_RX6_47 : Cond.fieldLink RX6 47 (TX6 3).1 (TX6 3).2.1 (TX6 3).2.2.1 ∈ zTbl := zmem 224 rfl rfl
set_option maxRecDepth 20000 in
theorem kf_RX7_9 : Cond.fieldLink RX7 9 (TX7 1).1 (TX7 1).2.1 (TX7 1).2.2.1 ∈ zTbl := zmem 780 rfl rfl
set_option maxRecDepth 20000 in
theorem kf_RX7_13 : Cond.fieldLink RX7 13 (TX7 3).1 (TX7 3).2.1 (TX7 3).2.2.1 ∈ zTbl := zmem 782 rfl rfl
set_option maxRecDepth 20000 in
theorem kf_RX7_17 : Cond.fieldLink RX7 17 (TX7 4).1 (TX7 4).2.1 (TX7 4).2.2.1 ∈ zTbl := zmem 783 rfl rfl
set_option maxRecDepth 20000 in
theorem kf_RX7_20 : Cond.fieldLink RX7 20 (TX7 5).1 (TX7 5).2.1 (TX7 5).2.2.1 ∈ zTbl := zmem 784 rfl rfl
set_option maxRecDepth 20000 in
theorem kf_RX7_23 : Cond.fieldLink RX7 23 (TX7 6).1 (TX7 6).2.1 (TX7 6).2.2.1 ∈ zTbl := zmem 785 rfl rfl
set_option maxRecDepth 20000 in
theorem kf_RX7_26 : Cond.fieldLink RX7 26 (TX7 10).1 (TX7 10).2.1 (TX7 10).2.2.1 ∈ zTbl := zmem 789 rfl rfl
set_option maxRecDepth 20000 in
theorem kf_RX7_29 : Cond.fieldLink RX7 29 (TX7 11).1 (TX7 11).2.1 (TX7 11).2.2.1 ∈ zTbl := zmem 790 rfl rfl
set_option maxRecDepth 20000 in
theorem kf_RX7_32 : Cond.fieldLink RX7 32 (TX7 21).1 (TX7 21).2.1 (TX7 21).2.2.1 ∈ zTbl := zmem 800 rfl rfl
set_option maxRecDepth 20000 in
theorem kf_RX7_36 : Cond.fieldLink RX7 36 (TX7 22).1 (TX7 22).2.1 (TX7 22).2.2.1 ∈ zTbl := zmem 801 rfl rfl
set_option maxRecDepth 20000 in
theorem kf_RX7_39 : Cond.fieldLink RX7 39 (TX7 23).1 (TX7 23).2.1 (TX7 23).2.2.1 ∈ zTbl := zmem 802 rfl rfl
set_option maxRecDepth 20000 in
theorem kf_RX7_42 : Cond.fieldLink RX7 42 (TX7 0).1 (TX7 0).2.1 (TX7 0).2.2.1 ∈ zTbl := zmem 779 rfl rfl
set_option maxRecDepth 20000 in
theorem kf_RX7_46 : Cond.fieldLink RX7 46 (TX7 2).1 (TX7 2).2.1 (TX7 2).2.2.1 ∈ zTbl := zmem 781 rfl rfl
set_option maxRecDepth 20000 in
theorem kf_RX7_57 : Cond.fieldLink RX7 57 (TX7 14).1 (TX7 14).2.1 (TX7 14).2.2.1 ∈ zTbl := zmem 793 rfl rfl
set_option maxRecDepth 20000 in
theorem kf_RX7_60 : Cond.fieldLink RX7 60 (TX7 13).1 (TX7 13).2.1 (TX7 13).2.2.1 ∈ zTbl := zmem 792 rfl rfl
set_option maxRecDepth 20000 in
theorem kf_RX7_117 : Cond.fieldLink RX7 117 (TX7 16).1 (TX7 16).2.1 (TX7 16).2.2.1 ∈ zTbl := zmem 795 rfl rfl
set_option maxRecDepth 20000 in
theorem kf_RX7_120 : Cond.fieldLink RX7 120 (TX7 17).1 (TX7 17).2.1 (TX7 17).2.2.1 ∈ zTbl := zmem 796 rfl rfl
set_option maxRecDepth 20000 in
theorem kf_RX7_126 : Cond.fieldLink RX7 126 (TX7 18).1 (TX7 18).2.1 (TX7 18).2.2.1 ∈ zTbl := zmem 797 rfl rfl
set_option maxRecDepth 20000 in
theorem kf_RX7_132 : Cond.fieldLink RX7 132 (TX7 19).1 (TX7 19).2.1 (TX7 19).2.2.1 ∈ zTbl := zmem 798 rfl rfl
set_option maxRecDepth 20000 in
theorem kf_RX7_144 : Cond.fieldLink RX7 144 (TX7 15).1 (TX7 15).2.1 (TX7 15).2.2.1 ∈ zTbl := zmem 794 rfl rfl
set_option maxRecDepth 20000 in
theorem kf_RX7_190 : Cond.fieldLink RX7 190 (TX7 20).1 (TX7 20).2.1 (TX7 20).2.2.1 ∈ zTbl := zmem 799 rfl rfl
set_option maxRecDepth 20000 in
theorem kf_RX7_193 : Cond.fieldLink RX7 193 (TX7 8).1 (TX7 8).2.1 (TX7 8).2.2.1 ∈ zTbl := zmem 787 rfl rfl
set_option maxRecDepth 20000 in
theorem kf_RX7_205 : Cond.fieldLink RX7 205 (TX7 7).1 (TX7 7).2.1 (TX7 7).2.2.1 ∈ zTbl := zmem 786 rfl rfl
set_option maxRecDepth 20000 in
theorem kf_RX7_207 : Cond.fieldLink RX7 207 (TX7 9).1 (TX7 9).2.1 (TX7 9).2.2.1 ∈ zTbl := zmem 788 rfl rfl
set_option maxRecDepth 20000 in
theorem kf_RX7_211 : Cond.fieldLink RX7 211 (TX7 12).1 (TX7 12).2.1 (TX7 12).2.2.1 ∈ zTbl := zmem 791 rfl rfl
set_option maxRecDepth 20000 in
theorem kf_RX7_228 : Cond.fieldLink RX7 228 (TX7 24).1 (TX7 24).2.1 (TX7 24).2.2.1 ∈ zTbl := zmem 803 rfl rfl
set_option maxRecDepth 20000 in
theorem kf_RX7_244 : Cond.fieldLink RX7 244 (TX7 25).1 (TX7 25).2.1 (TX7 25).2.2.1 ∈ zTbl := zmem 804 rfl rfl
set_option maxRecDepth 20000 in
theorem kf_RX7_248 : Cond.fieldLink RX7 248 (TX7 26).1 (TX7 26).2.1 (TX7 26).2.2.1 ∈ zTbl := zmem 805 rfl rfl
set_option maxRecDepth 20000 in
theorem kl0_0 : u_lay RX0 TX0 0 ∈ zTbl := zmem 119 rfl rfl
set_option maxRecDepth 20000 in
theorem kl0_1 : u_lay RX0 TX0 1 ∈ zTbl := zmem 121 rfl rfl
set_option maxRecDepth 20000 in
theorem kl0_2 : u_lay RX0 TX0 2 ∈ zTbl := zmem 123 rfl rfl
theorem kw0 : ∀ w ∈ u_ws RX0 TX0 3, w ∈ zTbl := zws fun k hk => match k, hk with
  | 0, _ => kl0_0
  | 1, _ => kl0_1
  | 2, _ => kl0_2
  | k + 3, hk => absurd hk (by omega)
set_option maxRecDepth 20000 in
theorem kl1_0 : u_lay RX1 TX1 0 ∈ zTbl := zmem 170 rfl rfl
set_option maxRecDepth 20000 in
theorem kl1_1 : u_lay RX1 TX1 1 ∈ zTbl := zmem 172 rfl rfl
theorem kw1 : ∀ w ∈ u_ws RX1 TX1 2, w ∈ zTbl := zws fun k hk => match k, hk with
  | 0, _ => kl1_0
  | 1, _ => kl1_1
  | k + 2, hk => absurd hk (by omega)
set_option maxRecDepth 20000 in
theorem kl2_0 : u_lay RX2 TX2 0 ∈ zTbl := zmem 107 rfl rfl
theorem kw2 : ∀ w ∈ u_ws RX2 TX2 1, w ∈ zTbl := zws fun k hk => match k, hk with
  | 0, _ => kl2_0
  | k + 1, hk => absurd hk (by omega)
set_option maxRecDepth 20000 in
theorem kl3_0 : u_lay RX3 TX3 0 ∈ zTbl := zmem 140 rfl rfl
set_option maxRecDepth 20000 in
theorem kl3_1 : u_lay RX3 TX3 1 ∈ zTbl := zmem 142 rfl rfl
set_option maxRecDepth 20000 in
theorem kl3_2 : u_lay RX3 TX3 2 ∈ zTbl := zmem 144 rfl rfl
set_option maxRecDepth 20000 in
theorem kl3_3 : u_lay RX3 TX3 3 ∈ zTbl := zmem 146 rfl rfl
set_option maxRecDepth 20000 in
theorem kl3_4 : u_lay RX3 TX3 4 ∈ zTbl := zmem 148 rfl rfl
set_option maxRecDepth 20000 in
theorem kl3_5 : u_lay RX3 TX3 5 ∈ zTbl := zmem 150 rfl rfl
theorem kw3 : ∀ w ∈ u_ws RX3 TX3 6, w ∈ zTbl := zws fun k hk => match k, hk with
  | 0, _ => kl3_0
  | 1, _ => kl3_1
  | 2, _ => kl3_2
  | 3, _ => kl3_3
  | 4, _ => kl3_4
  | 5, _ => kl3_5
  | k + 6, hk => absurd hk (by omega)
set_option maxRecDepth 20000 in
theorem kl4_0 : u_lay RX4 TX4 0 ∈ zTbl := zmem 192 rfl rfl
set_option maxRecDepth 20000 in
theorem kl4_1 : u_lay RX4 TX4 1 ∈ zTbl := zmem 194 rfl rfl
set_option maxRecDepth 20000 in
theorem kl4_2 : u_lay RX4 TX4 2 ∈ zTbl := zmem 196 rfl rfl
set_option maxRecDepth 20000 in
theorem kl4_3 : u_lay RX4 TX4 3 ∈ zTbl := zmem 198 rfl rfl
set_option maxRecDepth 20000 in
theorem kl4_4 : u_lay RX4 TX4 4 ∈ zTbl := zmem 200 rfl rfl
set_option maxRecDepth 20000 in
theorem kl4_5 : u_lay RX4 TX4 5 ∈ zTbl := zmem 202 rfl rfl
set_option maxRecDepth 20000 in
theorem kl4_6 : u_lay RX4 TX4 6 ∈ zTbl := zmem 204 rfl rfl
set_option maxRecDepth 20000 in
theorem kl4_7 : u_lay RX4 TX4 7 ∈ zTbl := zmem 206 rfl rfl
set_option maxRecDepth 20000 in
theorem kl4_8 : u_lay RX4 TX4 8 ∈ zTbl := zmem 208 rfl rfl
set_option maxRecDepth 20000 in
theorem kl4_9 : u_lay RX4 TX4 9 ∈ zTbl := zmem 210 rfl rfl
set_option maxRecDepth 20000 in
theorem kl4_10 : u_lay RX4 TX4 10 ∈ zTbl := zmem 212 rfl rfl
set_option maxRecDepth 20000 in
theorem kl4_11 : u_lay RX4 TX4 11 ∈ zTbl := zmem 214 rfl rfl
set_option maxRecDepth 20000 in
theorem kl4_12 : u_lay RX4 TX4 12 ∈ zTbl := zmem 216 rfl rfl
set_option maxRecDepth 20000 in
theorem kl4_13 : u_lay RX4 TX4 13 ∈ zTbl := zmem 218 rfl rfl
theorem kw4 : ∀ w ∈ u_ws RX4 TX4 14, w ∈ zTbl := zws fun k hk => match k, hk with
  | 0, _ => kl4_0
  | 1, _ => kl4_1
  | 2, _ => kl4_2
  | 3, _ => kl4_3
  | 4, _ => kl4_4
  | 5, _ => kl4_5
  | 6, _ => kl4_6
  | 7, _ => kl4_7
  | 8, _ => kl4_8
  | 9, _ => kl4_9
  | 10, _ => kl4_10
  | 11, _ => kl4_11
  | 12, _ => kl4_12
  | 13, _ => kl4_13
  | k + 14, hk => absurd hk (by omega)
set_option maxRecDepth 20000 in
theorem kl5_0 : u_lay RX5 TX5 0 ∈ zTbl := zmem 90 rfl rfl
set_option maxRecDepth 20000 in
theorem kl5_1 : u_lay RX5 TX5 1 ∈ zTbl := zmem 92 rfl rfl
set_option maxRecDepth 20000 in
theorem kl5_2 : u_lay RX5 TX5 2 ∈ zTbl := zmem 94 rfl rfl
set_option maxRecDepth 20000 in
theorem kl5_3 : u_lay RX5 TX5 3 ∈ zTbl := zmem 96 rfl rfl
theorem kw5 : ∀ w ∈ u_ws RX5 TX5 4, w ∈ zTbl := zws fun k hk => match k, hk with
  | 0, _ => kl5_0
  | 1, _ => kl5_1
  | 2, _ => kl5_2
  | 3, _ => kl5_3
  | k + 4, hk => absurd hk (by omega)
set_option maxRecDepth 20000 in
theorem kl6_0 : u_lay RX6 TX6 0 ∈ zTbl := zmem 227 rfl rfl
set_option maxRecDepth 20000 in
theorem kl6_1 : u_lay RX6 TX6 1 ∈ zTbl := zmem 229 rfl rfl
set_option maxRecDepth 20000 in
theorem kl6_2 : u_lay RX6 TX6 2 ∈ zTbl := zmem 231 rfl rfl
set_option maxRecDepth 20000 in
theorem kl6_3 : u_lay RX6 TX6 3 ∈ zTbl := zmem 233 rfl rfl
set_option maxRecDepth 20000 in
theorem kl6_4 : u_lay RX6 TX6 4 ∈ zTbl := zmem 235 rfl rfl
set_option maxRecDepth 20000 in
theorem kl6_5 : u_lay RX6 TX6 5 ∈ zTbl := zmem 237 rfl rfl
theorem kw6 : ∀ w ∈ u_ws RX6 TX6 6, w ∈ zTbl := zws fun k hk => match k, hk with
  | 0, _ => kl6_0
  | 1, _ => kl6_1
  | 2, _ => kl6_2
  | 3, _ => kl6_3
  | 4, _ => kl6_4
  | 5, _ => kl6_5
  | k + 6, hk => absurd hk (by omega)
set_option maxRecDepth 20000 in
theorem kl7_0 : u_lay RX7 TX7 0 ∈ zTbl := zmem 806 rfl rfl
set_option maxRecDepth 20000 in
theorem kl7_1 : u_lay RX7 TX7 1 ∈ zTbl := zmem 808 rfl rfl
set_option maxRecDepth 20000 in
theorem kl7_2 : u_lay RX7 TX7 2 ∈ zTbl := zmem 810 rfl rfl
set_option maxRecDepth 20000 in
theorem kl7_3 : u_lay RX7 TX7 3 ∈ zTbl := zmem 812 rfl rfl
set_option maxRecDepth 20000 in
theorem kl7_4 : u_lay RX7 TX7 4 ∈ zTbl := zmem 814 rfl rfl
set_option maxRecDepth 20000 in
theorem kl7_5 : u_lay RX7 TX7 5 ∈ zTbl := zmem 816 rfl rfl
set_option maxRecDepth 20000 in
theorem kl7_6 : u_lay RX7 TX7 6 ∈ zTbl := zmem 818 rfl rfl
set_option maxRecDepth 20000 in
theorem kl7_7 : u_lay RX7 TX7 7 ∈ zTbl := zmem 820 rfl rfl
set_option maxRecDepth 20000 in
theorem kl7_8 : u_lay RX7 TX7 8 ∈ zTbl := zmem 822 rfl rfl
set_option maxRecDepth 20000 in
theorem kl7_9 : u_lay RX7 TX7 9 ∈ zTbl := zmem 824 rfl rfl
set_option maxRecDepth 20000 in
theorem kl7_10 : u_lay RX7 TX7 10 ∈ zTbl := zmem 826 rfl rfl
set_option maxRecDepth 20000 in
theorem kl7_11 : u_lay RX7 TX7 11 ∈ zTbl := zmem 828 rfl rfl
set_option maxRecDepth 20000 in
theorem kl7_12 : u_lay RX7 TX7 12 ∈ zTbl := zmem 830 rfl rfl
set_option maxRecDepth 20000 in
theorem kl7_13 : u_lay RX7 TX7 13 ∈ zTbl := zmem 832 rfl rfl
set_option maxRecDepth 20000 in
theorem kl7_14 : u_lay RX7 TX7 14 ∈ zTbl := zmem 834 rfl rfl
set_option maxRecDepth 20000 in
theorem kl7_15 : u_lay RX7 TX7 15 ∈ zTbl := zmem 836 rfl rfl
set_option maxRecDepth 20000 in
theorem kl7_16 : u_lay RX7 TX7 16 ∈ zTbl := zmem 838 rfl rfl
set_option maxRecDepth 20000 in
theorem kl7_17 : u_lay RX7 TX7 17 ∈ zTbl := zmem 840 rfl rfl
set_option maxRecDepth 20000 in
theorem kl7_18 : u_lay RX7 TX7 18 ∈ zTbl := zmem 842 rfl rfl
set_option maxRecDepth 20000 in
theorem kl7_19 : u_lay RX7 TX7 19 ∈ zTbl := zmem 844 rfl rfl
set_option maxRecDepth 20000 in
theorem kl7_20 : u_lay RX7 TX7 20 ∈ zTbl := zmem 846 rfl rfl
set_option maxRecDepth 20000 in
theorem kl7_21 : u_lay RX7 TX7 21 ∈ zTbl := zmem 848 rfl rfl
set_option maxRecDepth 20000 in
theorem kl7_22 : u_lay RX7 TX7 22 ∈ zTbl := zmem 850 rfl rfl
set_option maxRecDepth 20000 in
theorem kl7_23 : u_lay RX7 TX7 23 ∈ zTbl := zmem 852 rfl rfl
set_option maxRecDepth 20000 in
theorem kl7_24 : u_lay RX7 TX7 24 ∈ zTbl := zmem 854 rfl rfl
set_option maxRecDepth 20000 in
theorem kl7_25 : u_lay RX7 TX7 25 ∈ zTbl := zmem 856 rfl rfl
set_option maxRecDepth 20000 in
theorem kl7_26 : u_lay RX7 TX7 26 ∈ zTbl := zmem 858 rfl rfl
theorem kw7 : ∀ w ∈ u_ws RX7 TX7 27, w ∈ zTbl := zws fun k hk => match k, hk with
  | 0, _ => kl7_0
  | 1, _ => kl7_1
  | 2, _ => kl7_2
  | 3, _ => kl7_3
  | 4, _ => kl7_4
  | 5, _ => kl7_5
  | 6, _ => kl7_6
  | 7, _ => kl7_7
  | 8, _ => kl7_8
  | 9, _ => kl7_9
  | 10, _ => kl7_10
  | 11, _ => kl7_11
  | 12, _ => kl7_12
  | 13, _ => kl7_13
  | 14, _ => kl7_14
  | 15, _ => kl7_15
  | 16, _ => kl7_16
  | 17, _ => kl7_17
  | 18, _ => kl7_18
  | 19, _ => kl7_19
  | 20, _ => kl7_20
  | 21, _ => kl7_21
  | 22, _ => kl7_22
  | 23, _ => kl7_23
  | 24, _ => kl7_24
  | 25, _ => kl7_25
  | 26, _ => kl7_26
  | k + 27, hk => absurd hk (by omega)
set_option maxRecDepth 20000 in
theorem km_RL_15 : Cond.methodLink RL 15 yX6_init ∈ zTbl := zmem 74 rfl rfl
theorem gm_RL_15 : GoodIn zTbl wsX6_init := zgI kc_X6_init
set_option maxRecDepth 20000 in
theorem km_RX6_18 : Cond.methodLink RX6 18 yX2_init ∈ zTbl := zmem 102 rfl rfl
theorem gm_RX6_18 : GoodIn zTbl wsX2_init := zgI kc_X2_init
set_option maxRecDepth 20000 in
theorem km_RX6_44 : Cond.methodLink RX6 44 yX4_init ∈ zTbl := zmem 155 rfl rfl
theorem gm_RX6_44 : GoodIn zTbl wsX4_init := zgI kc_X4_init
set_option maxRecDepth 20000 in
theorem km_RL_19 : Cond.methodLink RL 19 yX6_feed ∈ zTbl := zmem 240 rfl rfl
theorem gm_RL_19 : GoodIn zTbl (wsV RL 19 RX6 yX6_feed wsX6_feed) := zgV km_RL_19 ki_X6_feed ke_X6_feed kn_RX6 kc_X6_feed
set_option maxRecDepth 20000 in
theorem km_RX6_51 : Cond.methodLink RX6 51 yX5_filledBytes ∈ zTbl := zmem 244 rfl rfl
theorem gm_RX6_51 : GoodIn zTbl (va_wsS RX6 51 yX5_filledBytes wsX5_filledBytes) := zgS km_RX6_51 ks_X5_filledBytes kn_RX5 kc_X5_filledBytes
set_option maxRecDepth 20000 in
theorem km_RX6_55 : Cond.methodLink RX6 55 yX5_size ∈ zTbl := zmem 247 rfl rfl
theorem gm_RX6_55 : GoodIn zTbl (wsV RX6 55 RX5 yX5_size wsX5_size) := zgV km_RX6_55 ki_X5_size ke_X5_size kn_RX5 kc_X5_size
set_option maxRecDepth 20000 in
theorem km_RX6_59 : Cond.methodLink RX6 59 yX5_append ∈ zTbl := zmem 251 rfl rfl
theorem gm_RX6_59 : GoodIn zTbl (wsV RX6 59 RX5 yX5_append wsX5_append) := zgV km_RX6_59 ki_X5_append ke_X5_append kn_RX5 kc_X5_append
set_option maxRecDepth 20000 in
theorem km_RL_24 : Cond.methodLink RL 24 yX6_end ∈ zTbl := zmem 255 rfl rfl
theorem gm_RL_24 : GoodIn zTbl (wsV RL 24 RX6 yX6_end wsX6_end) := zgV km_RL_24 ki_X6_end ke_X6_end kn_RX6 kc_X6_end
set_option maxRecDepth 20000 in
theorem km_RX6_63 : Cond.methodLink RX6 63 yX5_cut ∈ zTbl := zmem 259 rfl rfl
theorem gm_RX6_63 : GoodIn zTbl (wsV RX6 63 RX5 yX5_cut wsX5_cut) := zgV km_RX6_63 ki_X5_cut ke_X5_cut kn_RX5 kc_X5_cut
set_option maxRecDepth 20000 in
theorem km_RX5_25 : Cond.methodLink RX5 25 yX5_rewind ∈ zTbl := zmem 263 rfl rfl
theorem gm_RX5_25 : GoodIn zTbl (wsV RX5 25 RX5 yX5_rewind wsX5_rewind) := zgV km_RX5_25 ki_X5_rewind ke_X5_rewind kn_RX5 kc_X5_rewind
set_option maxRecDepth 20000 in
theorem km_RX5_28 : Cond.methodLink RX5 28 yX5_advance ∈ zTbl := zmem 267 rfl rfl
theorem gm_RX5_28 : GoodIn zTbl (wsV RX5 28 RX5 yX5_advance wsX5_advance) := zgV km_RX5_28 ki_X5_advance ke_X5_advance kn_RX5 kc_X5_advance
set_option maxRecDepth 20000 in
theorem km_RX5_31 : Cond.methodLink RX5 31 yX5_isDigit ∈ zTbl := zmem 271 rfl rfl
theorem gm_RX5_31 : GoodIn zTbl (va_wsS RX5 31 yX5_isDigit wsX5_isDigit) := zgS km_RX5_31 ks_X5_isDigit kn_RX5 kc_X5_isDigit
set_option maxRecDepth 20000 in
theorem km_RX5_35 : Cond.methodLink RX5 35 yX5_isLetter ∈ zTbl := zmem 274 rfl rfl
theorem gm_RX5_35 : GoodIn zTbl (va_wsS RX5 35 yX5_isLetter wsX5_isLetter) := zgS km_RX5_35 ks_X5_isLetter kn_RX5 kc_X5_isLetter
set_option maxRecDepth 20000 in
theorem km_RL_29 : Cond.methodLink RL 29 yX6_fault ∈ zTbl := zmem 277 rfl rfl
theorem gm_RL_29 : GoodIn zTbl (wsV RL 29 RX6 yX6_fault wsX6_fault) := zgV km_RL_29 ki_X6_fault ke_X6_fault kn_RX6 kc_X6_fault
set_option maxRecDepth 20000 in
theorem km_RX6_67 : Cond.methodLink RX6 67 yX2_read ∈ zTbl := zmem 281 rfl rfl
theorem gm_RX6_67 : GoodIn zTbl (wsV RX6 67 RX2 yX2_read wsX2_read) := zgV km_RX6_67 ki_X2_read ke_X2_read kn_RX2 kc_X2_read
set_option maxRecDepth 20000 in
theorem km_RX2_15 : Cond.methodLink RX2 15 yX3_clear ∈ zTbl := zmem 285 rfl rfl
theorem gm_RX2_15 : GoodIn zTbl (wsV RX2 15 RX3 yX3_clear wsX3_clear) := zgV km_RX2_15 ki_X3_clear ke_X3_clear kn_RX3 kc_X3_clear
set_option maxRecDepth 20000 in
theorem km_RX2_20 : Cond.methodLink RX2 20 yX5_rewind ∈ zTbl := zmem 289 rfl rfl
theorem gm_RX2_20 : GoodIn zTbl (wsV RX2 20 RX5 yX5_rewind wsX5_rewind) := zgV km_RX2_20 ki_X5_rewind ke_X5_rewind kn_RX5 kc_X5_rewind
set_option maxRecDepth 20000 in
theorem km_RX2_27 : Cond.methodLink RX2 27 yX5_take ∈ zTbl := zmem 291 rfl rfl
theorem gm_RX2_27 : GoodIn zTbl (wsV RX2 27 RX5 yX5_take wsX5_take) := zgV km_RX2_27 ki_X5_take ke_X5_take kn_RX5 kc_X5_take
set_option maxRecDepth 20000 in
theorem km_RX5_38 : Cond.methodLink RX5 38 yJ0_length_8abf5 ∈ zTbl := zmem 295 rfl rfl
theorem gm_RX5_38 : GoodIn zTbl (wsV RX5 38 RJ0 yJ0_length_8abf5 wsJ0_length_8abf5) := zgV km_RX5_38 ki_J0_length_8abf5 ke_J0_length_8abf5 kn_RJ0 kc_J0_length_8abf5
set_option maxRecDepth 20000 in
theorem km_RJ0_335 : Cond.methodLink RJ0 335 yJ0_coder_7d493 ∈ zTbl := zmem 299 rfl rfl
theorem gm_RJ0_335 : GoodIn zTbl (wsV RJ0 335 RJ0 yJ0_coder_7d493 wsJ0_coder_7d493) := zgV km_RJ0_335 ki_J0_coder_7d493 ke_J0_coder_7d493 kn_RJ0 kc_J0_coder_7d493
set_option maxRecDepth 20000 in
theorem km_RX5_43 : Cond.methodLink RX5 43 yX5_find ∈ zTbl := zmem 305 rfl rfl
theorem gm_RX5_43 : GoodIn zTbl (wsV RX5 43 RX5 yX5_find wsX5_find) := zgV km_RX5_43 ki_X5_find ke_X5_find kn_RX5 kc_X5_find
set_option maxRecDepth 20000 in
theorem km_RX5_51 : Cond.methodLink RX5 51 yJ0_charAt_5068e ∈ zTbl := zmem 309 rfl rfl
theorem gm_RX5_51 : GoodIn zTbl (wsV RX5 51 RJ0 yJ0_charAt_5068e wsJ0_charAt_5068e) := zgV km_RX5_51 ki_J0_charAt_5068e ke_J0_charAt_5068e kn_RJ0 kc_J0_charAt_5068e
set_option maxRecDepth 20000 in
theorem km_RJ0_492 : Cond.methodLink RJ0 492 yJ0_isLatin1_aae02 ∈ zTbl := zmem 313 rfl rfl
theorem gm_RJ0_492 : GoodIn zTbl (wsV RJ0 492 RJ0 yJ0_isLatin1_aae02 wsJ0_isLatin1_aae02) := zgV km_RJ0_492 ki_J0_isLatin1_aae02 ke_J0_isLatin1_aae02 kn_RJ0 kc_J0_isLatin1_aae02
set_option maxRecDepth 20000 in
theorem km_RJ0_495 : Cond.methodLink RJ0 495 yJ1_charAt_3b067 ∈ zTbl := zmem 317 rfl rfl
theorem gm_RJ0_495 : GoodIn zTbl (va_wsS RJ0 495 yJ1_charAt_3b067 wsJ1_charAt_3b067) := zgS km_RJ0_495 ks_J1_charAt_3b067 kn_RJ1 kc_J1_charAt_3b067
set_option maxRecDepth 20000 in
theorem km_RJ1_9 : Cond.methodLink RJ1 9 yJ0_checkIndex_df160 ∈ zTbl := zmem 320 rfl rfl
theorem gm_RJ1_9 : GoodIn zTbl (va_wsS RJ1 9 yJ0_checkIndex_df160 wsJ0_checkIndex_df160) := zgS km_RJ1_9 ks_J0_checkIndex_df160 kn_RJ0 kc_J0_checkIndex_df160
set_option maxRecDepth 20000 in
theorem km_RJ0_1059 : Cond.methodLink RJ0 1059 yJ3_checkIndex_8e157 ∈ zTbl := zmem 325 rfl rfl
theorem gm_RJ0_1059 : GoodIn zTbl (va_wsS RJ0 1059 yJ3_checkIndex_8e157 wsJ3_checkIndex_8e157) := zgS km_RJ0_1059 ks_J3_checkIndex_8e157 kn_RJ3 kc_J3_checkIndex_8e157
set_option maxRecDepth 20000 in
theorem km_RJ0_498 : Cond.methodLink RJ0 498 yJ2_charAt_3b067 ∈ zTbl := zmem 328 rfl rfl
theorem gm_RJ0_498 : GoodIn zTbl (va_wsS RJ0 498 yJ2_charAt_3b067 wsJ2_charAt_3b067) := zgS km_RJ0_498 ks_J2_charAt_3b067 kn_RJ2 kc_J2_charAt_3b067
set_option maxRecDepth 20000 in
theorem km_RJ2_67 : Cond.methodLink RJ2 67 yJ2_checkIndex_2214a ∈ zTbl := zmem 331 rfl rfl
theorem gm_RJ2_67 : GoodIn zTbl (va_wsS RJ2 67 yJ2_checkIndex_2214a wsJ2_checkIndex_2214a) := zgS km_RJ2_67 ks_J2_checkIndex_2214a kn_RJ2 kc_J2_checkIndex_2214a
set_option maxRecDepth 20000 in
theorem km_RJ2_48 : Cond.methodLink RJ2 48 yJ2_length_9d52b ∈ zTbl := zmem 334 rfl rfl
theorem gm_RJ2_48 : GoodIn zTbl (va_wsS RJ2 48 yJ2_length_9d52b wsJ2_length_9d52b) := zgS km_RJ2_48 ks_J2_length_9d52b kn_RJ2 kc_J2_length_9d52b
set_option maxRecDepth 20000 in
theorem km_RJ2_414 : Cond.methodLink RJ2 414 yJ0_checkIndex_df160 ∈ zTbl := zmem 337 rfl rfl
theorem gm_RJ2_414 : GoodIn zTbl (va_wsS RJ2 414 yJ0_checkIndex_df160 wsJ0_checkIndex_df160) := zgS km_RJ2_414 ks_J0_checkIndex_df160 kn_RJ0 kc_J0_checkIndex_df160
set_option maxRecDepth 20000 in
theorem km_RJ2_71 : Cond.methodLink RJ2 71 yJ2_getChar_3b067 ∈ zTbl := zmem 338 rfl rfl
theorem gm_RJ2_71 : GoodIn zTbl (va_wsS RJ2 71 yJ2_getChar_3b067 wsJ2_getChar_3b067) := zgS km_RJ2_71 ks_J2_getChar_3b067 kn_RJ2 kc_J2_getChar_3b067
set_option maxRecDepth 20000 in
theorem km_RX2_31 : Cond.methodLink RX2 31 yX2_readQuestion ∈ zTbl := zmem 347 rfl rfl
theorem gm_RX2_31 : GoodIn zTbl (wsV RX2 31 RX2 yX2_readQuestion wsX2_readQuestion) := zgV km_RX2_31 ki_X2_readQuestion ke_X2_readQuestion kn_RX2 kc_X2_readQuestion
set_option maxRecDepth 20000 in
theorem km_RX2_104 : Cond.methodLink RX2 104 yX5_takeUnit ∈ zTbl := zmem 352 rfl rfl
theorem gm_RX2_104 : GoodIn zTbl (wsV RX2 104 RX5 yX5_takeUnit wsX5_takeUnit) := zgV km_RX2_104 ki_X5_takeUnit ke_X5_takeUnit kn_RX5 kc_X5_takeUnit
set_option maxRecDepth 20000 in
theorem km_RX2_107 : Cond.methodLink RX2 107 yX2_takeAskedSort ∈ zTbl := zmem 357 rfl rfl
theorem gm_RX2_107 : GoodIn zTbl (wsV RX2 107 RX2 yX2_takeAskedSort wsX2_takeAskedSort) := zgV km_RX2_107 ki_X2_takeAskedSort ke_X2_takeAskedSort kn_RX2 kc_X2_takeAskedSort
set_option maxRecDepth 20000 in
theorem km_RX2_46 : Cond.methodLink RX2 46 yX5_takeName ∈ zTbl := zmem 364 rfl rfl
theorem gm_RX2_46 : GoodIn zTbl (wsV RX2 46 RX5 yX5_takeName wsX5_takeName) := zgV km_RX2_46 ki_X5_takeName ke_X5_takeName kn_RX5 kc_X5_takeName
set_option maxRecDepth 20000 in
theorem km_RX2_112 : Cond.methodLink RX2 112 yX3_ask ∈ zTbl := zmem 371 rfl rfl
theorem gm_RX2_112 : GoodIn zTbl (wsV RX2 112 RX3 yX3_ask wsX3_ask) := zgV km_RX2_112 ki_X3_ask ke_X3_ask kn_RX3 kc_X3_ask
set_option maxRecDepth 20000 in
theorem km_RX2_35 : Cond.methodLink RX2 35 yX5_isOver ∈ zTbl := zmem 375 rfl rfl
theorem gm_RX2_35 : GoodIn zTbl (wsV RX2 35 RX5 yX5_isOver wsX5_isOver) := zgV km_RX2_35 ki_X5_isOver ke_X5_isOver kn_RX5 kc_X5_isOver
set_option maxRecDepth 20000 in
theorem km_RX2_39 : Cond.methodLink RX2 39 yX5_start ∈ zTbl := zmem 379 rfl rfl
theorem gm_RX2_39 : GoodIn zTbl (wsV RX2 39 RX5 yX5_start wsX5_start) := zgV km_RX2_39 ki_X5_start ke_X5_start kn_RX5 kc_X5_start
set_option maxRecDepth 20000 in
theorem km_RX2_43 : Cond.methodLink RX2 43 yX2_readSentence ∈ zTbl := zmem 383 rfl rfl
theorem gm_RX2_43 : GoodIn zTbl (wsV RX2 43 RX2 yX2_readSentence wsX2_readSentence) := zgV km_RX2_43 ki_X2_readSentence ke_X2_readSentence kn_RX2 kc_X2_readSentence
set_option maxRecDepth 20000 in
theorem km_RX2_50 : Cond.methodLink RX2 50 yX3_open ∈ zTbl := zmem 387 rfl rfl
theorem gm_RX2_50 : GoodIn zTbl (wsV RX2 50 RX3 yX3_open wsX3_open) := zgV km_RX2_50 ki_X3_open ke_X3_open kn_RX3 kc_X3_open
set_option maxRecDepth 20000 in
theorem km_RX3_34 : Cond.methodLink RX3 34 yX3_tell ∈ zTbl := zmem 391 rfl rfl
theorem gm_RX3_34 : GoodIn zTbl (wsV RX3 34 RX3 yX3_tell wsX3_tell) := zgV km_RX3_34 ki_X3_tell ke_X3_tell kn_RX3 kc_X3_tell
set_option maxRecDepth 20000 in
theorem km_RX2_56 : Cond.methodLink RX2 56 yX2_readHas ∈ zTbl := zmem 395 rfl rfl
theorem gm_RX2_56 : GoodIn zTbl (wsV RX2 56 RX2 yX2_readHas wsX2_readHas) := zgV km_RX2_56 ki_X2_readHas ke_X2_readHas kn_RX2 kc_X2_readHas
set_option maxRecDepth 20000 in
theorem km_RX2_83 : Cond.methodLink RX2 83 yX5_takeNumber ∈ zTbl := zmem 399 rfl rfl
theorem gm_RX2_83 : GoodIn zTbl (wsV RX2 83 RX5 yX5_takeNumber wsX5_takeNumber) := zgV km_RX2_83 ki_X5_takeNumber ke_X5_takeNumber kn_RX5 kc_X5_takeNumber
set_option maxRecDepth 20000 in
theorem km_RX2_86 : Cond.methodLink RX2 86 yX3_tell ∈ zTbl := zmem 403 rfl rfl
theorem gm_RX2_86 : GoodIn zTbl (wsV RX2 86 RX3 yX3_tell wsX3_tell) := zgV km_RX2_86 ki_X3_tell ke_X3_tell kn_RX3 kc_X3_tell
set_option maxRecDepth 20000 in
theorem km_RX2_91 : Cond.methodLink RX2 91 yX2_readUnit ∈ zTbl := zmem 405 rfl rfl
theorem gm_RX2_91 : GoodIn zTbl (wsV RX2 91 RX2 yX2_readUnit wsX2_readUnit) := zgV km_RX2_91 ki_X2_readUnit ke_X2_readUnit kn_RX2 kc_X2_readUnit
set_option maxRecDepth 20000 in
theorem km_RX2_62 : Cond.methodLink RX2 62 yX2_readSecond ∈ zTbl := zmem 410 rfl rfl
theorem gm_RX2_62 : GoodIn zTbl (wsV RX2 62 RX2 yX2_readSecond wsX2_readSecond) := zgV km_RX2_62 ki_X2_readSecond ke_X2_readSecond kn_RX2 kc_X2_readSecond
set_option maxRecDepth 20000 in
theorem km_RX2_67 : Cond.methodLink RX2 67 yX2_readPlain ∈ zTbl := zmem 417 rfl rfl
theorem gm_RX2_67 : GoodIn zTbl (wsV RX2 67 RX2 yX2_readPlain wsX2_readPlain) := zgV km_RX2_67 ki_X2_readPlain ke_X2_readPlain kn_RX2 kc_X2_readPlain
set_option maxRecDepth 20000 in
theorem km_RX2_80 : Cond.methodLink RX2 80 yX3_close ∈ zTbl := zmem 426 rfl rfl
theorem gm_RX2_80 : GoodIn zTbl (wsV RX2 80 RX3 yX3_close wsX3_close) := zgV km_RX2_80 ki_X3_close ke_X3_close kn_RX3 kc_X3_close
set_option maxRecDepth 20000 in
theorem km_RL_34 : Cond.methodLink RL 34 yX6_tale ∈ zTbl := zmem 431 rfl rfl
theorem gm_RL_34 : GoodIn zTbl (wsV RL 34 RX6 yX6_tale wsX6_tale) := zgV km_RL_34 ki_X6_tale ke_X6_tale kn_RX6 kc_X6_tale
set_option maxRecDepth 20000 in
theorem km_RX6_71 : Cond.methodLink RX6 71 yX0_clear ∈ zTbl := zmem 435 rfl rfl
theorem gm_RX6_71 : GoodIn zTbl (wsV RX6 71 RX0 yX0_clear wsX0_clear) := zgV km_RX6_71 ki_X0_clear ke_X0_clear kn_RX0 kc_X0_clear
set_option maxRecDepth 20000 in
theorem km_RX6_74 : Cond.methodLink RX6 74 yX4_begin ∈ zTbl := zmem 439 rfl rfl
theorem gm_RX6_74 : GoodIn zTbl (wsV RX6 74 RX4 yX4_begin wsX4_begin) := zgV km_RX6_74 ki_X4_begin ke_X4_begin kn_RX4 kc_X4_begin
set_option maxRecDepth 20000 in
theorem km_RX4_64 : Cond.methodLink RX4 64 yX4_solve ∈ zTbl := zmem 443 rfl rfl
theorem gm_RX4_64 : GoodIn zTbl (wsV RX4 64 RX4 yX4_solve wsX4_solve) := zgV km_RX4_64 ki_X4_solve ke_X4_solve kn_RX4 kc_X4_solve
set_option maxRecDepth 20000 in
theorem km_RX4_67 : Cond.methodLink RX4 67 yJ7_fill_d0a16 ∈ zTbl := zmem 447 rfl rfl
theorem gm_RX4_67 : GoodIn zTbl (va_wsS RX4 67 yJ7_fill_d0a16 wsJ7_fill_d0a16) := zgS km_RX4_67 ks_J7_fill_d0a16 kn_RJ7 kc_J7_fill_d0a16
set_option maxRecDepth 20000 in
theorem km_RX4_73 : Cond.methodLink RX4 73 yX4_makeLaws ∈ zTbl := zmem 450 rfl rfl
theorem gm_RX4_73 : GoodIn zTbl (wsV RX4 73 RX4 yX4_makeLaws wsX4_makeLaws) := zgV km_RX4_73 ki_X4_makeLaws ke_X4_makeLaws kn_RX4 kc_X4_makeLaws
set_option maxRecDepth 20000 in
theorem km_RX4_85 : Cond.methodLink RX4 85 yX3_size ∈ zTbl := zmem 454 rfl rfl
theorem gm_RX4_85 : GoodIn zTbl (wsV RX4 85 RX3 yX3_size wsX3_size) := zgV km_RX4_85 ki_X3_size ke_X3_size kn_RX3 kc_X3_size
set_option maxRecDepth 20000 in
theorem km_RX4_91 : Cond.methodLink RX4 91 yX3_part ∈ zTbl := zmem 458 rfl rfl
theorem gm_RX4_91 : GoodIn zTbl (wsV RX4 91 RX3 yX3_part wsX3_part) := zgV km_RX4_91 ki_X3_part ke_X3_part kn_RX3 kc_X3_part
set_option maxRecDepth 20000 in
theorem km_RX3_38 : Cond.methodLink RX3 38 yX3_has ∈ zTbl := zmem 462 rfl rfl
theorem gm_RX3_38 : GoodIn zTbl (wsV RX3 38 RX3 yX3_has wsX3_has) := zgV km_RX3_38 ki_X3_has ke_X3_has kn_RX3 kc_X3_has
set_option maxRecDepth 20000 in
theorem km_RX4_95 : Cond.methodLink RX4 95 yX4_madeBy ∈ zTbl := zmem 466 rfl rfl
theorem gm_RX4_95 : GoodIn zTbl (va_wsS RX4 95 yX4_madeBy wsX4_madeBy) := zgS km_RX4_95 ks_X4_madeBy kn_RX4 kc_X4_madeBy
set_option maxRecDepth 20000 in
theorem km_RX4_98 : Cond.methodLink RX4 98 yX4_weigh ∈ zTbl := zmem 469 rfl rfl
theorem gm_RX4_98 : GoodIn zTbl (wsV RX4 98 RX4 yX4_weigh wsX4_weigh) := zgV km_RX4_98 ki_X4_weigh ke_X4_weigh kn_RX4 kc_X4_weigh
set_option maxRecDepth 20000 in
theorem km_RX4_113 : Cond.methodLink RX4 113 yX3_gain ∈ zTbl := zmem 473 rfl rfl
theorem gm_RX4_113 : GoodIn zTbl (wsV RX4 113 RX3 yX3_gain wsX3_gain) := zgV km_RX4_113 ki_X3_gain ke_X3_gain kn_RX3 kc_X3_gain
set_option maxRecDepth 20000 in
theorem km_RX3_46 : Cond.methodLink RX3 46 yX3_gainBy ∈ zTbl := zmem 477 rfl rfl
theorem gm_RX3_46 : GoodIn zTbl (va_wsS RX3 46 yX3_gainBy wsX3_gainBy) := zgS km_RX3_46 ks_X3_gainBy kn_RX3 kc_X3_gainBy
set_option maxRecDepth 20000 in
theorem km_RX4_102 : Cond.methodLink RX4 102 yX4_secondWeight ∈ zTbl := zmem 480 rfl rfl
theorem gm_RX4_102 : GoodIn zTbl (va_wsS RX4 102 yX4_secondWeight wsX4_secondWeight) := zgS km_RX4_102 ks_X4_secondWeight kn_RX4 kc_X4_secondWeight
set_option maxRecDepth 20000 in
theorem km_RX4_105 : Cond.methodLink RX4 105 yX3_asked ∈ zTbl := zmem 483 rfl rfl
theorem gm_RX4_105 : GoodIn zTbl (wsV RX4 105 RX3 yX3_asked wsX3_asked) := zgV km_RX4_105 ki_X3_asked ke_X3_asked kn_RX3 kc_X3_asked
set_option maxRecDepth 20000 in
theorem km_RX4_109 : Cond.methodLink RX4 109 yX4_startSought ∈ zTbl := zmem 487 rfl rfl
theorem gm_RX4_109 : GoodIn zTbl (va_wsS RX4 109 yX4_startSought wsX4_startSought) := zgS km_RX4_109 ks_X4_startSought kn_RX4 kc_X4_startSought
set_option maxRecDepth 20000 in
theorem km_RX4_76 : Cond.methodLink RX4 76 yX4_addFacts ∈ zTbl := zmem 490 rfl rfl
theorem gm_RX4_76 : GoodIn zTbl (wsV RX4 76 RX4 yX4_addFacts wsX4_addFacts) := zgV km_RX4_76 ki_X4_addFacts ke_X4_addFacts kn_RX4 kc_X4_addFacts
set_option maxRecDepth 20000 in
theorem km_RX4_117 : Cond.methodLink RX4 117 yX1_clear ∈ zTbl := zmem 494 rfl rfl
theorem gm_RX4_117 : GoodIn zTbl (wsV RX4 117 RX1 yX1_clear wsX1_clear) := zgV km_RX4_117 ki_X1_clear ke_X1_clear kn_RX1 kc_X1_clear
set_option maxRecDepth 20000 in
theorem km_RX4_120 : Cond.methodLink RX4 120 yX4_isFact ∈ zTbl := zmem 498 rfl rfl
theorem gm_RX4_120 : GoodIn zTbl (wsV RX4 120 RX4 yX4_isFact wsX4_isFact) := zgV km_RX4_120 ki_X4_isFact ke_X4_isFact kn_RX4 kc_X4_isFact
set_option maxRecDepth 20000 in
theorem km_RX4_134 : Cond.methodLink RX4 134 yX3_facts ∈ zTbl := zmem 502 rfl rfl
theorem gm_RX4_134 : GoodIn zTbl (wsV RX4 134 RX3 yX3_facts wsX3_facts) := zgV km_RX4_134 ki_X3_facts ke_X3_facts kn_RX3 kc_X3_facts
set_option maxRecDepth 20000 in
theorem km_RX4_130 : Cond.methodLink RX4 130 yX1_add ∈ zTbl := zmem 509 rfl rfl
theorem gm_RX4_130 : GoodIn zTbl (wsV RX4 130 RX1 yX1_add wsX1_add) := zgV km_RX4_130 ki_X1_add ke_X1_add kn_RX1 kc_X1_add
set_option maxRecDepth 20000 in
theorem km_RX1_20 : Cond.methodLink RX1 20 yX1_reduce ∈ zTbl := zmem 513 rfl rfl
theorem gm_RX1_20 : GoodIn zTbl (wsV RX1 20 RX1 yX1_reduce wsX1_reduce) := zgV km_RX1_20 ki_X1_reduce ke_X1_reduce kn_RX1 kc_X1_reduce
set_option maxRecDepth 20000 in
theorem km_RX1_31 : Cond.methodLink RX1 31 yX1_eliminate ∈ zTbl := zmem 517 rfl rfl
theorem gm_RX1_31 : GoodIn zTbl (va_wsS RX1 31 yX1_eliminate wsX1_eliminate) := zgS km_RX1_31 ks_X1_eliminate kn_RX1 kc_X1_eliminate
set_option maxRecDepth 20000 in
theorem km_RX1_41 : Cond.methodLink RX1 41 yX1_gcd ∈ zTbl := zmem 520 rfl rfl
theorem gm_RX1_41 : GoodIn zTbl (va_wsS RX1 41 yX1_gcd wsX1_gcd) := zgS km_RX1_41 ks_X1_gcd kn_RX1 kc_X1_gcd
set_option maxRecDepth 20000 in
theorem km_RX1_24 : Cond.methodLink RX1 24 yX1_firstName ∈ zTbl := zmem 523 rfl rfl
theorem gm_RX1_24 : GoodIn zTbl (va_wsS RX1 24 yX1_firstName wsX1_firstName) := zgS km_RX1_24 ks_X1_firstName kn_RX1 kc_X1_firstName
set_option maxRecDepth 20000 in
theorem km_RX1_28 : Cond.methodLink RX1 28 yX1_negate ∈ zTbl := zmem 526 rfl rfl
theorem gm_RX1_28 : GoodIn zTbl (va_wsS RX1 28 yX1_negate wsX1_negate) := zgS km_RX1_28 ks_X1_negate kn_RX1 kc_X1_negate
set_option maxRecDepth 20000 in
theorem km_RX4_79 : Cond.methodLink RX4 79 yX4_settleAmounts ∈ zTbl := zmem 530 rfl rfl
theorem gm_RX4_79 : GoodIn zTbl (wsV RX4 79 RX4 yX4_settleAmounts wsX4_settleAmounts) := zgV km_RX4_79 ki_X4_settleAmounts ke_X4_settleAmounts kn_RX4 kc_X4_settleAmounts
set_option maxRecDepth 20000 in
theorem km_RX4_139 : Cond.methodLink RX4 139 yX1_reduce ∈ zTbl := zmem 535 rfl rfl
theorem gm_RX4_139 : GoodIn zTbl (wsV RX4 139 RX1 yX1_reduce wsX1_reduce) := zgV km_RX4_139 ki_X1_reduce ke_X1_reduce kn_RX1 kc_X1_reduce
set_option maxRecDepth 20000 in
theorem km_RX4_142 : Cond.methodLink RX4 142 yX1_firstName ∈ zTbl := zmem 536 rfl rfl
theorem gm_RX4_142 : GoodIn zTbl (va_wsS RX4 142 yX1_firstName wsX1_firstName) := zgS km_RX4_142 ks_X1_firstName kn_RX1 kc_X1_firstName
set_option maxRecDepth 20000 in
theorem km_RX4_82 : Cond.methodLink RX4 82 yX4_settleAnswer ∈ zTbl := zmem 537 rfl rfl
theorem gm_RX4_82 : GoodIn zTbl (wsV RX4 82 RX4 yX4_settleAnswer wsX4_settleAnswer) := zgV km_RX4_82 ki_X4_settleAnswer ke_X4_settleAnswer kn_RX4 kc_X4_settleAnswer
set_option maxRecDepth 20000 in
theorem km_RL_39 : Cond.methodLink RL 39 yX6_sentences ∈ zTbl := zmem 541 rfl rfl
theorem gm_RL_39 : GoodIn zTbl (wsV RL 39 RX6 yX6_sentences wsX6_sentences) := zgV km_RL_39 ki_X6_sentences ke_X6_sentences kn_RX6 kc_X6_sentences
set_option maxRecDepth 20000 in
theorem km_RX6_77 : Cond.methodLink RX6 77 yX3_size ∈ zTbl := zmem 545 rfl rfl
theorem gm_RX6_77 : GoodIn zTbl (wsV RX6 77 RX3 yX3_size wsX3_size) := zgV km_RX6_77 ki_X3_size ke_X3_size kn_RX3 kc_X3_size
set_option maxRecDepth 20000 in
theorem km_RL_52 : Cond.methodLink RL 52 yX6_question ∈ zTbl := zmem 546 rfl rfl
theorem gm_RL_52 : GoodIn zTbl (wsV RL 52 RX6 yX6_question wsX6_question) := zgV km_RL_52 ki_X6_question ke_X6_question kn_RX6 kc_X6_question
set_option maxRecDepth 20000 in
theorem km_RX6_88 : Cond.methodLink RX6 88 yX3_asked ∈ zTbl := zmem 550 rfl rfl
theorem gm_RX6_88 : GoodIn zTbl (wsV RX6 88 RX3 yX3_asked wsX3_asked) := zgV km_RX6_88 ki_X3_asked ke_X3_asked kn_RX3 kc_X3_asked
set_option maxRecDepth 20000 in
theorem km_RL_57 : Cond.methodLink RL 57 yX6_quarrel ∈ zTbl := zmem 551 rfl rfl
theorem gm_RL_57 : GoodIn zTbl (wsV RL 57 RX6 yX6_quarrel wsX6_quarrel) := zgV km_RL_57 ki_X6_quarrel ke_X6_quarrel kn_RX6 kc_X6_quarrel
set_option maxRecDepth 20000 in
theorem km_RX6_91 : Cond.methodLink RX6 91 yX4_quarrelAt ∈ zTbl := zmem 555 rfl rfl
theorem gm_RX6_91 : GoodIn zTbl (wsV RX6 91 RX4 yX4_quarrelAt wsX4_quarrelAt) := zgV km_RX6_91 ki_X4_quarrelAt ke_X4_quarrelAt kn_RX4 kc_X4_quarrelAt
set_option maxRecDepth 20000 in
theorem km_RL_61 : Cond.methodLink RL 61 yX6_answer ∈ zTbl := zmem 559 rfl rfl
theorem gm_RL_61 : GoodIn zTbl (wsV RL 61 RX6 yX6_answer wsX6_answer) := zgV km_RL_61 ki_X6_answer ke_X6_answer kn_RX6 kc_X6_answer
set_option maxRecDepth 20000 in
theorem km_RX6_94 : Cond.methodLink RX6 94 yX4_answerPart ∈ zTbl := zmem 563 rfl rfl
theorem gm_RX6_94 : GoodIn zTbl (wsV RX6 94 RX4 yX4_answerPart wsX4_answerPart) := zgV km_RX6_94 ki_X4_answerPart ke_X4_answerPart kn_RX4 kc_X4_answerPart
set_option maxRecDepth 20000 in
theorem km_RX4_146 : Cond.methodLink RX4 146 yX4_hasAnswer ∈ zTbl := zmem 567 rfl rfl
theorem gm_RX4_146 : GoodIn zTbl (wsV RX4 146 RX4 yX4_hasAnswer wsX4_hasAnswer) := zgV km_RX4_146 ki_X4_hasAnswer ke_X4_hasAnswer kn_RX4 kc_X4_hasAnswer
set_option maxRecDepth 20000 in
theorem km_RL_66 : Cond.methodLink RL 66 yX6_amount ∈ zTbl := zmem 572 rfl rfl
theorem gm_RL_66 : GoodIn zTbl (wsV RL 66 RX6 yX6_amount wsX6_amount) := zgV km_RL_66 ki_X6_amount ke_X6_amount kn_RX6 kc_X6_amount
set_option maxRecDepth 20000 in
theorem km_RX6_98 : Cond.methodLink RX6 98 yX4_amountPart ∈ zTbl := zmem 576 rfl rfl
theorem gm_RX6_98 : GoodIn zTbl (wsV RX6 98 RX4 yX4_amountPart wsX4_amountPart) := zgV km_RX6_98 ki_X4_amountPart ke_X4_amountPart kn_RX4 kc_X4_amountPart
set_option maxRecDepth 20000 in
theorem km_RX4_152 : Cond.methodLink RX4 152 yX3_stages ∈ zTbl := zmem 580 rfl rfl
theorem gm_RX4_152 : GoodIn zTbl (wsV RX4 152 RX3 yX3_stages wsX3_stages) := zgV km_RX4_152 ki_X3_stages ke_X3_stages kn_RX3 kc_X3_stages
set_option maxRecDepth 20000 in
theorem km_RX4_155 : Cond.methodLink RX4 155 yX4_topAt ∈ zTbl := zmem 584 rfl rfl
theorem gm_RX4_155 : GoodIn zTbl (wsV RX4 155 RX4 yX4_topAt wsX4_topAt) := zgV km_RX4_155 ki_X4_topAt ke_X4_topAt kn_RX4 kc_X4_topAt
set_option maxRecDepth 20000 in
theorem km_RL_71 : Cond.methodLink RL 71 yX6_idle ∈ zTbl := zmem 588 rfl rfl
theorem gm_RL_71 : GoodIn zTbl (wsV RL 71 RX6 yX6_idle wsX6_idle) := zgV km_RL_71 ki_X6_idle ke_X6_idle kn_RX6 kc_X6_idle
set_option maxRecDepth 20000 in
theorem km_RX6_102 : Cond.methodLink RX6 102 yX4_idleFacts ∈ zTbl := zmem 592 rfl rfl
theorem gm_RX6_102 : GoodIn zTbl (wsV RX6 102 RX4 yX4_idleFacts wsX4_idleFacts) := zgV km_RX6_102 ki_X4_idleFacts ke_X4_idleFacts kn_RX4 kc_X4_idleFacts
set_option maxRecDepth 20000 in
theorem km_RX4_170 : Cond.methodLink RX4 170 yX4_isSettledBy ∈ zTbl := zmem 596 rfl rfl
theorem gm_RX4_170 : GoodIn zTbl (wsV RX4 170 RX4 yX4_isSettledBy wsX4_isSettledBy) := zgV km_RX4_170 ki_X4_isSettledBy ke_X4_isSettledBy kn_RX4 kc_X4_isSettledBy
set_option maxRecDepth 20000 in
theorem km_RX4_176 : Cond.methodLink RX4 176 yX4_factsOf ∈ zTbl := zmem 600 rfl rfl
theorem gm_RX4_176 : GoodIn zTbl (wsV RX4 176 RX4 yX4_factsOf wsX4_factsOf) := zgV km_RX4_176 ki_X4_factsOf ke_X4_factsOf kn_RX4 kc_X4_factsOf
set_option maxRecDepth 20000 in
theorem km_RL_75 : Cond.methodLink RL 75 yX6_enough ∈ zTbl := zmem 604 rfl rfl
theorem gm_RL_75 : GoodIn zTbl (wsV RL 75 RX6 yX6_enough wsX6_enough) := zgV km_RL_75 ki_X6_enough ke_X6_enough kn_RX6 kc_X6_enough
set_option maxRecDepth 20000 in
theorem km_RX6_105 : Cond.methodLink RX6 105 yX4_fewestFacts ∈ zTbl := zmem 608 rfl rfl
theorem gm_RX6_105 : GoodIn zTbl (wsV RX6 105 RX4 yX4_fewestFacts wsX4_fewestFacts) := zgV km_RX6_105 ki_X4_fewestFacts ke_X4_fewestFacts kn_RX4 kc_X4_fewestFacts
set_option maxRecDepth 20000 in
theorem km_RX4_173 : Cond.methodLink RX4 173 yX4_idleFacts ∈ zTbl := zmem 612 rfl rfl
theorem gm_RX4_173 : GoodIn zTbl (wsV RX4 173 RX4 yX4_idleFacts wsX4_idleFacts) := zgV km_RX4_173 ki_X4_idleFacts ke_X4_idleFacts kn_RX4 kc_X4_idleFacts
set_option maxRecDepth 20000 in
theorem km_RX4_179 : Cond.methodLink RX4 179 yX4_seekFewest ∈ zTbl := zmem 613 rfl rfl
theorem gm_RX4_179 : GoodIn zTbl (wsV RX4 179 RX4 yX4_seekFewest wsX4_seekFewest) := zgV km_RX4_179 ki_X4_seekFewest ke_X4_seekFewest kn_RX4 kc_X4_seekFewest
set_option maxRecDepth 20000 in
theorem km_RX4_182 : Cond.methodLink RX4 182 yJ6_bitCount_0f7a4 ∈ zTbl := zmem 617 rfl rfl
theorem gm_RX4_182 : GoodIn zTbl (va_wsS RX4 182 yJ6_bitCount_0f7a4 wsJ6_bitCount_0f7a4) := zgS km_RX4_182 ks_J6_bitCount_0f7a4 kn_RJ6 kc_J6_bitCount_0f7a4
set_option maxRecDepth 20000 in
theorem km_RL_79 : Cond.methodLink RL 79 yX6_lacking ∈ zTbl := zmem 623 rfl rfl
theorem gm_RL_79 : GoodIn zTbl (wsV RL 79 RX6 yX6_lacking wsX6_lacking) := zgV km_RL_79 ki_X6_lacking ke_X6_lacking kn_RX6 kc_X6_lacking
set_option maxRecDepth 20000 in
theorem km_RX6_108 : Cond.methodLink RX6 108 yX4_lackingName ∈ zTbl := zmem 627 rfl rfl
theorem gm_RX6_108 : GoodIn zTbl (wsV RX6 108 RX4 yX4_lackingName wsX4_lackingName) := zgV km_RX6_108 ki_X4_lackingName ke_X4_lackingName kn_RX4 kc_X4_lackingName
set_option maxRecDepth 20000 in
theorem km_RX4_166 : Cond.methodLink RX4 166 yX4_areAlongside ∈ zTbl := zmem 631 rfl rfl
theorem gm_RX4_166 : GoodIn zTbl (va_wsS RX4 166 yX4_areAlongside wsX4_areAlongside) := zgS km_RX4_166 ks_X4_areAlongside kn_RX4 kc_X4_areAlongside
set_option maxRecDepth 20000 in
theorem km_RL_83 : Cond.methodLink RL 83 yX6_strange ∈ zTbl := zmem 634 rfl rfl
theorem gm_RL_83 : GoodIn zTbl (wsV RL 83 RX6 yX6_strange wsX6_strange) := zgV km_RL_83 ki_X6_strange ke_X6_strange kn_RX6 kc_X6_strange
set_option maxRecDepth 20000 in
theorem km_RX6_111 : Cond.methodLink RX6 111 yX4_strangePart ∈ zTbl := zmem 638 rfl rfl
theorem gm_RX6_111 : GoodIn zTbl (wsV RX6 111 RX4 yX4_strangePart wsX4_strangePart) := zgV km_RX6_111 ki_X4_strangePart ke_X4_strangePart kn_RX4 kc_X4_strangePart
set_option maxRecDepth 20000 in
theorem km_RX4_158 : Cond.methodLink RX4 158 yX4_isStrange ∈ zTbl := zmem 642 rfl rfl
theorem gm_RX4_158 : GoodIn zTbl (wsV RX4 158 RX4 yX4_isStrange wsX4_isStrange) := zgV km_RX4_158 ki_X4_isStrange ke_X4_isStrange kn_RX4 kc_X4_isStrange
set_option maxRecDepth 20000 in
theorem km_RX4_162 : Cond.methodLink RX4 162 yX4_choose ∈ zTbl := zmem 646 rfl rfl
theorem gm_RX4_162 : GoodIn zTbl (va_wsS RX4 162 yX4_choose wsX4_choose) := zgS km_RX4_162 ks_X4_choose kn_RX4 kc_X4_choose
set_option maxRecDepth 20000 in
theorem km_RL_87 : Cond.methodLink RL 87 yX6_put ∈ zTbl := zmem 649 rfl rfl
theorem gm_RL_87 : GoodIn zTbl (wsV RL 87 RX6 yX6_put wsX6_put) := zgV km_RL_87 ki_X6_put ke_X6_put kn_RX6 kc_X6_put
set_option maxRecDepth 20000 in
theorem km_RX6_114 : Cond.methodLink RX6 114 yX3_allows ∈ zTbl := zmem 653 rfl rfl
theorem gm_RX6_114 : GoodIn zTbl (wsV RX6 114 RX3 yX3_allows wsX3_allows) := zgV km_RX6_114 ki_X3_allows ke_X3_allows kn_RX3 kc_X3_allows
set_option maxRecDepth 20000 in
theorem km_RX3_42 : Cond.methodLink RX3 42 yX3_part ∈ zTbl := zmem 657 rfl rfl
theorem gm_RX3_42 : GoodIn zTbl (wsV RX3 42 RX3 yX3_part wsX3_part) := zgV km_RX3_42 ki_X3_part ke_X3_part kn_RX3 kc_X3_part
set_option maxRecDepth 20000 in
theorem km_RX6_84 : Cond.methodLink RX6 84 yX3_part ∈ zTbl := zmem 658 rfl rfl
theorem gm_RX6_84 : GoodIn zTbl (wsV RX6 84 RX3 yX3_part wsX3_part) := zgV km_RX6_84 ki_X3_part ke_X3_part kn_RX3 kc_X3_part
set_option maxRecDepth 20000 in
theorem km_RX6_118 : Cond.methodLink RX6 118 yX0_keep ∈ zTbl := zmem 659 rfl rfl
theorem gm_RX6_118 : GoodIn zTbl (wsV RX6 118 RX0 yX0_keep wsX0_keep) := zgV km_RX6_118 ki_X0_keep ke_X0_keep kn_RX0 kc_X0_keep
set_option maxRecDepth 20000 in
theorem km_RX0_22 : Cond.methodLink RX0 22 yX0_dropFirst ∈ zTbl := zmem 663 rfl rfl
theorem gm_RX0_22 : GoodIn zTbl (wsV RX0 22 RX0 yX0_dropFirst wsX0_dropFirst) := zgV km_RX0_22 ki_X0_dropFirst ke_X0_dropFirst kn_RX0 kc_X0_dropFirst
set_option maxRecDepth 20000 in
theorem km_RX6_122 : Cond.methodLink RX6 122 yX3_setNumber ∈ zTbl := zmem 667 rfl rfl
theorem gm_RX6_122 : GoodIn zTbl (wsV RX6 122 RX3 yX3_setNumber wsX3_setNumber) := zgV km_RX6_122 ki_X3_setNumber ke_X3_setNumber kn_RX3 kc_X3_setNumber
set_option maxRecDepth 20000 in
theorem km_RX6_125 : Cond.methodLink RX6 125 yX4_solve ∈ zTbl := zmem 671 rfl rfl
theorem gm_RX6_125 : GoodIn zTbl (wsV RX6 125 RX4 yX4_solve wsX4_solve) := zgV km_RX6_125 ki_X4_solve ke_X4_solve kn_RX4 kc_X4_solve
set_option maxRecDepth 20000 in
theorem km_RL_92 : Cond.methodLink RL 92 yX6_undo ∈ zTbl := zmem 672 rfl rfl
theorem gm_RL_92 : GoodIn zTbl (wsV RL 92 RX6 yX6_undo wsX6_undo) := zgV km_RL_92 ki_X6_undo ke_X6_undo kn_RX6 kc_X6_undo
set_option maxRecDepth 20000 in
theorem km_RX6_128 : Cond.methodLink RX6 128 yX0_size ∈ zTbl := zmem 676 rfl rfl
theorem gm_RX6_128 : GoodIn zTbl (wsV RX6 128 RX0 yX0_size wsX0_size) := zgV km_RX6_128 ki_X0_size ke_X0_size kn_RX0 kc_X0_size
set_option maxRecDepth 20000 in
theorem km_RX6_129 : Cond.methodLink RX6 129 yX0_lastSentence ∈ zTbl := zmem 680 rfl rfl
theorem gm_RX6_129 : GoodIn zTbl (wsV RX6 129 RX0 yX0_lastSentence wsX0_lastSentence) := zgV km_RX6_129 ki_X0_lastSentence ke_X0_lastSentence kn_RX0 kc_X0_lastSentence
set_option maxRecDepth 20000 in
theorem km_RX6_132 : Cond.methodLink RX6 132 yX0_lastNumber ∈ zTbl := zmem 684 rfl rfl
theorem gm_RX6_132 : GoodIn zTbl (wsV RX6 132 RX0 yX0_lastNumber wsX0_lastNumber) := zgV km_RX6_132 ki_X0_lastNumber ke_X0_lastNumber kn_RX0 kc_X0_lastNumber
set_option maxRecDepth 20000 in
theorem km_RX6_135 : Cond.methodLink RX6 135 yX0_dropLast ∈ zTbl := zmem 688 rfl rfl
theorem gm_RX6_135 : GoodIn zTbl (wsV RX6 135 RX0 yX0_dropLast wsX0_dropLast) := zgV km_RX6_135 ki_X0_dropLast ke_X0_dropLast kn_RX0 kc_X0_dropLast
set_option maxRecDepth 20000 in
theorem km_RL_96 : Cond.methodLink RL 96 yX6_count ∈ zTbl := zmem 692 rfl rfl
theorem gm_RL_96 : GoodIn zTbl (wsV RL 96 RX6 yX6_count wsX6_count) := zgV km_RL_96 ki_X6_count ke_X6_count kn_RX6 kc_X6_count
set_option maxRecDepth 20000 in
theorem km_RX6_138 : Cond.methodLink RX6 138 yX3_facts ∈ zTbl := zmem 696 rfl rfl
theorem gm_RX6_138 : GoodIn zTbl (wsV RX6 138 RX3 yX3_facts wsX3_facts) := zgV km_RX6_138 ki_X3_facts ke_X3_facts kn_RX3 kc_X3_facts
set_option maxRecDepth 20000 in
theorem km_RX6_141 : Cond.methodLink RX6 141 yJ6_bitCount_0f7a4 ∈ zTbl := zmem 697 rfl rfl
theorem gm_RX6_141 : GoodIn zTbl (va_wsS RX6 141 yJ6_bitCount_0f7a4 wsJ6_bitCount_0f7a4) := zgS km_RX6_141 ks_J6_bitCount_0f7a4 kn_RJ6 kc_J6_bitCount_0f7a4
set_option maxRecDepth 20000 in
theorem km_RX6_146 : Cond.methodLink RX6 146 yX3_stages ∈ zTbl := zmem 698 rfl rfl
theorem gm_RX6_146 : GoodIn zTbl (wsV RX6 146 RX3 yX3_stages wsX3_stages) := zgV km_RX6_146 ki_X3_stages ke_X3_stages kn_RX3 kc_X3_stages
set_option maxRecDepth 20000 in
theorem km_RX6_149 : Cond.methodLink RX6 149 yX4_settledAtFirst ∈ zTbl := zmem 699 rfl rfl
theorem gm_RX6_149 : GoodIn zTbl (wsV RX6 149 RX4 yX4_settledAtFirst wsX4_settledAtFirst) := zgV km_RX6_149 ki_X4_settledAtFirst ke_X4_settledAtFirst kn_RX4 kc_X4_settledAtFirst
set_option maxRecDepth 20000 in
theorem km_RL_7 : Cond.methodLink RL 7 yX6_sentence ∈ zTbl := zmem 707 rfl rfl
theorem gm_RL_7 : GoodIn zTbl (wsV RL 7 RX6 yX6_sentence wsX6_sentence) := zgV km_RL_7 ki_X6_sentence ke_X6_sentence kn_RX6 kc_X6_sentence
set_option maxRecDepth 20000 in
theorem km_RX6_78 : Cond.methodLink RX6 78 yX3_has ∈ zTbl := zmem 711 rfl rfl
theorem gm_RX6_78 : GoodIn zTbl (wsV RX6 78 RX3 yX3_has wsX3_has) := zgV km_RX6_78 ki_X3_has ke_X3_has kn_RX3 kc_X3_has
set_option maxRecDepth 20000 in
theorem km_RL_18 : Cond.methodLink RL 18 yX7_init ∈ zTbl := zmem 775 rfl rfl
theorem gm_RL_18 : GoodIn zTbl wsX7_init := zgI kc_X7_init
set_option maxRecDepth 20000 in
theorem km_RL_49 : Cond.methodLink RL 49 yX7_thrown ∈ zTbl := zmem 861 rfl rfl
theorem gm_RL_49 : GoodIn zTbl (wsV RL 49 RX7 yX7_thrown wsX7_thrown) := zgV km_RL_49 ki_X7_thrown ke_X7_thrown kn_RX7 kc_X7_thrown
set_option maxRecDepth 20000 in
theorem km_RL_23 : Cond.methodLink RL 23 yX7_feed ∈ zTbl := zmem 865 rfl rfl
theorem gm_RL_23 : GoodIn zTbl (wsV RL 23 RX7 yX7_feed wsX7_feed) := zgV km_RL_23 ki_X7_feed ke_X7_feed kn_RX7 kc_X7_feed
set_option maxRecDepth 20000 in
theorem km_RX7_49 : Cond.methodLink RX7 49 yX7_bytesIn ∈ zTbl := zmem 869 rfl rfl
theorem gm_RX7_49 : GoodIn zTbl (va_wsS RX7 49 yX7_bytesIn wsX7_bytesIn) := zgS km_RX7_49 ks_X7_bytesIn kn_RX7 kc_X7_bytesIn
set_option maxRecDepth 20000 in
theorem km_RX7_53 : Cond.methodLink RX7 53 yX7_put4 ∈ zTbl := zmem 872 rfl rfl
theorem gm_RX7_53 : GoodIn zTbl (wsV RX7 53 RX7 yX7_put4 wsX7_put4) := zgV km_RX7_53 ki_X7_put4 ke_X7_put4 kn_RX7 kc_X7_put4
set_option maxRecDepth 20000 in
theorem km_RL_28 : Cond.methodLink RL 28 yX7_end ∈ zTbl := zmem 876 rfl rfl
theorem gm_RL_28 : GoodIn zTbl (wsV RL 28 RX7 yX7_end wsX7_end) := zgV km_RL_28 ki_X7_end ke_X7_end kn_RX7 kc_X7_end
set_option maxRecDepth 20000 in
theorem km_RL_33 : Cond.methodLink RL 33 yX7_fault ∈ zTbl := zmem 880 rfl rfl
theorem gm_RL_33 : GoodIn zTbl (wsV RL 33 RX7 yX7_fault wsX7_fault) := zgV km_RL_33 ki_X7_fault ke_X7_fault kn_RX7 kc_X7_fault
set_option maxRecDepth 20000 in
theorem km_RX7_202 : Cond.methodLink RX7 202 yX7_reads ∈ zTbl := zmem 884 rfl rfl
theorem gm_RX7_202 : GoodIn zTbl (wsV RX7 202 RX7 yX7_reads wsX7_reads) := zgV km_RX7_202 ki_X7_reads ke_X7_reads kn_RX7 kc_X7_reads
set_option maxRecDepth 20000 in
theorem km_RX7_83 : Cond.methodLink RX7 83 yX7_next ∈ zTbl := zmem 888 rfl rfl
theorem gm_RX7_83 : GoodIn zTbl (wsV RX7 83 RX7 yX7_next wsX7_next) := zgV km_RX7_83 ki_X7_next ke_X7_next kn_RX7 kc_X7_next
set_option maxRecDepth 20000 in
theorem km_RX7_63 : Cond.methodLink RX7 63 yX7_isSmall ∈ zTbl := zmem 892 rfl rfl
theorem gm_RX7_63 : GoodIn zTbl (va_wsS RX7 63 yX7_isSmall wsX7_isSmall) := zgS km_RX7_63 ks_X7_isSmall kn_RX7 kc_X7_isSmall
set_option maxRecDepth 20000 in
theorem km_RX7_67 : Cond.methodLink RX7 67 yX7_isDigit ∈ zTbl := zmem 895 rfl rfl
theorem gm_RX7_67 : GoodIn zTbl (va_wsS RX7 67 yX7_isDigit wsX7_isDigit) := zgS km_RX7_67 ks_X7_isDigit kn_RX7 kc_X7_isDigit
set_option maxRecDepth 20000 in
theorem km_RX7_79 : Cond.methodLink RX7 79 yX7_is ∈ zTbl := zmem 899 rfl rfl
theorem gm_RX7_79 : GoodIn zTbl (wsV RX7 79 RX7 yX7_is wsX7_is) := zgV km_RX7_79 ki_X7_is ke_X7_is kn_RX7 kc_X7_is
set_option maxRecDepth 20000 in
theorem km_RX7_70 : Cond.methodLink RX7 70 yJ0_length_8abf5 ∈ zTbl := zmem 903 rfl rfl
theorem gm_RX7_70 : GoodIn zTbl (wsV RX7 70 RJ0 yJ0_length_8abf5 wsJ0_length_8abf5) := zgV km_RX7_70 ki_J0_length_8abf5 ke_J0_length_8abf5 kn_RJ0 kc_J0_length_8abf5
set_option maxRecDepth 20000 in
theorem km_RX7_75 : Cond.methodLink RX7 75 yJ0_charAt_5068e ∈ zTbl := zmem 904 rfl rfl
theorem gm_RX7_75 : GoodIn zTbl (wsV RX7 75 RJ0 yJ0_charAt_5068e wsJ0_charAt_5068e) := zgV km_RX7_75 ki_J0_charAt_5068e ke_J0_charAt_5068e kn_RJ0 kc_J0_charAt_5068e
set_option maxRecDepth 20000 in
theorem km_RX7_114 : Cond.methodLink RX7 114 yX7_name ∈ zTbl := zmem 905 rfl rfl
theorem gm_RX7_114 : GoodIn zTbl (wsV RX7 114 RX7 yX7_name wsX7_name) := zgV km_RX7_114 ki_X7_name ke_X7_name kn_RX7 kc_X7_name
set_option maxRecDepth 20000 in
theorem km_RX7_94 : Cond.methodLink RX7 94 yX7_one ∈ zTbl := zmem 913 rfl rfl
theorem gm_RX7_94 : GoodIn zTbl (va_wsS RX7 94 yX7_one wsX7_one) := zgS km_RX7_94 ks_X7_one kn_RX7 kc_X7_one
set_option maxRecDepth 20000 in
theorem km_RX7_196 : Cond.methodLink RX7 196 yX7_sentence ∈ zTbl := zmem 920 rfl rfl
theorem gm_RX7_196 : GoodIn zTbl (wsV RX7 196 RX7 yX7_sentence wsX7_sentence) := zgV km_RX7_196 ki_X7_sentence ke_X7_sentence kn_RX7 kc_X7_sentence
set_option maxRecDepth 20000 in
theorem km_RX7_135 : Cond.methodLink RX7 135 yX7_takesName ∈ zTbl := zmem 924 rfl rfl
theorem gm_RX7_135 : GoodIn zTbl (wsV RX7 135 RX7 yX7_takesName wsX7_takesName) := zgV km_RX7_135 ki_X7_takesName ke_X7_takesName kn_RX7 kc_X7_takesName
set_option maxRecDepth 20000 in
theorem km_RX7_141 : Cond.methodLink RX7 141 yX7_takes ∈ zTbl := zmem 929 rfl rfl
theorem gm_RX7_141 : GoodIn zTbl (wsV RX7 141 RX7 yX7_takes wsX7_takes) := zgV km_RX7_141 ki_X7_takes ke_X7_takes kn_RX7 kc_X7_takes
set_option maxRecDepth 20000 in
theorem km_RX7_149 : Cond.methodLink RX7 149 yX7_takesNumber ∈ zTbl := zmem 934 rfl rfl
theorem gm_RX7_149 : GoodIn zTbl (wsV RX7 149 RX7 yX7_takesNumber wsX7_takesNumber) := zgV km_RX7_149 ki_X7_takesNumber ke_X7_takesNumber kn_RX7 kc_X7_takesNumber
set_option maxRecDepth 20000 in
theorem km_RX7_129 : Cond.methodLink RX7 129 yX7_number ∈ zTbl := zmem 938 rfl rfl
theorem gm_RX7_129 : GoodIn zTbl (wsV RX7 129 RX7 yX7_number wsX7_number) := zgV km_RX7_129 ki_X7_number ke_X7_number kn_RX7 kc_X7_number
set_option maxRecDepth 20000 in
theorem km_RX7_153 : Cond.methodLink RX7 153 yX7_takesUnit ∈ zTbl := zmem 942 rfl rfl
theorem gm_RX7_153 : GoodIn zTbl (wsV RX7 153 RX7 yX7_takesUnit wsX7_takesUnit) := zgV km_RX7_153 ki_X7_takesUnit ke_X7_takesUnit kn_RX7 kc_X7_takesUnit
set_option maxRecDepth 20000 in
theorem km_RX7_123 : Cond.methodLink RX7 123 yX7_unit ∈ zTbl := zmem 946 rfl rfl
theorem gm_RX7_123 : GoodIn zTbl (wsV RX7 123 RX7 yX7_unit wsX7_unit) := zgV km_RX7_123 ki_X7_unit ke_X7_unit kn_RX7 kc_X7_unit
set_option maxRecDepth 20000 in
theorem km_RX7_176 : Cond.methodLink RX7 176 yX7_isIn ∈ zTbl := zmem 964 rfl rfl
theorem gm_RX7_176 : GoodIn zTbl (va_wsS RX7 176 yX7_isIn wsX7_isIn) := zgS km_RX7_176 ks_X7_isIn kn_RX7 kc_X7_isIn
set_option maxRecDepth 20000 in
theorem km_RX7_199 : Cond.methodLink RX7 199 yX7_asks ∈ zTbl := zmem 969 rfl rfl
theorem gm_RX7_199 : GoodIn zTbl (wsV RX7 199 RX7 yX7_asks wsX7_asks) := zgV km_RX7_199 ki_X7_asks ke_X7_asks kn_RX7 kc_X7_asks
set_option maxRecDepth 20000 in
theorem km_RL_38 : Cond.methodLink RL 38 yX7_tale ∈ zTbl := zmem 975 rfl rfl
theorem gm_RL_38 : GoodIn zTbl (wsV RL 38 RX7 yX7_tale wsX7_tale) := zgV km_RL_38 ki_X7_tale ke_X7_tale kn_RX7 kc_X7_tale
set_option maxRecDepth 20000 in
theorem km_RL_42 : Cond.methodLink RL 42 yX7_sentences ∈ zTbl := zmem 979 rfl rfl
theorem gm_RL_42 : GoodIn zTbl (wsV RL 42 RX7 yX7_sentences wsX7_sentences) := zgV km_RL_42 ki_X7_sentences ke_X7_sentences kn_RX7 kc_X7_sentences
set_option maxRecDepth 20000 in
theorem km_RL_48 : Cond.methodLink RL 48 yX7_sentence_ ∈ zTbl := zmem 983 rfl rfl
theorem gm_RL_48 : GoodIn zTbl (wsV RL 48 RX7 yX7_sentence_ wsX7_sentence_) := zgV km_RL_48 ki_X7_sentence_ ke_X7_sentence_ kn_RX7 kc_X7_sentence_
set_option maxRecDepth 20000 in
theorem km_RX7_214 : Cond.methodLink RX7 214 yX7_of ∈ zTbl := zmem 987 rfl rfl
theorem gm_RX7_214 : GoodIn zTbl (wsV RX7 214 RX7 yX7_of wsX7_of) := zgV km_RX7_214 ki_X7_of ke_X7_of kn_RX7 kc_X7_of
set_option maxRecDepth 20000 in
theorem km_RL_56 : Cond.methodLink RL 56 yX7_question ∈ zTbl := zmem 991 rfl rfl
theorem gm_RL_56 : GoodIn zTbl (wsV RL 56 RX7 yX7_question wsX7_question) := zgV km_RL_56 ki_X7_question ke_X7_question kn_RX7 kc_X7_question
set_option maxRecDepth 20000 in
theorem km_RL_60 : Cond.methodLink RL 60 yX7_quarrel ∈ zTbl := zmem 995 rfl rfl
theorem gm_RL_60 : GoodIn zTbl (wsV RL 60 RX7 yX7_quarrel wsX7_quarrel) := zgV km_RL_60 ki_X7_quarrel ke_X7_quarrel kn_RX7 kc_X7_quarrel
set_option maxRecDepth 20000 in
theorem km_RX7_255 : Cond.methodLink RX7 255 yX7_quarrelAt ∈ zTbl := zmem 999 rfl rfl
theorem gm_RX7_255 : GoodIn zTbl (wsV RX7 255 RX7 yX7_quarrelAt wsX7_quarrelAt) := zgV km_RX7_255 ki_X7_quarrelAt ke_X7_quarrelAt kn_RX7 kc_X7_quarrelAt
set_option maxRecDepth 20000 in
theorem km_RX7_235 : Cond.methodLink RX7 235 yX7_isFact ∈ zTbl := zmem 1003 rfl rfl
theorem gm_RX7_235 : GoodIn zTbl (wsV RX7 235 RX7 yX7_isFact wsX7_isFact) := zgV km_RX7_235 ki_X7_isFact ke_X7_isFact kn_RX7 kc_X7_isFact
set_option maxRecDepth 20000 in
theorem km_RX7_251 : Cond.methodLink RX7 251 yX7_gather ∈ zTbl := zmem 1007 rfl rfl
theorem gm_RX7_251 : GoodIn zTbl (wsV RX7 251 RX7 yX7_gather wsX7_gather) := zgV km_RX7_251 ki_X7_gather ke_X7_gather kn_RX7 kc_X7_gather
set_option maxRecDepth 20000 in
theorem km_RX7_238 : Cond.methodLink RX7 238 yX7_law ∈ zTbl := zmem 1011 rfl rfl
theorem gm_RX7_238 : GoodIn zTbl (wsV RX7 238 RX7 yX7_law wsX7_law) := zgV km_RX7_238 ki_X7_law ke_X7_law kn_RX7 kc_X7_law
set_option maxRecDepth 20000 in
theorem km_RX7_223 : Cond.methodLink RX7 223 yX7_more ∈ zTbl := zmem 1015 rfl rfl
theorem gm_RX7_223 : GoodIn zTbl (wsV RX7 223 RX7 yX7_more wsX7_more) := zgV km_RX7_223 ki_X7_more ke_X7_more kn_RX7 kc_X7_more
set_option maxRecDepth 20000 in
theorem km_RX7_241 : Cond.methodLink RX7 241 yX7_adds ∈ zTbl := zmem 1020 rfl rfl
theorem gm_RX7_241 : GoodIn zTbl (wsV RX7 241 RX7 yX7_adds wsX7_adds) := zgV km_RX7_241 ki_X7_adds ke_X7_adds kn_RX7 kc_X7_adds
set_option maxRecDepth 20000 in
theorem km_RX7_231 : Cond.methodLink RX7 231 yX7_common ∈ zTbl := zmem 1024 rfl rfl
theorem gm_RX7_231 : GoodIn zTbl (va_wsS RX7 231 yX7_common wsX7_common) := zgS km_RX7_231 ks_X7_common kn_RX7 kc_X7_common
set_option maxRecDepth 20000 in
theorem km_RX7_217 : Cond.methodLink RX7 217 yJ9_abs_067f4 ∈ zTbl := zmem 1027 rfl rfl
theorem gm_RX7_217 : GoodIn zTbl (va_wsS RX7 217 yJ9_abs_067f4 wsJ9_abs_067f4) := zgS km_RX7_217 ks_J9_abs_067f4 kn_RJ9 kc_J9_abs_067f4
set_option maxRecDepth 20000 in
theorem km_RL_65 : Cond.methodLink RL 65 yX7_answer ∈ zTbl := zmem 1030 rfl rfl
theorem gm_RL_65 : GoodIn zTbl (wsV RL 65 RX7 yX7_answer wsX7_answer) := zgV km_RL_65 ki_X7_answer ke_X7_answer kn_RX7 kc_X7_answer
set_option maxRecDepth 20000 in
theorem km_RX7_267 : Cond.methodLink RX7 267 yX7_hasAnswer ∈ zTbl := zmem 1034 rfl rfl
theorem gm_RX7_267 : GoodIn zTbl (wsV RX7 267 RX7 yX7_hasAnswer wsX7_hasAnswer) := zgV km_RX7_267 ki_X7_hasAnswer ke_X7_hasAnswer kn_RX7 kc_X7_hasAnswer
set_option maxRecDepth 20000 in
theorem km_RX7_261 : Cond.methodLink RX7 261 yX7_all ∈ zTbl := zmem 1038 rfl rfl
theorem gm_RX7_261 : GoodIn zTbl (wsV RX7 261 RX7 yX7_all wsX7_all) := zgV km_RX7_261 ki_X7_all ke_X7_all kn_RX7 kc_X7_all
set_option maxRecDepth 20000 in
theorem km_RX7_264 : Cond.methodLink RX7 264 yX7_answersBy ∈ zTbl := zmem 1042 rfl rfl
theorem gm_RX7_264 : GoodIn zTbl (wsV RX7 264 RX7 yX7_answersBy wsX7_answersBy) := zgV km_RX7_264 ki_X7_answersBy ke_X7_answersBy kn_RX7 kc_X7_answersBy
set_option maxRecDepth 20000 in
theorem km_RX7_258 : Cond.methodLink RX7 258 yX7_settles ∈ zTbl := zmem 1046 rfl rfl
theorem gm_RX7_258 : GoodIn zTbl (wsV RX7 258 RX7 yX7_settles wsX7_settles) := zgV km_RX7_258 ki_X7_settles ke_X7_settles kn_RX7 kc_X7_settles
set_option maxRecDepth 20000 in
theorem km_RX7_272 : Cond.methodLink RX7 272 yX7_part ∈ zTbl := zmem 1051 rfl rfl
theorem gm_RX7_272 : GoodIn zTbl (wsV RX7 272 RX7 yX7_part wsX7_part) := zgV km_RX7_272 ki_X7_part ke_X7_part kn_RX7 kc_X7_part
set_option maxRecDepth 20000 in
theorem km_RL_70 : Cond.methodLink RL 70 yX7_amount ∈ zTbl := zmem 1055 rfl rfl
theorem gm_RL_70 : GoodIn zTbl (wsV RL 70 RX7 yX7_amount wsX7_amount) := zgV km_RL_70 ki_X7_amount ke_X7_amount kn_RX7 kc_X7_amount
set_option maxRecDepth 20000 in
theorem km_RX7_276 : Cond.methodLink RX7 276 yX7_stages ∈ zTbl := zmem 1059 rfl rfl
theorem gm_RX7_276 : GoodIn zTbl (wsV RX7 276 RX7 yX7_stages wsX7_stages) := zgV km_RX7_276 ki_X7_stages ke_X7_stages kn_RX7 kc_X7_stages
set_option maxRecDepth 20000 in
theorem km_RX7_279 : Cond.methodLink RX7 279 yX7_amounts ∈ zTbl := zmem 1063 rfl rfl
theorem gm_RX7_279 : GoodIn zTbl (wsV RX7 279 RX7 yX7_amounts wsX7_amounts) := zgV km_RX7_279 ki_X7_amounts ke_X7_amounts kn_RX7 kc_X7_amounts
set_option maxRecDepth 20000 in
theorem km_RL_74 : Cond.methodLink RL 74 yX7_idle ∈ zTbl := zmem 1067 rfl rfl
theorem gm_RL_74 : GoodIn zTbl (wsV RL 74 RX7 yX7_idle wsX7_idle) := zgV km_RL_74 ki_X7_idle ke_X7_idle kn_RX7 kc_X7_idle
set_option maxRecDepth 20000 in
theorem km_RL_78 : Cond.methodLink RL 78 yX7_enough ∈ zTbl := zmem 1071 rfl rfl
theorem gm_RL_78 : GoodIn zTbl (wsV RL 78 RX7 yX7_enough wsX7_enough) := zgV km_RL_78 ki_X7_enough ke_X7_enough kn_RX7 kc_X7_enough
set_option maxRecDepth 20000 in
theorem km_RX7_282 : Cond.methodLink RX7 282 yX7_facts ∈ zTbl := zmem 1075 rfl rfl
theorem gm_RX7_282 : GoodIn zTbl (wsV RX7 282 RX7 yX7_facts wsX7_facts) := zgV km_RX7_282 ki_X7_facts ke_X7_facts kn_RX7 kc_X7_facts
set_option maxRecDepth 20000 in
theorem km_RX7_285 : Cond.methodLink RX7 285 yJ6_bitCount_0f7a4 ∈ zTbl := zmem 1079 rfl rfl
theorem gm_RX7_285 : GoodIn zTbl (va_wsS RX7 285 yJ6_bitCount_0f7a4 wsJ6_bitCount_0f7a4) := zgS km_RX7_285 ks_J6_bitCount_0f7a4 kn_RJ6 kc_J6_bitCount_0f7a4
set_option maxRecDepth 20000 in
theorem km_RL_82 : Cond.methodLink RL 82 yX7_lacking ∈ zTbl := zmem 1080 rfl rfl
theorem gm_RL_82 : GoodIn zTbl (wsV RL 82 RX7 yX7_lacking wsX7_lacking) := zgV km_RL_82 ki_X7_lacking ke_X7_lacking kn_RX7 kc_X7_lacking
set_option maxRecDepth 20000 in
theorem km_RL_86 : Cond.methodLink RL 86 yX7_strange ∈ zTbl := zmem 1084 rfl rfl
theorem gm_RL_86 : GoodIn zTbl (wsV RL 86 RX7 yX7_strange wsX7_strange) := zgV km_RL_86 ki_X7_strange ke_X7_strange kn_RX7 kc_X7_strange
set_option maxRecDepth 20000 in
theorem km_RL_91 : Cond.methodLink RL 91 yX7_put ∈ zTbl := zmem 1088 rfl rfl
theorem gm_RL_91 : GoodIn zTbl (wsV RL 91 RX7 yX7_put wsX7_put) := zgV km_RL_91 ki_X7_put ke_X7_put kn_RX7 kc_X7_put
set_option maxRecDepth 20000 in
theorem km_RL_95 : Cond.methodLink RL 95 yX7_undo ∈ zTbl := zmem 1092 rfl rfl
theorem gm_RL_95 : GoodIn zTbl (wsV RL 95 RX7 yX7_undo wsX7_undo) := zgV km_RL_95 ki_X7_undo ke_X7_undo kn_RX7 kc_X7_undo
set_option maxRecDepth 20000 in
theorem km_RL_99 : Cond.methodLink RL 99 yX7_count ∈ zTbl := zmem 1096 rfl rfl
theorem gm_RL_99 : GoodIn zTbl (wsV RL 99 RX7 yX7_count wsX7_count) := zgV km_RL_99 ki_X7_count ke_X7_count kn_RX7 kc_X7_count
end
section
theorem dJ0_length_8abf5_0 : decode cJ0_length_8abf5 0 = .ok (.aload_n 0, 1) := by decide +kernel
theorem dJ0_length_8abf5_1 : decode cJ0_length_8abf5 1 = .ok (.getfield 9, 3) := by decide +kernel
theorem dJ0_length_8abf5_4 : decode cJ0_length_8abf5 4 = .ok (.arraylength, 1) := by decide +kernel
theorem dJ0_length_8abf5_5 : decode cJ0_length_8abf5 5 = .ok (.aload_n 0, 1) := by decide +kernel
theorem dJ0_length_8abf5_6 : decode cJ0_length_8abf5 6 = .ok (.invokevirtual 335, 3) := by decide +kernel
theorem dJ0_length_8abf5_9 : decode cJ0_length_8abf5 9 = .ok (.ishr, 1) := by decide +kernel
theorem dJ0_length_8abf5_10 : decode cJ0_length_8abf5 10 = .ok (.ireturn, 1) := by decide +kernel
theorem dJ0_charAt_5068e_0 : decode cJ0_charAt_5068e 0 = .ok (.aload_n 0, 1) := by decide +kernel
theorem dJ0_charAt_5068e_1 : decode cJ0_charAt_5068e 1 = .ok (.invokevirtual 492, 3) := by decide +kernel
theorem dJ0_charAt_5068e_4 : decode cJ0_charAt_5068e 4 = .ok (.ifCond .eq 12, 3) := by decide +kernel
theorem dJ0_charAt_5068e_7 : decode cJ0_charAt_5068e 7 = .ok (.aload_n 0, 1) := by decide +kernel
theorem dJ0_charAt_5068e_8 : decode cJ0_charAt_5068e 8 = .ok (.getfield 9, 3) := by decide +kernel
theorem dJ0_charAt_5068e_11 : decode cJ0_charAt_5068e 11 = .ok (.iload_n 1, 1) := by decide +kernel
theorem dJ0_charAt_5068e_12 : decode cJ0_charAt_5068e 12 = .ok (.invokestatic 495, 3) := by decide +kernel
theorem dJ0_charAt_5068e_15 : decode cJ0_charAt_5068e 15 = .ok (.ireturn, 1) := by decide +kernel
theorem dJ0_charAt_5068e_16 : decode cJ0_charAt_5068e 16 = .ok (.aload_n 0, 1) := by decide +kernel
theorem dJ0_charAt_5068e_17 : decode cJ0_charAt_5068e 17 = .ok (.getfield 9, 3) := by decide +kernel
theorem dJ0_charAt_5068e_20 : decode cJ0_charAt_5068e 20 = .ok (.iload_n 1, 1) := by decide +kernel
theorem dJ0_charAt_5068e_21 : decode cJ0_charAt_5068e 21 = .ok (.invokestatic 498, 3) := by decide +kernel
theorem dJ0_charAt_5068e_24 : decode cJ0_charAt_5068e 24 = .ok (.ireturn, 1) := by decide +kernel
theorem dJ0_coder_7d493_0 : decode cJ0_coder_7d493 0 = .ok (.getstatic 38, 3) := by decide +kernel
theorem dJ0_coder_7d493_3 : decode cJ0_coder_7d493 3 = .ok (.ifCond .eq 10, 3) := by decide +kernel
theorem dJ0_coder_7d493_6 : decode cJ0_coder_7d493 6 = .ok (.aload_n 0, 1) := by decide +kernel
theorem dJ0_coder_7d493_7 : decode cJ0_coder_7d493 7 = .ok (.getfield 15, 3) := by decide +kernel
theorem dJ0_coder_7d493_10 : decode cJ0_coder_7d493 10 = .ok (.goto 4, 3) := by decide +kernel
theorem dJ0_coder_7d493_13 : decode cJ0_coder_7d493 13 = .ok (.iconst 1, 1) := by decide +kernel
theorem dJ0_coder_7d493_14 : decode cJ0_coder_7d493 14 = .ok (.ireturn, 1) := by decide +kernel
theorem dJ0_isLatin1_aae02_0 : decode cJ0_isLatin1_aae02 0 = .ok (.getstatic 38, 3) := by decide +kernel
theorem dJ0_isLatin1_aae02_3 : decode cJ0_isLatin1_aae02 3 = .ok (.ifCond .eq 14, 3) := by decide +kernel
theorem dJ0_isLatin1_aae02_6 : decode cJ0_isLatin1_aae02 6 = .ok (.aload_n 0, 1) := by decide +kernel
theorem dJ0_isLatin1_aae02_7 : decode cJ0_isLatin1_aae02 7 = .ok (.getfield 15, 3) := by decide +kernel
theorem dJ0_isLatin1_aae02_10 : decode cJ0_isLatin1_aae02 10 = .ok (.ifCond .ne 7, 3) := by decide +kernel
theorem dJ0_isLatin1_aae02_13 : decode cJ0_isLatin1_aae02 13 = .ok (.iconst 1, 1) := by decide +kernel
theorem dJ0_isLatin1_aae02_14 : decode cJ0_isLatin1_aae02 14 = .ok (.goto 4, 3) := by decide +kernel
theorem dJ0_isLatin1_aae02_17 : decode cJ0_isLatin1_aae02 17 = .ok (.iconst 0, 1) := by decide +kernel
theorem dJ0_isLatin1_aae02_18 : decode cJ0_isLatin1_aae02 18 = .ok (.ireturn, 1) := by decide +kernel
theorem dJ0_checkIndex_df160_0 : decode cJ0_checkIndex_df160 0 = .ok (.iload_n 0, 1) := by decide +kernel
theorem dJ0_checkIndex_df160_1 : decode cJ0_checkIndex_df160 1 = .ok (.iload_n 1, 1) := by decide +kernel
theorem dJ0_checkIndex_df160_2 : decode cJ0_checkIndex_df160 2 = .ok (.getstatic 1053, 3) := by decide +kernel
theorem dJ0_checkIndex_df160_5 : decode cJ0_checkIndex_df160 5 = .ok (.invokestatic 1059, 3) := by decide +kernel
theorem dJ0_checkIndex_df160_8 : decode cJ0_checkIndex_df160 8 = .ok (.pop, 1) := by decide +kernel
theorem dJ0_checkIndex_df160_9 : decode cJ0_checkIndex_df160 9 = .ok (.return_, 1) := by decide +kernel
end
section
theorem dJ1_charAt_3b067_0 : decode cJ1_charAt_3b067 0 = .ok (.iload_n 1, 1) := by decide +kernel
theorem dJ1_charAt_3b067_1 : decode cJ1_charAt_3b067 1 = .ok (.aload_n 0, 1) := by decide +kernel
theorem dJ1_charAt_3b067_2 : decode cJ1_charAt_3b067 2 = .ok (.arraylength, 1) := by decide +kernel
theorem dJ1_charAt_3b067_3 : decode cJ1_charAt_3b067 3 = .ok (.invokestatic 9, 3) := by decide +kernel
theorem dJ1_charAt_3b067_6 : decode cJ1_charAt_3b067 6 = .ok (.aload_n 0, 1) := by decide +kernel
theorem dJ1_charAt_3b067_7 : decode cJ1_charAt_3b067 7 = .ok (.iload_n 1, 1) := by decide +kernel
theorem dJ1_charAt_3b067_8 : decode cJ1_charAt_3b067 8 = .ok (.baload, 1) := by decide +kernel
theorem dJ1_charAt_3b067_9 : decode cJ1_charAt_3b067 9 = .ok (.sipush 255, 3) := by decide +kernel
theorem dJ1_charAt_3b067_12 : decode cJ1_charAt_3b067 12 = .ok (.iand, 1) := by decide +kernel
theorem dJ1_charAt_3b067_13 : decode cJ1_charAt_3b067 13 = .ok (.i2c, 1) := by decide +kernel
theorem dJ1_charAt_3b067_14 : decode cJ1_charAt_3b067 14 = .ok (.ireturn, 1) := by decide +kernel
end
section
theorem dJ2_getChar_3b067_0 : decode cJ2_getChar_3b067 0 = .ok (.getstatic 44, 3) := by decide +kernel
theorem dJ2_getChar_3b067_3 : decode cJ2_getChar_3b067 3 = .ok (.ifCond .ne 25, 3) := by decide +kernel
theorem dJ2_getChar_3b067_6 : decode cJ2_getChar_3b067 6 = .ok (.iload_n 1, 1) := by decide +kernel
theorem dJ2_getChar_3b067_7 : decode cJ2_getChar_3b067 7 = .ok (.ifCond .lt 11, 3) := by decide +kernel
theorem dJ2_getChar_3b067_10 : decode cJ2_getChar_3b067 10 = .ok (.iload_n 1, 1) := by decide +kernel
theorem dJ2_getChar_3b067_11 : decode cJ2_getChar_3b067 11 = .ok (.aload_n 0, 1) := by decide +kernel
theorem dJ2_getChar_3b067_12 : decode cJ2_getChar_3b067 12 = .ok (.invokestatic 48, 3) := by decide +kernel
theorem dJ2_getChar_3b067_15 : decode cJ2_getChar_3b067 15 = .ok (.if_icmp .lt 13, 3) := by decide +kernel
theorem dJ2_getChar_3b067_18 : decode cJ2_getChar_3b067 18 = .ok (.new 52, 3) := by decide +kernel
theorem dJ2_getChar_3b067_21 : decode cJ2_getChar_3b067 21 = .ok (.dup, 1) := by decide +kernel
theorem dJ2_getChar_3b067_22 : decode cJ2_getChar_3b067 22 = .ok (.ldc 54, 2) := by decide +kernel
theorem dJ2_getChar_3b067_24 : decode cJ2_getChar_3b067 24 = .ok (.invokespecial 56, 3) := by decide +kernel
theorem dJ2_getChar_3b067_27 : decode cJ2_getChar_3b067 27 = .ok (.athrow, 1) := by decide +kernel
theorem dJ2_getChar_3b067_28 : decode cJ2_getChar_3b067 28 = .ok (.iload_n 1, 1) := by decide +kernel
theorem dJ2_getChar_3b067_29 : decode cJ2_getChar_3b067 29 = .ok (.iconst 1, 1) := by decide +kernel
theorem dJ2_getChar_3b067_30 : decode cJ2_getChar_3b067 30 = .ok (.ishl, 1) := by decide +kernel
theorem dJ2_getChar_3b067_31 : decode cJ2_getChar_3b067 31 = .ok (.istore_n 1, 1) := by decide +kernel
theorem dJ2_getChar_3b067_32 : decode cJ2_getChar_3b067 32 = .ok (.aload_n 0, 1) := by decide +kernel
theorem dJ2_getChar_3b067_33 : decode cJ2_getChar_3b067 33 = .ok (.iload_n 1, 1) := by decide +kernel
theorem dJ2_getChar_3b067_34 : decode cJ2_getChar_3b067 34 = .ok (.iinc 1 1, 3) := by decide +kernel
theorem dJ2_getChar_3b067_37 : decode cJ2_getChar_3b067 37 = .ok (.baload, 1) := by decide +kernel
theorem dJ2_getChar_3b067_38 : decode cJ2_getChar_3b067 38 = .ok (.sipush 255, 3) := by decide +kernel
theorem dJ2_getChar_3b067_41 : decode cJ2_getChar_3b067 41 = .ok (.iand, 1) := by decide +kernel
theorem dJ2_getChar_3b067_42 : decode cJ2_getChar_3b067 42 = .ok (.getstatic 59, 3) := by decide +kernel
theorem dJ2_getChar_3b067_45 : decode cJ2_getChar_3b067 45 = .ok (.ishl, 1) := by decide +kernel
theorem dJ2_getChar_3b067_46 : decode cJ2_getChar_3b067 46 = .ok (.aload_n 0, 1) := by decide +kernel
theorem dJ2_getChar_3b067_47 : decode cJ2_getChar_3b067 47 = .ok (.iload_n 1, 1) := by decide +kernel
theorem dJ2_getChar_3b067_48 : decode cJ2_getChar_3b067 48 = .ok (.baload, 1) := by decide +kernel
theorem dJ2_getChar_3b067_49 : decode cJ2_getChar_3b067 49 = .ok (.sipush 255, 3) := by decide +kernel
theorem dJ2_getChar_3b067_52 : decode cJ2_getChar_3b067 52 = .ok (.iand, 1) := by decide +kernel
theorem dJ2_getChar_3b067_53 : decode cJ2_getChar_3b067 53 = .ok (.getstatic 63, 3) := by decide +kernel
theorem dJ2_getChar_3b067_56 : decode cJ2_getChar_3b067 56 = .ok (.ishl, 1) := by decide +kernel
theorem dJ2_getChar_3b067_57 : decode cJ2_getChar_3b067 57 = .ok (.ior, 1) := by decide +kernel
theorem dJ2_getChar_3b067_58 : decode cJ2_getChar_3b067 58 = .ok (.i2c, 1) := by decide +kernel
theorem dJ2_getChar_3b067_59 : decode cJ2_getChar_3b067 59 = .ok (.ireturn, 1) := by decide +kernel
theorem dJ2_length_9d52b_0 : decode cJ2_length_9d52b 0 = .ok (.aload_n 0, 1) := by decide +kernel
theorem dJ2_length_9d52b_1 : decode cJ2_length_9d52b 1 = .ok (.arraylength, 1) := by decide +kernel
theorem dJ2_length_9d52b_2 : decode cJ2_length_9d52b 2 = .ok (.iconst 1, 1) := by decide +kernel
theorem dJ2_length_9d52b_3 : decode cJ2_length_9d52b 3 = .ok (.ishr, 1) := by decide +kernel
theorem dJ2_length_9d52b_4 : decode cJ2_length_9d52b 4 = .ok (.ireturn, 1) := by decide +kernel
theorem dJ2_charAt_3b067_0 : decode cJ2_charAt_3b067 0 = .ok (.iload_n 1, 1) := by decide +kernel
theorem dJ2_charAt_3b067_1 : decode cJ2_charAt_3b067 1 = .ok (.aload_n 0, 1) := by decide +kernel
theorem dJ2_charAt_3b067_2 : decode cJ2_charAt_3b067 2 = .ok (.invokestatic 67, 3) := by decide +kernel
theorem dJ2_charAt_3b067_5 : decode cJ2_charAt_3b067 5 = .ok (.aload_n 0, 1) := by decide +kernel
theorem dJ2_charAt_3b067_6 : decode cJ2_charAt_3b067 6 = .ok (.iload_n 1, 1) := by decide +kernel
theorem dJ2_charAt_3b067_7 : decode cJ2_charAt_3b067 7 = .ok (.invokestatic 71, 3) := by decide +kernel
theorem dJ2_charAt_3b067_10 : decode cJ2_charAt_3b067 10 = .ok (.ireturn, 1) := by decide +kernel
theorem dJ2_checkIndex_2214a_0 : decode cJ2_checkIndex_2214a 0 = .ok (.iload_n 0, 1) := by decide +kernel
theorem dJ2_checkIndex_2214a_1 : decode cJ2_checkIndex_2214a 1 = .ok (.aload_n 1, 1) := by decide +kernel
theorem dJ2_checkIndex_2214a_2 : decode cJ2_checkIndex_2214a 2 = .ok (.invokestatic 48, 3) := by decide +kernel
theorem dJ2_checkIndex_2214a_5 : decode cJ2_checkIndex_2214a 5 = .ok (.invokestatic 414, 3) := by decide +kernel
theorem dJ2_checkIndex_2214a_8 : decode cJ2_checkIndex_2214a 8 = .ok (.return_, 1) := by decide +kernel
end
section
theorem dJ3_checkIndex_8e157_0 : decode cJ3_checkIndex_8e157 0 = .ok (.iload_n 0, 1) := by decide +kernel
theorem dJ3_checkIndex_8e157_1 : decode cJ3_checkIndex_8e157 1 = .ok (.ifCond .lt 8, 3) := by decide +kernel
theorem dJ3_checkIndex_8e157_4 : decode cJ3_checkIndex_8e157 4 = .ok (.iload_n 0, 1) := by decide +kernel
theorem dJ3_checkIndex_8e157_5 : decode cJ3_checkIndex_8e157 5 = .ok (.iload_n 1, 1) := by decide +kernel
theorem dJ3_checkIndex_8e157_6 : decode cJ3_checkIndex_8e157 6 = .ok (.if_icmp .lt 10, 3) := by decide +kernel
theorem dJ3_checkIndex_8e157_9 : decode cJ3_checkIndex_8e157 9 = .ok (.aload_n 2, 1) := by decide +kernel
theorem dJ3_checkIndex_8e157_10 : decode cJ3_checkIndex_8e157 10 = .ok (.iload_n 0, 1) := by decide +kernel
theorem dJ3_checkIndex_8e157_11 : decode cJ3_checkIndex_8e157 11 = .ok (.iload_n 1, 1) := by decide +kernel
theorem dJ3_checkIndex_8e157_12 : decode cJ3_checkIndex_8e157 12 = .ok (.invokestatic 95, 3) := by decide +kernel
theorem dJ3_checkIndex_8e157_15 : decode cJ3_checkIndex_8e157 15 = .ok (.athrow, 1) := by decide +kernel
theorem dJ3_checkIndex_8e157_16 : decode cJ3_checkIndex_8e157 16 = .ok (.iload_n 0, 1) := by decide +kernel
theorem dJ3_checkIndex_8e157_17 : decode cJ3_checkIndex_8e157 17 = .ok (.ireturn, 1) := by decide +kernel
end
section
theorem dJ6_bitCount_0f7a4_0 : decode cJ6_bitCount_0f7a4 0 = .ok (.iload_n 0, 1) := by decide +kernel
theorem dJ6_bitCount_0f7a4_1 : decode cJ6_bitCount_0f7a4 1 = .ok (.iload_n 0, 1) := by decide +kernel
theorem dJ6_bitCount_0f7a4_2 : decode cJ6_bitCount_0f7a4 2 = .ok (.iconst 1, 1) := by decide +kernel
theorem dJ6_bitCount_0f7a4_3 : decode cJ6_bitCount_0f7a4 3 = .ok (.iushr, 1) := by decide +kernel
theorem dJ6_bitCount_0f7a4_4 : decode cJ6_bitCount_0f7a4 4 = .ok (.ldc_w 265, 3) := by decide +kernel
theorem dJ6_bitCount_0f7a4_7 : decode cJ6_bitCount_0f7a4 7 = .ok (.iand, 1) := by decide +kernel
theorem dJ6_bitCount_0f7a4_8 : decode cJ6_bitCount_0f7a4 8 = .ok (.isub, 1) := by decide +kernel
theorem dJ6_bitCount_0f7a4_9 : decode cJ6_bitCount_0f7a4 9 = .ok (.istore_n 0, 1) := by decide +kernel
theorem dJ6_bitCount_0f7a4_10 : decode cJ6_bitCount_0f7a4 10 = .ok (.iload_n 0, 1) := by decide +kernel
theorem dJ6_bitCount_0f7a4_11 : decode cJ6_bitCount_0f7a4 11 = .ok (.ldc_w 266, 3) := by decide +kernel
theorem dJ6_bitCount_0f7a4_14 : decode cJ6_bitCount_0f7a4 14 = .ok (.iand, 1) := by decide +kernel
theorem dJ6_bitCount_0f7a4_15 : decode cJ6_bitCount_0f7a4 15 = .ok (.iload_n 0, 1) := by decide +kernel
theorem dJ6_bitCount_0f7a4_16 : decode cJ6_bitCount_0f7a4 16 = .ok (.iconst 2, 1) := by decide +kernel
theorem dJ6_bitCount_0f7a4_17 : decode cJ6_bitCount_0f7a4 17 = .ok (.iushr, 1) := by decide +kernel
theorem dJ6_bitCount_0f7a4_18 : decode cJ6_bitCount_0f7a4 18 = .ok (.ldc_w 266, 3) := by decide +kernel
theorem dJ6_bitCount_0f7a4_21 : decode cJ6_bitCount_0f7a4 21 = .ok (.iand, 1) := by decide +kernel
theorem dJ6_bitCount_0f7a4_22 : decode cJ6_bitCount_0f7a4 22 = .ok (.iadd, 1) := by decide +kernel
theorem dJ6_bitCount_0f7a4_23 : decode cJ6_bitCount_0f7a4 23 = .ok (.istore_n 0, 1) := by decide +kernel
theorem dJ6_bitCount_0f7a4_24 : decode cJ6_bitCount_0f7a4 24 = .ok (.iload_n 0, 1) := by decide +kernel
theorem dJ6_bitCount_0f7a4_25 : decode cJ6_bitCount_0f7a4 25 = .ok (.iload_n 0, 1) := by decide +kernel
theorem dJ6_bitCount_0f7a4_26 : decode cJ6_bitCount_0f7a4 26 = .ok (.iconst 4, 1) := by decide +kernel
theorem dJ6_bitCount_0f7a4_27 : decode cJ6_bitCount_0f7a4 27 = .ok (.iushr, 1) := by decide +kernel
theorem dJ6_bitCount_0f7a4_28 : decode cJ6_bitCount_0f7a4 28 = .ok (.iadd, 1) := by decide +kernel
theorem dJ6_bitCount_0f7a4_29 : decode cJ6_bitCount_0f7a4 29 = .ok (.ldc_w 267, 3) := by decide +kernel
theorem dJ6_bitCount_0f7a4_32 : decode cJ6_bitCount_0f7a4 32 = .ok (.iand, 1) := by decide +kernel
theorem dJ6_bitCount_0f7a4_33 : decode cJ6_bitCount_0f7a4 33 = .ok (.istore_n 0, 1) := by decide +kernel
theorem dJ6_bitCount_0f7a4_34 : decode cJ6_bitCount_0f7a4 34 = .ok (.iload_n 0, 1) := by decide +kernel
theorem dJ6_bitCount_0f7a4_35 : decode cJ6_bitCount_0f7a4 35 = .ok (.iload_n 0, 1) := by decide +kernel
theorem dJ6_bitCount_0f7a4_36 : decode cJ6_bitCount_0f7a4 36 = .ok (.bipush 8, 2) := by decide +kernel
theorem dJ6_bitCount_0f7a4_38 : decode cJ6_bitCount_0f7a4 38 = .ok (.iushr, 1) := by decide +kernel
theorem dJ6_bitCount_0f7a4_39 : decode cJ6_bitCount_0f7a4 39 = .ok (.iadd, 1) := by decide +kernel
theorem dJ6_bitCount_0f7a4_40 : decode cJ6_bitCount_0f7a4 40 = .ok (.istore_n 0, 1) := by decide +kernel
theorem dJ6_bitCount_0f7a4_41 : decode cJ6_bitCount_0f7a4 41 = .ok (.iload_n 0, 1) := by decide +kernel
theorem dJ6_bitCount_0f7a4_42 : decode cJ6_bitCount_0f7a4 42 = .ok (.iload_n 0, 1) := by decide +kernel
theorem dJ6_bitCount_0f7a4_43 : decode cJ6_bitCount_0f7a4 43 = .ok (.bipush 16, 2) := by decide +kernel
theorem dJ6_bitCount_0f7a4_45 : decode cJ6_bitCount_0f7a4 45 = .ok (.iushr, 1) := by decide +kernel
theorem dJ6_bitCount_0f7a4_46 : decode cJ6_bitCount_0f7a4 46 = .ok (.iadd, 1) := by decide +kernel
theorem dJ6_bitCount_0f7a4_47 : decode cJ6_bitCount_0f7a4 47 = .ok (.istore_n 0, 1) := by decide +kernel
theorem dJ6_bitCount_0f7a4_48 : decode cJ6_bitCount_0f7a4 48 = .ok (.iload_n 0, 1) := by decide +kernel
theorem dJ6_bitCount_0f7a4_49 : decode cJ6_bitCount_0f7a4 49 = .ok (.bipush 63, 2) := by decide +kernel
theorem dJ6_bitCount_0f7a4_51 : decode cJ6_bitCount_0f7a4 51 = .ok (.iand, 1) := by decide +kernel
theorem dJ6_bitCount_0f7a4_52 : decode cJ6_bitCount_0f7a4 52 = .ok (.ireturn, 1) := by decide +kernel
end
section
theorem dJ7_fill_d0a16_0 : decode cJ7_fill_d0a16 0 = .ok (.iconst 0, 1) := by decide +kernel
theorem dJ7_fill_d0a16_1 : decode cJ7_fill_d0a16 1 = .ok (.istore_n 3, 1) := by decide +kernel
theorem dJ7_fill_d0a16_2 : decode cJ7_fill_d0a16 2 = .ok (.aload_n 0, 1) := by decide +kernel
theorem dJ7_fill_d0a16_3 : decode cJ7_fill_d0a16 3 = .ok (.arraylength, 1) := by decide +kernel
theorem dJ7_fill_d0a16_4 : decode cJ7_fill_d0a16 4 = .ok (.istore 4, 2) := by decide +kernel
theorem dJ7_fill_d0a16_6 : decode cJ7_fill_d0a16 6 = .ok (.iload_n 3, 1) := by decide +kernel
theorem dJ7_fill_d0a16_7 : decode cJ7_fill_d0a16 7 = .ok (.iload 4, 2) := by decide +kernel
theorem dJ7_fill_d0a16_9 : decode cJ7_fill_d0a16 9 = .ok (.if_icmp .ge 13, 3) := by decide +kernel
theorem dJ7_fill_d0a16_12 : decode cJ7_fill_d0a16 12 = .ok (.aload_n 0, 1) := by decide +kernel
theorem dJ7_fill_d0a16_13 : decode cJ7_fill_d0a16 13 = .ok (.iload_n 3, 1) := by decide +kernel
theorem dJ7_fill_d0a16_14 : decode cJ7_fill_d0a16 14 = .ok (.lload_n 1, 1) := by decide +kernel
theorem dJ7_fill_d0a16_15 : decode cJ7_fill_d0a16 15 = .ok (.lastore, 1) := by decide +kernel
theorem dJ7_fill_d0a16_16 : decode cJ7_fill_d0a16 16 = .ok (.iinc 3 1, 3) := by decide +kernel
theorem dJ7_fill_d0a16_19 : decode cJ7_fill_d0a16 19 = .ok (.goto (-13), 3) := by decide +kernel
theorem dJ7_fill_d0a16_22 : decode cJ7_fill_d0a16 22 = .ok (.return_, 1) := by decide +kernel
end
section
theorem dJ9_abs_067f4_0 : decode cJ9_abs_067f4 0 = .ok (.lload_n 0, 1) := by decide +kernel
theorem dJ9_abs_067f4_1 : decode cJ9_abs_067f4 1 = .ok (.lconst 0, 1) := by decide +kernel
theorem dJ9_abs_067f4_2 : decode cJ9_abs_067f4 2 = .ok (.lcmp, 1) := by decide +kernel
theorem dJ9_abs_067f4_3 : decode cJ9_abs_067f4 3 = .ok (.ifCond .ge 8, 3) := by decide +kernel
theorem dJ9_abs_067f4_6 : decode cJ9_abs_067f4 6 = .ok (.lload_n 0, 1) := by decide +kernel
theorem dJ9_abs_067f4_7 : decode cJ9_abs_067f4 7 = .ok (.lneg, 1) := by decide +kernel
theorem dJ9_abs_067f4_8 : decode cJ9_abs_067f4 8 = .ok (.goto 4, 3) := by decide +kernel
theorem dJ9_abs_067f4_11 : decode cJ9_abs_067f4 11 = .ok (.lload_n 0, 1) := by decide +kernel
theorem dJ9_abs_067f4_12 : decode cJ9_abs_067f4 12 = .ok (.lreturn, 1) := by decide +kernel
end
section
theorem dX3_init_0 : decode cX3_init 0 = .ok (.aload_n 0, 1) := by decide +kernel
theorem dX3_init_1 : decode cX3_init 1 = .ok (.invokespecial 3, 3) := by decide +kernel
theorem dX3_init_4 : decode cX3_init 4 = .ok (.aload_n 0, 1) := by decide +kernel
theorem dX3_init_5 : decode cX3_init 5 = .ok (.bipush 10, 2) := by decide +kernel
theorem dX3_init_7 : decode cX3_init 7 = .ok (.bipush 7, 2) := by decide +kernel
theorem dX3_init_9 : decode cX3_init 9 = .ok (.multianewarray 9 2, 4) := by decide +kernel
theorem dX3_init_13 : decode cX3_init 13 = .ok (.putfield 11, 3) := by decide +kernel
theorem dX3_init_16 : decode cX3_init 16 = .ok (.aload_n 0, 1) := by decide +kernel
theorem dX3_init_17 : decode cX3_init 17 = .ok (.iconst 5, 1) := by decide +kernel
theorem dX3_init_18 : decode cX3_init 18 = .ok (.newarray .int, 2) := by decide +kernel
theorem dX3_init_20 : decode cX3_init 20 = .ok (.putfield 16, 3) := by decide +kernel
theorem dX3_init_23 : decode cX3_init 23 = .ok (.aload_n 0, 1) := by decide +kernel
theorem dX3_init_24 : decode cX3_init 24 = .ok (.iconst 0, 1) := by decide +kernel
theorem dX3_init_25 : decode cX3_init 25 = .ok (.putfield 20, 3) := by decide +kernel
theorem dX3_init_28 : decode cX3_init 28 = .ok (.aload_n 0, 1) := by decide +kernel
theorem dX3_init_29 : decode cX3_init 29 = .ok (.iconst 0, 1) := by decide +kernel
theorem dX3_init_30 : decode cX3_init 30 = .ok (.putfield 24, 3) := by decide +kernel
theorem dX3_init_33 : decode cX3_init 33 = .ok (.aload_n 0, 1) := by decide +kernel
theorem dX3_init_34 : decode cX3_init 34 = .ok (.iconst 0, 1) := by decide +kernel
theorem dX3_init_35 : decode cX3_init 35 = .ok (.putfield 27, 3) := by decide +kernel
theorem dX3_init_38 : decode cX3_init 38 = .ok (.aload_n 0, 1) := by decide +kernel
theorem dX3_init_39 : decode cX3_init 39 = .ok (.iconst 0, 1) := by decide +kernel
theorem dX3_init_40 : decode cX3_init 40 = .ok (.putfield 30, 3) := by decide +kernel
theorem dX3_init_43 : decode cX3_init 43 = .ok (.return_, 1) := by decide +kernel
theorem dX3_clear_0 : decode cX3_clear 0 = .ok (.aload_n 0, 1) := by decide +kernel
theorem dX3_clear_1 : decode cX3_clear 1 = .ok (.iconst 0, 1) := by decide +kernel
theorem dX3_clear_2 : decode cX3_clear 2 = .ok (.putfield 20, 3) := by decide +kernel
theorem dX3_clear_5 : decode cX3_clear 5 = .ok (.aload_n 0, 1) := by decide +kernel
theorem dX3_clear_6 : decode cX3_clear 6 = .ok (.iconst 0, 1) := by decide +kernel
theorem dX3_clear_7 : decode cX3_clear 7 = .ok (.putfield 24, 3) := by decide +kernel
theorem dX3_clear_10 : decode cX3_clear 10 = .ok (.aload_n 0, 1) := by decide +kernel
theorem dX3_clear_11 : decode cX3_clear 11 = .ok (.iconst 0, 1) := by decide +kernel
theorem dX3_clear_12 : decode cX3_clear 12 = .ok (.putfield 27, 3) := by decide +kernel
theorem dX3_clear_15 : decode cX3_clear 15 = .ok (.aload_n 0, 1) := by decide +kernel
theorem dX3_clear_16 : decode cX3_clear 16 = .ok (.iconst 0, 1) := by decide +kernel
theorem dX3_clear_17 : decode cX3_clear 17 = .ok (.putfield 30, 3) := by decide +kernel
theorem dX3_clear_20 : decode cX3_clear 20 = .ok (.return_, 1) := by decide +kernel
theorem dX3_open_0 : decode cX3_open 0 = .ok (.aload_n 0, 1) := by decide +kernel
theorem dX3_open_1 : decode cX3_open 1 = .ok (.iconst 0, 1) := by decide +kernel
theorem dX3_open_2 : decode cX3_open 2 = .ok (.iconst (-1), 1) := by decide +kernel
theorem dX3_open_3 : decode cX3_open 3 = .ok (.invokevirtual 34, 3) := by decide +kernel
theorem dX3_open_6 : decode cX3_open 6 = .ok (.aload_n 0, 1) := by decide +kernel
theorem dX3_open_7 : decode cX3_open 7 = .ok (.iconst 1, 1) := by decide +kernel
theorem dX3_open_8 : decode cX3_open 8 = .ok (.iload_n 1, 1) := by decide +kernel
theorem dX3_open_9 : decode cX3_open 9 = .ok (.invokevirtual 34, 3) := by decide +kernel
theorem dX3_open_12 : decode cX3_open 12 = .ok (.aload_n 0, 1) := by decide +kernel
theorem dX3_open_13 : decode cX3_open 13 = .ok (.iconst 2, 1) := by decide +kernel
theorem dX3_open_14 : decode cX3_open 14 = .ok (.iconst (-1), 1) := by decide +kernel
theorem dX3_open_15 : decode cX3_open 15 = .ok (.invokevirtual 34, 3) := by decide +kernel
theorem dX3_open_18 : decode cX3_open 18 = .ok (.aload_n 0, 1) := by decide +kernel
theorem dX3_open_19 : decode cX3_open 19 = .ok (.iconst 3, 1) := by decide +kernel
theorem dX3_open_20 : decode cX3_open 20 = .ok (.iconst (-1), 1) := by decide +kernel
theorem dX3_open_21 : decode cX3_open 21 = .ok (.invokevirtual 34, 3) := by decide +kernel
theorem dX3_open_24 : decode cX3_open 24 = .ok (.aload_n 0, 1) := by decide +kernel
theorem dX3_open_25 : decode cX3_open 25 = .ok (.iconst 4, 1) := by decide +kernel
theorem dX3_open_26 : decode cX3_open 26 = .ok (.iconst 0, 1) := by decide +kernel
theorem dX3_open_27 : decode cX3_open 27 = .ok (.invokevirtual 34, 3) := by decide +kernel
theorem dX3_open_30 : decode cX3_open 30 = .ok (.aload_n 0, 1) := by decide +kernel
theorem dX3_open_31 : decode cX3_open 31 = .ok (.iconst 5, 1) := by decide +kernel
theorem dX3_open_32 : decode cX3_open 32 = .ok (.aload_n 0, 1) := by decide +kernel
theorem dX3_open_33 : decode cX3_open 33 = .ok (.getfield 24, 3) := by decide +kernel
theorem dX3_open_36 : decode cX3_open 36 = .ok (.invokevirtual 34, 3) := by decide +kernel
theorem dX3_open_39 : decode cX3_open 39 = .ok (.aload_n 0, 1) := by decide +kernel
theorem dX3_open_40 : decode cX3_open 40 = .ok (.bipush 6, 2) := by decide +kernel
theorem dX3_open_42 : decode cX3_open 42 = .ok (.iload_n 2, 1) := by decide +kernel
theorem dX3_open_43 : decode cX3_open 43 = .ok (.invokevirtual 34, 3) := by decide +kernel
theorem dX3_open_46 : decode cX3_open 46 = .ok (.return_, 1) := by decide +kernel
theorem dX3_tell_0 : decode cX3_tell 0 = .ok (.aload_n 0, 1) := by decide +kernel
theorem dX3_tell_1 : decode cX3_tell 1 = .ok (.getfield 20, 3) := by decide +kernel
theorem dX3_tell_4 : decode cX3_tell 4 = .ok (.bipush 10, 2) := by decide +kernel
theorem dX3_tell_6 : decode cX3_tell 6 = .ok (.if_icmp .ge 25, 3) := by decide +kernel
theorem dX3_tell_9 : decode cX3_tell 9 = .ok (.iload_n 1, 1) := by decide +kernel
theorem dX3_tell_10 : decode cX3_tell 10 = .ok (.ifCond .lt 21, 3) := by decide +kernel
theorem dX3_tell_13 : decode cX3_tell 13 = .ok (.iload_n 1, 1) := by decide +kernel
theorem dX3_tell_14 : decode cX3_tell 14 = .ok (.bipush 7, 2) := by decide +kernel
theorem dX3_tell_16 : decode cX3_tell 16 = .ok (.if_icmp .ge 15, 3) := by decide +kernel
theorem dX3_tell_19 : decode cX3_tell 19 = .ok (.aload_n 0, 1) := by decide +kernel
theorem dX3_tell_20 : decode cX3_tell 20 = .ok (.getfield 11, 3) := by decide +kernel
theorem dX3_tell_23 : decode cX3_tell 23 = .ok (.aload_n 0, 1) := by decide +kernel
theorem dX3_tell_24 : decode cX3_tell 24 = .ok (.getfield 20, 3) := by decide +kernel
theorem dX3_tell_27 : decode cX3_tell 27 = .ok (.aaload, 1) := by decide +kernel
theorem dX3_tell_28 : decode cX3_tell 28 = .ok (.iload_n 1, 1) := by decide +kernel
theorem dX3_tell_29 : decode cX3_tell 29 = .ok (.iload_n 2, 1) := by decide +kernel
theorem dX3_tell_30 : decode cX3_tell 30 = .ok (.iastore, 1) := by decide +kernel
theorem dX3_tell_31 : decode cX3_tell 31 = .ok (.return_, 1) := by decide +kernel
theorem dX3_close_0 : decode cX3_close 0 = .ok (.aload_n 0, 1) := by decide +kernel
theorem dX3_close_1 : decode cX3_close 1 = .ok (.getfield 20, 3) := by decide +kernel
theorem dX3_close_4 : decode cX3_close 4 = .ok (.bipush 10, 2) := by decide +kernel
theorem dX3_close_6 : decode cX3_close 6 = .ok (.if_icmp .lt 4, 3) := by decide +kernel
theorem dX3_close_9 : decode cX3_close 9 = .ok (.return_, 1) := by decide +kernel
theorem dX3_close_10 : decode cX3_close 10 = .ok (.aload_n 0, 1) := by decide +kernel
theorem dX3_close_11 : decode cX3_close 11 = .ok (.getfield 11, 3) := by decide +kernel
theorem dX3_close_14 : decode cX3_close 14 = .ok (.aload_n 0, 1) := by decide +kernel
theorem dX3_close_15 : decode cX3_close 15 = .ok (.getfield 20, 3) := by decide +kernel
theorem dX3_close_18 : decode cX3_close 18 = .ok (.aaload, 1) := by decide +kernel
theorem dX3_close_19 : decode cX3_close 19 = .ok (.iconst 0, 1) := by decide +kernel
theorem dX3_close_20 : decode cX3_close 20 = .ok (.iaload, 1) := by decide +kernel
theorem dX3_close_21 : decode cX3_close 21 = .ok (.iconst 4, 1) := by decide +kernel
theorem dX3_close_22 : decode cX3_close 22 = .ok (.if_icmp .gt 21, 3) := by decide +kernel
theorem dX3_close_25 : decode cX3_close 25 = .ok (.aload_n 0, 1) := by decide +kernel
theorem dX3_close_26 : decode cX3_close 26 = .ok (.dup, 1) := by decide +kernel
theorem dX3_close_27 : decode cX3_close 27 = .ok (.getfield 27, 3) := by decide +kernel
theorem dX3_close_30 : decode cX3_close 30 = .ok (.iconst 1, 1) := by decide +kernel
theorem dX3_close_31 : decode cX3_close 31 = .ok (.aload_n 0, 1) := by decide +kernel
theorem dX3_close_32 : decode cX3_close 32 = .ok (.getfield 20, 3) := by decide +kernel
theorem dX3_close_35 : decode cX3_close 35 = .ok (.ishl, 1) := by decide +kernel
theorem dX3_close_36 : decode cX3_close 36 = .ok (.ior, 1) := by decide +kernel
theorem dX3_close_37 : decode cX3_close 37 = .ok (.putfield 27, 3) := by decide +kernel
theorem dX3_close_40 : decode cX3_close 40 = .ok (.goto 13, 3) := by decide +kernel
theorem dX3_close_43 : decode cX3_close 43 = .ok (.aload_n 0, 1) := by decide +kernel
theorem dX3_close_44 : decode cX3_close 44 = .ok (.dup, 1) := by decide +kernel
theorem dX3_close_45 : decode cX3_close 45 = .ok (.getfield 24, 3) := by decide +kernel
theorem dX3_close_48 : decode cX3_close 48 = .ok (.iconst 1, 1) := by decide +kernel
theorem dX3_close_49 : decode cX3_close 49 = .ok (.iadd, 1) := by decide +kernel
theorem dX3_close_50 : decode cX3_close 50 = .ok (.putfield 24, 3) := by decide +kernel
theorem dX3_close_53 : decode cX3_close 53 = .ok (.aload_n 0, 1) := by decide +kernel
theorem dX3_close_54 : decode cX3_close 54 = .ok (.dup, 1) := by decide +kernel
theorem dX3_close_55 : decode cX3_close 55 = .ok (.getfield 20, 3) := by decide +kernel
theorem dX3_close_58 : decode cX3_close 58 = .ok (.iconst 1, 1) := by decide +kernel
theorem dX3_close_59 : decode cX3_close 59 = .ok (.iadd, 1) := by decide +kernel
theorem dX3_close_60 : decode cX3_close 60 = .ok (.putfield 20, 3) := by decide +kernel
theorem dX3_close_63 : decode cX3_close 63 = .ok (.return_, 1) := by decide +kernel
theorem dX3_ask_0 : decode cX3_ask 0 = .ok (.aload_n 0, 1) := by decide +kernel
theorem dX3_ask_1 : decode cX3_ask 1 = .ok (.getfield 16, 3) := by decide +kernel
theorem dX3_ask_4 : decode cX3_ask 4 = .ok (.iconst 0, 1) := by decide +kernel
theorem dX3_ask_5 : decode cX3_ask 5 = .ok (.iload_n 1, 1) := by decide +kernel
theorem dX3_ask_6 : decode cX3_ask 6 = .ok (.iastore, 1) := by decide +kernel
theorem dX3_ask_7 : decode cX3_ask 7 = .ok (.aload_n 0, 1) := by decide +kernel
theorem dX3_ask_8 : decode cX3_ask 8 = .ok (.getfield 16, 3) := by decide +kernel
theorem dX3_ask_11 : decode cX3_ask 11 = .ok (.iconst 1, 1) := by decide +kernel
theorem dX3_ask_12 : decode cX3_ask 12 = .ok (.iload_n 2, 1) := by decide +kernel
theorem dX3_ask_13 : decode cX3_ask 13 = .ok (.iastore, 1) := by decide +kernel
theorem dX3_ask_14 : decode cX3_ask 14 = .ok (.aload_n 0, 1) := by decide +kernel
theorem dX3_ask_15 : decode cX3_ask 15 = .ok (.getfield 16, 3) := by decide +kernel
theorem dX3_ask_18 : decode cX3_ask 18 = .ok (.iconst 2, 1) := by decide +kernel
theorem dX3_ask_19 : decode cX3_ask 19 = .ok (.iload_n 3, 1) := by decide +kernel
theorem dX3_ask_20 : decode cX3_ask 20 = .ok (.iastore, 1) := by decide +kernel
theorem dX3_ask_21 : decode cX3_ask 21 = .ok (.aload_n 0, 1) := by decide +kernel
theorem dX3_ask_22 : decode cX3_ask 22 = .ok (.getfield 16, 3) := by decide +kernel
theorem dX3_ask_25 : decode cX3_ask 25 = .ok (.iconst 3, 1) := by decide +kernel
theorem dX3_ask_26 : decode cX3_ask 26 = .ok (.iload 4, 2) := by decide +kernel
theorem dX3_ask_28 : decode cX3_ask 28 = .ok (.iastore, 1) := by decide +kernel
theorem dX3_ask_29 : decode cX3_ask 29 = .ok (.aload_n 0, 1) := by decide +kernel
theorem dX3_ask_30 : decode cX3_ask 30 = .ok (.getfield 16, 3) := by decide +kernel
theorem dX3_ask_33 : decode cX3_ask 33 = .ok (.iconst 4, 1) := by decide +kernel
theorem dX3_ask_34 : decode cX3_ask 34 = .ok (.iload_n 1, 1) := by decide +kernel
theorem dX3_ask_35 : decode cX3_ask 35 = .ok (.iconst 2, 1) := by decide +kernel
theorem dX3_ask_36 : decode cX3_ask 36 = .ok (.if_icmp .ne 7, 3) := by decide +kernel
theorem dX3_ask_39 : decode cX3_ask 39 = .ok (.iconst 0, 1) := by decide +kernel
theorem dX3_ask_40 : decode cX3_ask 40 = .ok (.goto 7, 3) := by decide +kernel
theorem dX3_ask_43 : decode cX3_ask 43 = .ok (.aload_n 0, 1) := by decide +kernel
theorem dX3_ask_44 : decode cX3_ask 44 = .ok (.getfield 24, 3) := by decide +kernel
theorem dX3_ask_47 : decode cX3_ask 47 = .ok (.iastore, 1) := by decide +kernel
theorem dX3_ask_48 : decode cX3_ask 48 = .ok (.aload_n 0, 1) := by decide +kernel
theorem dX3_ask_49 : decode cX3_ask 49 = .ok (.iconst 1, 1) := by decide +kernel
theorem dX3_ask_50 : decode cX3_ask 50 = .ok (.putfield 30, 3) := by decide +kernel
theorem dX3_ask_53 : decode cX3_ask 53 = .ok (.return_, 1) := by decide +kernel
theorem dX3_size_0 : decode cX3_size 0 = .ok (.aload_n 0, 1) := by decide +kernel
theorem dX3_size_1 : decode cX3_size 1 = .ok (.getfield 20, 3) := by decide +kernel
theorem dX3_size_4 : decode cX3_size 4 = .ok (.ireturn, 1) := by decide +kernel
theorem dX3_facts_0 : decode cX3_facts 0 = .ok (.aload_n 0, 1) := by decide +kernel
theorem dX3_facts_1 : decode cX3_facts 1 = .ok (.getfield 27, 3) := by decide +kernel
theorem dX3_facts_4 : decode cX3_facts 4 = .ok (.ireturn, 1) := by decide +kernel
theorem dX3_stages_0 : decode cX3_stages 0 = .ok (.aload_n 0, 1) := by decide +kernel
theorem dX3_stages_1 : decode cX3_stages 1 = .ok (.getfield 30, 3) := by decide +kernel
theorem dX3_stages_4 : decode cX3_stages 4 = .ok (.ifCond .eq 12, 3) := by decide +kernel
theorem dX3_stages_7 : decode cX3_stages 7 = .ok (.aload_n 0, 1) := by decide +kernel
theorem dX3_stages_8 : decode cX3_stages 8 = .ok (.getfield 24, 3) := by decide +kernel
theorem dX3_stages_11 : decode cX3_stages 11 = .ok (.iconst 1, 1) := by decide +kernel
theorem dX3_stages_12 : decode cX3_stages 12 = .ok (.iadd, 1) := by decide +kernel
theorem dX3_stages_13 : decode cX3_stages 13 = .ok (.goto 4, 3) := by decide +kernel
theorem dX3_stages_16 : decode cX3_stages 16 = .ok (.iconst 0, 1) := by decide +kernel
theorem dX3_stages_17 : decode cX3_stages 17 = .ok (.ireturn, 1) := by decide +kernel
theorem dX3_has_0 : decode cX3_has 0 = .ok (.iload_n 1, 1) := by decide +kernel
theorem dX3_has_1 : decode cX3_has 1 = .ok (.ifCond .lt 24, 3) := by decide +kernel
theorem dX3_has_4 : decode cX3_has 4 = .ok (.iload_n 1, 1) := by decide +kernel
theorem dX3_has_5 : decode cX3_has 5 = .ok (.aload_n 0, 1) := by decide +kernel
theorem dX3_has_6 : decode cX3_has 6 = .ok (.getfield 20, 3) := by decide +kernel
theorem dX3_has_9 : decode cX3_has 9 = .ok (.if_icmp .ge 16, 3) := by decide +kernel
theorem dX3_has_12 : decode cX3_has 12 = .ok (.aload_n 0, 1) := by decide +kernel
theorem dX3_has_13 : decode cX3_has 13 = .ok (.getfield 20, 3) := by decide +kernel
theorem dX3_has_16 : decode cX3_has 16 = .ok (.bipush 10, 2) := by decide +kernel
theorem dX3_has_18 : decode cX3_has 18 = .ok (.if_icmp .gt 7, 3) := by decide +kernel
theorem dX3_has_21 : decode cX3_has 21 = .ok (.iconst 1, 1) := by decide +kernel
theorem dX3_has_22 : decode cX3_has 22 = .ok (.goto 4, 3) := by decide +kernel
theorem dX3_has_25 : decode cX3_has 25 = .ok (.iconst 0, 1) := by decide +kernel
theorem dX3_has_26 : decode cX3_has 26 = .ok (.ireturn, 1) := by decide +kernel
theorem dX3_part_0 : decode cX3_part 0 = .ok (.aload_n 0, 1) := by decide +kernel
theorem dX3_part_1 : decode cX3_part 1 = .ok (.iload_n 1, 1) := by decide +kernel
theorem dX3_part_2 : decode cX3_part 2 = .ok (.invokevirtual 38, 3) := by decide +kernel
theorem dX3_part_5 : decode cX3_part 5 = .ok (.ifCond .eq 24, 3) := by decide +kernel
theorem dX3_part_8 : decode cX3_part 8 = .ok (.iload_n 2, 1) := by decide +kernel
theorem dX3_part_9 : decode cX3_part 9 = .ok (.ifCond .lt 20, 3) := by decide +kernel
theorem dX3_part_12 : decode cX3_part 12 = .ok (.iload_n 2, 1) := by decide +kernel
theorem dX3_part_13 : decode cX3_part 13 = .ok (.bipush 7, 2) := by decide +kernel
theorem dX3_part_15 : decode cX3_part 15 = .ok (.if_icmp .ge 14, 3) := by decide +kernel
theorem dX3_part_18 : decode cX3_part 18 = .ok (.aload_n 0, 1) := by decide +kernel
theorem dX3_part_19 : decode cX3_part 19 = .ok (.getfield 11, 3) := by decide +kernel
theorem dX3_part_22 : decode cX3_part 22 = .ok (.iload_n 1, 1) := by decide +kernel
theorem dX3_part_23 : decode cX3_part 23 = .ok (.aaload, 1) := by decide +kernel
theorem dX3_part_24 : decode cX3_part 24 = .ok (.iload_n 2, 1) := by decide +kernel
theorem dX3_part_25 : decode cX3_part 25 = .ok (.iaload, 1) := by decide +kernel
theorem dX3_part_26 : decode cX3_part 26 = .ok (.goto 4, 3) := by decide +kernel
theorem dX3_part_29 : decode cX3_part 29 = .ok (.iconst (-1), 1) := by decide +kernel
theorem dX3_part_30 : decode cX3_part 30 = .ok (.ireturn, 1) := by decide +kernel
theorem dX3_asked_0 : decode cX3_asked 0 = .ok (.aload_n 0, 1) := by decide +kernel
theorem dX3_asked_1 : decode cX3_asked 1 = .ok (.getfield 30, 3) := by decide +kernel
theorem dX3_asked_4 : decode cX3_asked 4 = .ok (.ifCond .eq 21, 3) := by decide +kernel
theorem dX3_asked_7 : decode cX3_asked 7 = .ok (.iload_n 1, 1) := by decide +kernel
theorem dX3_asked_8 : decode cX3_asked 8 = .ok (.ifCond .lt 17, 3) := by decide +kernel
theorem dX3_asked_11 : decode cX3_asked 11 = .ok (.iload_n 1, 1) := by decide +kernel
theorem dX3_asked_12 : decode cX3_asked 12 = .ok (.iconst 5, 1) := by decide +kernel
theorem dX3_asked_13 : decode cX3_asked 13 = .ok (.if_icmp .ge 12, 3) := by decide +kernel
theorem dX3_asked_16 : decode cX3_asked 16 = .ok (.aload_n 0, 1) := by decide +kernel
theorem dX3_asked_17 : decode cX3_asked 17 = .ok (.getfield 16, 3) := by decide +kernel
theorem dX3_asked_20 : decode cX3_asked 20 = .ok (.iload_n 1, 1) := by decide +kernel
theorem dX3_asked_21 : decode cX3_asked 21 = .ok (.iaload, 1) := by decide +kernel
theorem dX3_asked_22 : decode cX3_asked 22 = .ok (.goto 4, 3) := by decide +kernel
theorem dX3_asked_25 : decode cX3_asked 25 = .ok (.iconst (-1), 1) := by decide +kernel
theorem dX3_asked_26 : decode cX3_asked 26 = .ok (.ireturn, 1) := by decide +kernel
theorem dX3_allows_0 : decode cX3_allows 0 = .ok (.aload_n 0, 1) := by decide +kernel
theorem dX3_allows_1 : decode cX3_allows 1 = .ok (.iload_n 1, 1) := by decide +kernel
theorem dX3_allows_2 : decode cX3_allows 2 = .ok (.iconst 0, 1) := by decide +kernel
theorem dX3_allows_3 : decode cX3_allows 3 = .ok (.invokevirtual 42, 3) := by decide +kernel
theorem dX3_allows_6 : decode cX3_allows 6 = .ok (.iconst 3, 1) := by decide +kernel
theorem dX3_allows_7 : decode cX3_allows 7 = .ok (.if_icmp .ne 20, 3) := by decide +kernel
theorem dX3_allows_10 : decode cX3_allows 10 = .ok (.iload_n 2, 1) := by decide +kernel
theorem dX3_allows_11 : decode cX3_allows 11 = .ok (.iconst 2, 1) := by decide +kernel
theorem dX3_allows_12 : decode cX3_allows 12 = .ok (.if_icmp .lt 13, 3) := by decide +kernel
theorem dX3_allows_15 : decode cX3_allows 15 = .ok (.iload_n 2, 1) := by decide +kernel
theorem dX3_allows_16 : decode cX3_allows 16 = .ok (.bipush 9, 2) := by decide +kernel
theorem dX3_allows_18 : decode cX3_allows 18 = .ok (.if_icmp .gt 7, 3) := by decide +kernel
theorem dX3_allows_21 : decode cX3_allows 21 = .ok (.iconst 1, 1) := by decide +kernel
theorem dX3_allows_22 : decode cX3_allows 22 = .ok (.goto 4, 3) := by decide +kernel
theorem dX3_allows_25 : decode cX3_allows 25 = .ok (.iconst 0, 1) := by decide +kernel
theorem dX3_allows_26 : decode cX3_allows 26 = .ok (.ireturn, 1) := by decide +kernel
theorem dX3_allows_27 : decode cX3_allows 27 = .ok (.aload_n 0, 1) := by decide +kernel
theorem dX3_allows_28 : decode cX3_allows 28 = .ok (.iload_n 1, 1) := by decide +kernel
theorem dX3_allows_29 : decode cX3_allows 29 = .ok (.invokevirtual 38, 3) := by decide +kernel
theorem dX3_allows_32 : decode cX3_allows 32 = .ok (.ifCond .eq 18, 3) := by decide +kernel
theorem dX3_allows_35 : decode cX3_allows 35 = .ok (.iload_n 2, 1) := by decide +kernel
theorem dX3_allows_36 : decode cX3_allows 36 = .ok (.ifCond .lt 14, 3) := by decide +kernel
theorem dX3_allows_39 : decode cX3_allows 39 = .ok (.iload_n 2, 1) := by decide +kernel
theorem dX3_allows_40 : decode cX3_allows 40 = .ok (.sipush 999, 3) := by decide +kernel
theorem dX3_allows_43 : decode cX3_allows 43 = .ok (.if_icmp .gt 7, 3) := by decide +kernel
theorem dX3_allows_46 : decode cX3_allows 46 = .ok (.iconst 1, 1) := by decide +kernel
theorem dX3_allows_47 : decode cX3_allows 47 = .ok (.goto 4, 3) := by decide +kernel
theorem dX3_allows_50 : decode cX3_allows 50 = .ok (.iconst 0, 1) := by decide +kernel
theorem dX3_allows_51 : decode cX3_allows 51 = .ok (.ireturn, 1) := by decide +kernel
theorem dX3_setNumber_0 : decode cX3_setNumber 0 = .ok (.aload_n 0, 1) := by decide +kernel
theorem dX3_setNumber_1 : decode cX3_setNumber 1 = .ok (.iload_n 1, 1) := by decide +kernel
theorem dX3_setNumber_2 : decode cX3_setNumber 2 = .ok (.invokevirtual 38, 3) := by decide +kernel
theorem dX3_setNumber_5 : decode cX3_setNumber 5 = .ok (.ifCond .eq 12, 3) := by decide +kernel
theorem dX3_setNumber_8 : decode cX3_setNumber 8 = .ok (.aload_n 0, 1) := by decide +kernel
theorem dX3_setNumber_9 : decode cX3_setNumber 9 = .ok (.getfield 11, 3) := by decide +kernel
theorem dX3_setNumber_12 : decode cX3_setNumber 12 = .ok (.iload_n 1, 1) := by decide +kernel
theorem dX3_setNumber_13 : decode cX3_setNumber 13 = .ok (.aaload, 1) := by decide +kernel
theorem dX3_setNumber_14 : decode cX3_setNumber 14 = .ok (.iconst 4, 1) := by decide +kernel
theorem dX3_setNumber_15 : decode cX3_setNumber 15 = .ok (.iload_n 2, 1) := by decide +kernel
theorem dX3_setNumber_16 : decode cX3_setNumber 16 = .ok (.iastore, 1) := by decide +kernel
theorem dX3_setNumber_17 : decode cX3_setNumber 17 = .ok (.return_, 1) := by decide +kernel
theorem dX3_gain_0 : decode cX3_gain 0 = .ok (.lconst 0, 1) := by decide +kernel
theorem dX3_gain_1 : decode cX3_gain 1 = .ok (.lstore 4, 2) := by decide +kernel
theorem dX3_gain_3 : decode cX3_gain 3 = .ok (.iconst 0, 1) := by decide +kernel
theorem dX3_gain_4 : decode cX3_gain 4 = .ok (.istore 6, 2) := by decide +kernel
theorem dX3_gain_6 : decode cX3_gain 6 = .ok (.iload 6, 2) := by decide +kernel
theorem dX3_gain_8 : decode cX3_gain 8 = .ok (.aload_n 0, 1) := by decide +kernel
theorem dX3_gain_9 : decode cX3_gain 9 = .ok (.getfield 20, 3) := by decide +kernel
theorem dX3_gain_12 : decode cX3_gain 12 = .ok (.if_icmp .ge 53, 3) := by decide +kernel
theorem dX3_gain_15 : decode cX3_gain 15 = .ok (.iload 6, 2) := by decide +kernel
theorem dX3_gain_17 : decode cX3_gain 17 = .ok (.bipush 10, 2) := by decide +kernel
theorem dX3_gain_19 : decode cX3_gain 19 = .ok (.if_icmp .ge 46, 3) := by decide +kernel
theorem dX3_gain_22 : decode cX3_gain 22 = .ok (.aload_n 0, 1) := by decide +kernel
theorem dX3_gain_23 : decode cX3_gain 23 = .ok (.getfield 11, 3) := by decide +kernel
theorem dX3_gain_26 : decode cX3_gain 26 = .ok (.iload 6, 2) := by decide +kernel
theorem dX3_gain_28 : decode cX3_gain 28 = .ok (.aaload, 1) := by decide +kernel
theorem dX3_gain_29 : decode cX3_gain 29 = .ok (.astore 7, 2) := by decide +kernel
theorem dX3_gain_31 : decode cX3_gain 31 = .ok (.aload 7, 2) := by decide +kernel
theorem dX3_gain_33 : decode cX3_gain 33 = .ok (.iconst 3, 1) := by decide +kernel
theorem dX3_gain_34 : decode cX3_gain 34 = .ok (.iaload, 1) := by decide +kernel
theorem dX3_gain_35 : decode cX3_gain 35 = .ok (.iload_n 2, 1) := by decide +kernel
theorem dX3_gain_36 : decode cX3_gain 36 = .ok (.if_icmp .ne 23, 3) := by decide +kernel
theorem dX3_gain_39 : decode cX3_gain 39 = .ok (.aload 7, 2) := by decide +kernel
theorem dX3_gain_41 : decode cX3_gain 41 = .ok (.iconst 5, 1) := by decide +kernel
theorem dX3_gain_42 : decode cX3_gain 42 = .ok (.iaload, 1) := by decide +kernel
theorem dX3_gain_43 : decode cX3_gain 43 = .ok (.iload_n 3, 1) := by decide +kernel
theorem dX3_gain_44 : decode cX3_gain 44 = .ok (.if_icmp .ge 15, 3) := by decide +kernel
theorem dX3_gain_47 : decode cX3_gain 47 = .ok (.lload 4, 2) := by decide +kernel
theorem dX3_gain_49 : decode cX3_gain 49 = .ok (.aload 7, 2) := by decide +kernel
theorem dX3_gain_51 : decode cX3_gain 51 = .ok (.iload_n 1, 1) := by decide +kernel
theorem dX3_gain_52 : decode cX3_gain 52 = .ok (.invokestatic 46, 3) := by decide +kernel
theorem dX3_gain_55 : decode cX3_gain 55 = .ok (.i2l, 1) := by decide +kernel
theorem dX3_gain_56 : decode cX3_gain 56 = .ok (.ladd, 1) := by decide +kernel
theorem dX3_gain_57 : decode cX3_gain 57 = .ok (.lstore 4, 2) := by decide +kernel
theorem dX3_gain_59 : decode cX3_gain 59 = .ok (.iinc 6 1, 3) := by decide +kernel
theorem dX3_gain_62 : decode cX3_gain 62 = .ok (.goto (-56), 3) := by decide +kernel
theorem dX3_gain_65 : decode cX3_gain 65 = .ok (.lload 4, 2) := by decide +kernel
theorem dX3_gain_67 : decode cX3_gain 67 = .ok (.lreturn, 1) := by decide +kernel
theorem dX3_gainBy_0 : decode cX3_gainBy 0 = .ok (.aload_n 0, 1) := by decide +kernel
theorem dX3_gainBy_1 : decode cX3_gainBy 1 = .ok (.iconst 4, 1) := by decide +kernel
theorem dX3_gainBy_2 : decode cX3_gainBy 2 = .ok (.iaload, 1) := by decide +kernel
theorem dX3_gainBy_3 : decode cX3_gainBy 3 = .ok (.istore_n 2, 1) := by decide +kernel
theorem dX3_gainBy_4 : decode cX3_gainBy 4 = .ok (.aload_n 0, 1) := by decide +kernel
theorem dX3_gainBy_5 : decode cX3_gainBy 5 = .ok (.iconst 1, 1) := by decide +kernel
theorem dX3_gainBy_6 : decode cX3_gainBy 6 = .ok (.iaload, 1) := by decide +kernel
theorem dX3_gainBy_7 : decode cX3_gainBy 7 = .ok (.iload_n 1, 1) := by decide +kernel
theorem dX3_gainBy_8 : decode cX3_gainBy 8 = .ok (.if_icmp .ne 7, 3) := by decide +kernel
theorem dX3_gainBy_11 : decode cX3_gainBy 11 = .ok (.iconst 1, 1) := by decide +kernel
theorem dX3_gainBy_12 : decode cX3_gainBy 12 = .ok (.goto 4, 3) := by decide +kernel
theorem dX3_gainBy_15 : decode cX3_gainBy 15 = .ok (.iconst 0, 1) := by decide +kernel
theorem dX3_gainBy_16 : decode cX3_gainBy 16 = .ok (.istore_n 3, 1) := by decide +kernel
theorem dX3_gainBy_17 : decode cX3_gainBy 17 = .ok (.aload_n 0, 1) := by decide +kernel
theorem dX3_gainBy_18 : decode cX3_gainBy 18 = .ok (.iconst 0, 1) := by decide +kernel
theorem dX3_gainBy_19 : decode cX3_gainBy 19 = .ok (.iaload, 1) := by decide +kernel
theorem dX3_gainBy_20 : decode cX3_gainBy 20 = .ok (.tableswitch 69 5 7 #[28, 48, 58], 28) := by decide +kernel
theorem dX3_gainBy_48 : decode cX3_gainBy 48 = .ok (.iload_n 3, 1) := by decide +kernel
theorem dX3_gainBy_49 : decode cX3_gainBy 49 = .ok (.ifCond .eq 6, 3) := by decide +kernel
theorem dX3_gainBy_52 : decode cX3_gainBy 52 = .ok (.iload_n 2, 1) := by decide +kernel
theorem dX3_gainBy_53 : decode cX3_gainBy 53 = .ok (.ineg, 1) := by decide +kernel
theorem dX3_gainBy_54 : decode cX3_gainBy 54 = .ok (.ireturn, 1) := by decide +kernel
theorem dX3_gainBy_55 : decode cX3_gainBy 55 = .ok (.aload_n 0, 1) := by decide +kernel
theorem dX3_gainBy_56 : decode cX3_gainBy 56 = .ok (.iconst 2, 1) := by decide +kernel
theorem dX3_gainBy_57 : decode cX3_gainBy 57 = .ok (.iaload, 1) := by decide +kernel
theorem dX3_gainBy_58 : decode cX3_gainBy 58 = .ok (.iload_n 1, 1) := by decide +kernel
theorem dX3_gainBy_59 : decode cX3_gainBy 59 = .ok (.if_icmp .ne 7, 3) := by decide +kernel
theorem dX3_gainBy_62 : decode cX3_gainBy 62 = .ok (.iload_n 2, 1) := by decide +kernel
theorem dX3_gainBy_63 : decode cX3_gainBy 63 = .ok (.goto 4, 3) := by decide +kernel
theorem dX3_gainBy_66 : decode cX3_gainBy 66 = .ok (.iconst 0, 1) := by decide +kernel
theorem dX3_gainBy_67 : decode cX3_gainBy 67 = .ok (.ireturn, 1) := by decide +kernel
theorem dX3_gainBy_68 : decode cX3_gainBy 68 = .ok (.iload_n 3, 1) := by decide +kernel
theorem dX3_gainBy_69 : decode cX3_gainBy 69 = .ok (.ifCond .eq 7, 3) := by decide +kernel
theorem dX3_gainBy_72 : decode cX3_gainBy 72 = .ok (.iload_n 2, 1) := by decide +kernel
theorem dX3_gainBy_73 : decode cX3_gainBy 73 = .ok (.goto 4, 3) := by decide +kernel
theorem dX3_gainBy_76 : decode cX3_gainBy 76 = .ok (.iconst 0, 1) := by decide +kernel
theorem dX3_gainBy_77 : decode cX3_gainBy 77 = .ok (.ireturn, 1) := by decide +kernel
theorem dX3_gainBy_78 : decode cX3_gainBy 78 = .ok (.iload_n 3, 1) := by decide +kernel
theorem dX3_gainBy_79 : decode cX3_gainBy 79 = .ok (.ifCond .eq 8, 3) := by decide +kernel
theorem dX3_gainBy_82 : decode cX3_gainBy 82 = .ok (.iload_n 2, 1) := by decide +kernel
theorem dX3_gainBy_83 : decode cX3_gainBy 83 = .ok (.ineg, 1) := by decide +kernel
theorem dX3_gainBy_84 : decode cX3_gainBy 84 = .ok (.goto 4, 3) := by decide +kernel
theorem dX3_gainBy_87 : decode cX3_gainBy 87 = .ok (.iconst 0, 1) := by decide +kernel
theorem dX3_gainBy_88 : decode cX3_gainBy 88 = .ok (.ireturn, 1) := by decide +kernel
theorem dX3_gainBy_89 : decode cX3_gainBy 89 = .ok (.iconst 0, 1) := by decide +kernel
theorem dX3_gainBy_90 : decode cX3_gainBy 90 = .ok (.ireturn, 1) := by decide +kernel
end
section
theorem dX5_init_0 : decode cX5_init 0 = .ok (.aload_n 0, 1) := by decide +kernel
theorem dX5_init_1 : decode cX5_init 1 = .ok (.invokespecial 3, 3) := by decide +kernel
theorem dX5_init_4 : decode cX5_init 4 = .ok (.aload_n 0, 1) := by decide +kernel
theorem dX5_init_5 : decode cX5_init 5 = .ok (.sipush 400, 3) := by decide +kernel
theorem dX5_init_8 : decode cX5_init 8 = .ok (.newarray .int, 2) := by decide +kernel
theorem dX5_init_10 : decode cX5_init 10 = .ok (.putfield 9, 3) := by decide +kernel
theorem dX5_init_13 : decode cX5_init 13 = .ok (.aload_n 0, 1) := by decide +kernel
theorem dX5_init_14 : decode cX5_init 14 = .ok (.iconst 0, 1) := by decide +kernel
theorem dX5_init_15 : decode cX5_init 15 = .ok (.putfield 15, 3) := by decide +kernel
theorem dX5_init_18 : decode cX5_init 18 = .ok (.aload_n 0, 1) := by decide +kernel
theorem dX5_init_19 : decode cX5_init 19 = .ok (.iconst 0, 1) := by decide +kernel
theorem dX5_init_20 : decode cX5_init 20 = .ok (.putfield 19, 3) := by decide +kernel
theorem dX5_init_23 : decode cX5_init 23 = .ok (.aload_n 0, 1) := by decide +kernel
theorem dX5_init_24 : decode cX5_init 24 = .ok (.iconst 0, 1) := by decide +kernel
theorem dX5_init_25 : decode cX5_init 25 = .ok (.putfield 22, 3) := by decide +kernel
theorem dX5_init_28 : decode cX5_init 28 = .ok (.return_, 1) := by decide +kernel
theorem dX5_filledBytes_0 : decode cX5_filledBytes 0 = .ok (.iconst 0, 1) := by decide +kernel
theorem dX5_filledBytes_1 : decode cX5_filledBytes 1 = .ok (.istore_n 1, 1) := by decide +kernel
theorem dX5_filledBytes_2 : decode cX5_filledBytes 2 = .ok (.bipush 24, 2) := by decide +kernel
theorem dX5_filledBytes_4 : decode cX5_filledBytes 4 = .ok (.istore_n 2, 1) := by decide +kernel
theorem dX5_filledBytes_5 : decode cX5_filledBytes 5 = .ok (.iload_n 2, 1) := by decide +kernel
theorem dX5_filledBytes_6 : decode cX5_filledBytes 6 = .ok (.ifCond .lt 22, 3) := by decide +kernel
theorem dX5_filledBytes_9 : decode cX5_filledBytes 9 = .ok (.iload_n 0, 1) := by decide +kernel
theorem dX5_filledBytes_10 : decode cX5_filledBytes 10 = .ok (.iload_n 2, 1) := by decide +kernel
theorem dX5_filledBytes_11 : decode cX5_filledBytes 11 = .ok (.iushr, 1) := by decide +kernel
theorem dX5_filledBytes_12 : decode cX5_filledBytes 12 = .ok (.sipush 255, 3) := by decide +kernel
theorem dX5_filledBytes_15 : decode cX5_filledBytes 15 = .ok (.iand, 1) := by decide +kernel
theorem dX5_filledBytes_16 : decode cX5_filledBytes 16 = .ok (.ifCond .eq 6, 3) := by decide +kernel
theorem dX5_filledBytes_19 : decode cX5_filledBytes 19 = .ok (.iinc 1 1, 3) := by decide +kernel
theorem dX5_filledBytes_22 : decode cX5_filledBytes 22 = .ok (.iinc 2 (-8), 3) := by decide +kernel
theorem dX5_filledBytes_25 : decode cX5_filledBytes 25 = .ok (.goto (-20), 3) := by decide +kernel
theorem dX5_filledBytes_28 : decode cX5_filledBytes 28 = .ok (.iload_n 1, 1) := by decide +kernel
theorem dX5_filledBytes_29 : decode cX5_filledBytes 29 = .ok (.ireturn, 1) := by decide +kernel
theorem dX5_size_0 : decode cX5_size 0 = .ok (.aload_n 0, 1) := by decide +kernel
theorem dX5_size_1 : decode cX5_size 1 = .ok (.getfield 15, 3) := by decide +kernel
theorem dX5_size_4 : decode cX5_size 4 = .ok (.ireturn, 1) := by decide +kernel
theorem dX5_append_0 : decode cX5_append 0 = .ok (.bipush 24, 2) := by decide +kernel
theorem dX5_append_2 : decode cX5_append 2 = .ok (.istore_n 2, 1) := by decide +kernel
theorem dX5_append_3 : decode cX5_append 3 = .ok (.iload_n 2, 1) := by decide +kernel
theorem dX5_append_4 : decode cX5_append 4 = .ok (.ifCond .lt 51, 3) := by decide +kernel
theorem dX5_append_7 : decode cX5_append 7 = .ok (.iload_n 1, 1) := by decide +kernel
theorem dX5_append_8 : decode cX5_append 8 = .ok (.iload_n 2, 1) := by decide +kernel
theorem dX5_append_9 : decode cX5_append 9 = .ok (.iushr, 1) := by decide +kernel
theorem dX5_append_10 : decode cX5_append 10 = .ok (.sipush 255, 3) := by decide +kernel
theorem dX5_append_13 : decode cX5_append 13 = .ok (.iand, 1) := by decide +kernel
theorem dX5_append_14 : decode cX5_append 14 = .ok (.istore_n 3, 1) := by decide +kernel
theorem dX5_append_15 : decode cX5_append 15 = .ok (.iload_n 3, 1) := by decide +kernel
theorem dX5_append_16 : decode cX5_append 16 = .ok (.ifCond .eq 33, 3) := by decide +kernel
theorem dX5_append_19 : decode cX5_append 19 = .ok (.aload_n 0, 1) := by decide +kernel
theorem dX5_append_20 : decode cX5_append 20 = .ok (.getfield 15, 3) := by decide +kernel
theorem dX5_append_23 : decode cX5_append 23 = .ok (.sipush 400, 3) := by decide +kernel
theorem dX5_append_26 : decode cX5_append 26 = .ok (.if_icmp .ge 23, 3) := by decide +kernel
theorem dX5_append_29 : decode cX5_append 29 = .ok (.aload_n 0, 1) := by decide +kernel
theorem dX5_append_30 : decode cX5_append 30 = .ok (.getfield 9, 3) := by decide +kernel
theorem dX5_append_33 : decode cX5_append 33 = .ok (.aload_n 0, 1) := by decide +kernel
theorem dX5_append_34 : decode cX5_append 34 = .ok (.getfield 15, 3) := by decide +kernel
theorem dX5_append_37 : decode cX5_append 37 = .ok (.iload_n 3, 1) := by decide +kernel
theorem dX5_append_38 : decode cX5_append 38 = .ok (.iastore, 1) := by decide +kernel
theorem dX5_append_39 : decode cX5_append 39 = .ok (.aload_n 0, 1) := by decide +kernel
theorem dX5_append_40 : decode cX5_append 40 = .ok (.dup, 1) := by decide +kernel
theorem dX5_append_41 : decode cX5_append 41 = .ok (.getfield 15, 3) := by decide +kernel
theorem dX5_append_44 : decode cX5_append 44 = .ok (.iconst 1, 1) := by decide +kernel
theorem dX5_append_45 : decode cX5_append 45 = .ok (.iadd, 1) := by decide +kernel
theorem dX5_append_46 : decode cX5_append 46 = .ok (.putfield 15, 3) := by decide +kernel
theorem dX5_append_49 : decode cX5_append 49 = .ok (.iinc 2 (-8), 3) := by decide +kernel
theorem dX5_append_52 : decode cX5_append 52 = .ok (.goto (-49), 3) := by decide +kernel
theorem dX5_append_55 : decode cX5_append 55 = .ok (.return_, 1) := by decide +kernel
theorem dX5_cut_0 : decode cX5_cut 0 = .ok (.iload_n 1, 1) := by decide +kernel
theorem dX5_cut_1 : decode cX5_cut 1 = .ok (.ifCond .lt 11, 3) := by decide +kernel
theorem dX5_cut_4 : decode cX5_cut 4 = .ok (.iload_n 1, 1) := by decide +kernel
theorem dX5_cut_5 : decode cX5_cut 5 = .ok (.aload_n 0, 1) := by decide +kernel
theorem dX5_cut_6 : decode cX5_cut 6 = .ok (.getfield 15, 3) := by decide +kernel
theorem dX5_cut_9 : decode cX5_cut 9 = .ok (.if_icmp .le 5, 3) := by decide +kernel
theorem dX5_cut_12 : decode cX5_cut 12 = .ok (.iconst 0, 1) := by decide +kernel
theorem dX5_cut_13 : decode cX5_cut 13 = .ok (.ireturn, 1) := by decide +kernel
theorem dX5_cut_14 : decode cX5_cut 14 = .ok (.aload_n 0, 1) := by decide +kernel
theorem dX5_cut_15 : decode cX5_cut 15 = .ok (.iload_n 1, 1) := by decide +kernel
theorem dX5_cut_16 : decode cX5_cut 16 = .ok (.putfield 15, 3) := by decide +kernel
theorem dX5_cut_19 : decode cX5_cut 19 = .ok (.aload_n 0, 1) := by decide +kernel
theorem dX5_cut_20 : decode cX5_cut 20 = .ok (.invokevirtual 25, 3) := by decide +kernel
theorem dX5_cut_23 : decode cX5_cut 23 = .ok (.iconst 1, 1) := by decide +kernel
theorem dX5_cut_24 : decode cX5_cut 24 = .ok (.ireturn, 1) := by decide +kernel
theorem dX5_rewind_0 : decode cX5_rewind 0 = .ok (.aload_n 0, 1) := by decide +kernel
theorem dX5_rewind_1 : decode cX5_rewind 1 = .ok (.iconst 0, 1) := by decide +kernel
theorem dX5_rewind_2 : decode cX5_rewind 2 = .ok (.putfield 22, 3) := by decide +kernel
theorem dX5_rewind_5 : decode cX5_rewind 5 = .ok (.aload_n 0, 1) := by decide +kernel
theorem dX5_rewind_6 : decode cX5_rewind 6 = .ok (.invokevirtual 28, 3) := by decide +kernel
theorem dX5_rewind_9 : decode cX5_rewind 9 = .ok (.return_, 1) := by decide +kernel
theorem dX5_advance_0 : decode cX5_advance 0 = .ok (.aload_n 0, 1) := by decide +kernel
theorem dX5_advance_1 : decode cX5_advance 1 = .ok (.getfield 22, 3) := by decide +kernel
theorem dX5_advance_4 : decode cX5_advance 4 = .ok (.istore_n 1, 1) := by decide +kernel
theorem dX5_advance_5 : decode cX5_advance 5 = .ok (.iload_n 1, 1) := by decide +kernel
theorem dX5_advance_6 : decode cX5_advance 6 = .ok (.aload_n 0, 1) := by decide +kernel
theorem dX5_advance_7 : decode cX5_advance 7 = .ok (.getfield 15, 3) := by decide +kernel
theorem dX5_advance_10 : decode cX5_advance 10 = .ok (.if_icmp .ge 31, 3) := by decide +kernel
theorem dX5_advance_13 : decode cX5_advance 13 = .ok (.aload_n 0, 1) := by decide +kernel
theorem dX5_advance_14 : decode cX5_advance 14 = .ok (.getfield 9, 3) := by decide +kernel
theorem dX5_advance_17 : decode cX5_advance 17 = .ok (.iload_n 1, 1) := by decide +kernel
theorem dX5_advance_18 : decode cX5_advance 18 = .ok (.iaload, 1) := by decide +kernel
theorem dX5_advance_19 : decode cX5_advance 19 = .ok (.bipush 32, 2) := by decide +kernel
theorem dX5_advance_21 : decode cX5_advance 21 = .ok (.if_icmp .eq 14, 3) := by decide +kernel
theorem dX5_advance_24 : decode cX5_advance 24 = .ok (.aload_n 0, 1) := by decide +kernel
theorem dX5_advance_25 : decode cX5_advance 25 = .ok (.getfield 9, 3) := by decide +kernel
theorem dX5_advance_28 : decode cX5_advance 28 = .ok (.iload_n 1, 1) := by decide +kernel
theorem dX5_advance_29 : decode cX5_advance 29 = .ok (.iaload, 1) := by decide +kernel
theorem dX5_advance_30 : decode cX5_advance 30 = .ok (.bipush 10, 2) := by decide +kernel
theorem dX5_advance_32 : decode cX5_advance 32 = .ok (.if_icmp .ne 9, 3) := by decide +kernel
theorem dX5_advance_35 : decode cX5_advance 35 = .ok (.iinc 1 1, 3) := by decide +kernel
theorem dX5_advance_38 : decode cX5_advance 38 = .ok (.goto (-33), 3) := by decide +kernel
theorem dX5_advance_41 : decode cX5_advance 41 = .ok (.aload_n 0, 1) := by decide +kernel
theorem dX5_advance_42 : decode cX5_advance 42 = .ok (.iload_n 1, 1) := by decide +kernel
theorem dX5_advance_43 : decode cX5_advance 43 = .ok (.putfield 19, 3) := by decide +kernel
theorem dX5_advance_46 : decode cX5_advance 46 = .ok (.iload_n 1, 1) := by decide +kernel
theorem dX5_advance_47 : decode cX5_advance 47 = .ok (.aload_n 0, 1) := by decide +kernel
theorem dX5_advance_48 : decode cX5_advance 48 = .ok (.getfield 15, 3) := by decide +kernel
theorem dX5_advance_51 : decode cX5_advance 51 = .ok (.if_icmp .ge 84, 3) := by decide +kernel
theorem dX5_advance_54 : decode cX5_advance 54 = .ok (.aload_n 0, 1) := by decide +kernel
theorem dX5_advance_55 : decode cX5_advance 55 = .ok (.getfield 9, 3) := by decide +kernel
theorem dX5_advance_58 : decode cX5_advance 58 = .ok (.iload_n 1, 1) := by decide +kernel
theorem dX5_advance_59 : decode cX5_advance 59 = .ok (.iaload, 1) := by decide +kernel
theorem dX5_advance_60 : decode cX5_advance 60 = .ok (.invokestatic 31, 3) := by decide +kernel
theorem dX5_advance_63 : decode cX5_advance 63 = .ok (.istore_n 2, 1) := by decide +kernel
theorem dX5_advance_64 : decode cX5_advance 64 = .ok (.iload_n 2, 1) := by decide +kernel
theorem dX5_advance_65 : decode cX5_advance 65 = .ok (.ifCond .ne 15, 3) := by decide +kernel
theorem dX5_advance_68 : decode cX5_advance 68 = .ok (.aload_n 0, 1) := by decide +kernel
theorem dX5_advance_69 : decode cX5_advance 69 = .ok (.getfield 9, 3) := by decide +kernel
theorem dX5_advance_72 : decode cX5_advance 72 = .ok (.iload_n 1, 1) := by decide +kernel
theorem dX5_advance_73 : decode cX5_advance 73 = .ok (.iaload, 1) := by decide +kernel
theorem dX5_advance_74 : decode cX5_advance 74 = .ok (.invokestatic 35, 3) := by decide +kernel
theorem dX5_advance_77 : decode cX5_advance 77 = .ok (.ifCond .eq 7, 3) := by decide +kernel
theorem dX5_advance_80 : decode cX5_advance 80 = .ok (.iconst 1, 1) := by decide +kernel
theorem dX5_advance_81 : decode cX5_advance 81 = .ok (.goto 4, 3) := by decide +kernel
theorem dX5_advance_84 : decode cX5_advance 84 = .ok (.iconst 0, 1) := by decide +kernel
theorem dX5_advance_85 : decode cX5_advance 85 = .ok (.istore_n 3, 1) := by decide +kernel
theorem dX5_advance_86 : decode cX5_advance 86 = .ok (.iinc 1 1, 3) := by decide +kernel
theorem dX5_advance_89 : decode cX5_advance 89 = .ok (.iload_n 3, 1) := by decide +kernel
theorem dX5_advance_90 : decode cX5_advance 90 = .ok (.ifCond .eq 45, 3) := by decide +kernel
theorem dX5_advance_93 : decode cX5_advance 93 = .ok (.iload_n 1, 1) := by decide +kernel
theorem dX5_advance_94 : decode cX5_advance 94 = .ok (.aload_n 0, 1) := by decide +kernel
theorem dX5_advance_95 : decode cX5_advance 95 = .ok (.getfield 15, 3) := by decide +kernel
theorem dX5_advance_98 : decode cX5_advance 98 = .ok (.if_icmp .ge 37, 3) := by decide +kernel
theorem dX5_advance_101 : decode cX5_advance 101 = .ok (.aload_n 0, 1) := by decide +kernel
theorem dX5_advance_102 : decode cX5_advance 102 = .ok (.getfield 9, 3) := by decide +kernel
theorem dX5_advance_105 : decode cX5_advance 105 = .ok (.iload_n 1, 1) := by decide +kernel
theorem dX5_advance_106 : decode cX5_advance 106 = .ok (.iaload, 1) := by decide +kernel
theorem dX5_advance_107 : decode cX5_advance 107 = .ok (.invokestatic 35, 3) := by decide +kernel
theorem dX5_advance_110 : decode cX5_advance 110 = .ok (.ifCond .ne 19, 3) := by decide +kernel
theorem dX5_advance_113 : decode cX5_advance 113 = .ok (.iload_n 2, 1) := by decide +kernel
theorem dX5_advance_114 : decode cX5_advance 114 = .ok (.ifCond .eq 21, 3) := by decide +kernel
theorem dX5_advance_117 : decode cX5_advance 117 = .ok (.aload_n 0, 1) := by decide +kernel
theorem dX5_advance_118 : decode cX5_advance 118 = .ok (.getfield 9, 3) := by decide +kernel
theorem dX5_advance_121 : decode cX5_advance 121 = .ok (.iload_n 1, 1) := by decide +kernel
theorem dX5_advance_122 : decode cX5_advance 122 = .ok (.iaload, 1) := by decide +kernel
theorem dX5_advance_123 : decode cX5_advance 123 = .ok (.invokestatic 31, 3) := by decide +kernel
theorem dX5_advance_126 : decode cX5_advance 126 = .ok (.ifCond .eq 9, 3) := by decide +kernel
theorem dX5_advance_129 : decode cX5_advance 129 = .ok (.iinc 1 1, 3) := by decide +kernel
theorem dX5_advance_132 : decode cX5_advance 132 = .ok (.goto (-43), 3) := by decide +kernel
theorem dX5_advance_135 : decode cX5_advance 135 = .ok (.aload_n 0, 1) := by decide +kernel
theorem dX5_advance_136 : decode cX5_advance 136 = .ok (.iload_n 1, 1) := by decide +kernel
theorem dX5_advance_137 : decode cX5_advance 137 = .ok (.putfield 22, 3) := by decide +kernel
theorem dX5_advance_140 : decode cX5_advance 140 = .ok (.return_, 1) := by decide +kernel
theorem dX5_isLetter_0 : decode cX5_isLetter 0 = .ok (.iload_n 0, 1) := by decide +kernel
theorem dX5_isLetter_1 : decode cX5_isLetter 1 = .ok (.bipush 97, 2) := by decide +kernel
theorem dX5_isLetter_3 : decode cX5_isLetter 3 = .ok (.if_icmp .lt 13, 3) := by decide +kernel
theorem dX5_isLetter_6 : decode cX5_isLetter 6 = .ok (.iload_n 0, 1) := by decide +kernel
theorem dX5_isLetter_7 : decode cX5_isLetter 7 = .ok (.bipush 122, 2) := by decide +kernel
theorem dX5_isLetter_9 : decode cX5_isLetter 9 = .ok (.if_icmp .gt 7, 3) := by decide +kernel
theorem dX5_isLetter_12 : decode cX5_isLetter 12 = .ok (.iconst 1, 1) := by decide +kernel
theorem dX5_isLetter_13 : decode cX5_isLetter 13 = .ok (.goto 4, 3) := by decide +kernel
theorem dX5_isLetter_16 : decode cX5_isLetter 16 = .ok (.iconst 0, 1) := by decide +kernel
theorem dX5_isLetter_17 : decode cX5_isLetter 17 = .ok (.ireturn, 1) := by decide +kernel
theorem dX5_isDigit_0 : decode cX5_isDigit 0 = .ok (.iload_n 0, 1) := by decide +kernel
theorem dX5_isDigit_1 : decode cX5_isDigit 1 = .ok (.bipush 48, 2) := by decide +kernel
theorem dX5_isDigit_3 : decode cX5_isDigit 3 = .ok (.if_icmp .lt 13, 3) := by decide +kernel
theorem dX5_isDigit_6 : decode cX5_isDigit 6 = .ok (.iload_n 0, 1) := by decide +kernel
theorem dX5_isDigit_7 : decode cX5_isDigit 7 = .ok (.bipush 57, 2) := by decide +kernel
theorem dX5_isDigit_9 : decode cX5_isDigit 9 = .ok (.if_icmp .gt 7, 3) := by decide +kernel
theorem dX5_isDigit_12 : decode cX5_isDigit 12 = .ok (.iconst 1, 1) := by decide +kernel
theorem dX5_isDigit_13 : decode cX5_isDigit 13 = .ok (.goto 4, 3) := by decide +kernel
theorem dX5_isDigit_16 : decode cX5_isDigit 16 = .ok (.iconst 0, 1) := by decide +kernel
theorem dX5_isDigit_17 : decode cX5_isDigit 17 = .ok (.ireturn, 1) := by decide +kernel
theorem dX5_start_0 : decode cX5_start 0 = .ok (.aload_n 0, 1) := by decide +kernel
theorem dX5_start_1 : decode cX5_start 1 = .ok (.getfield 19, 3) := by decide +kernel
theorem dX5_start_4 : decode cX5_start 4 = .ok (.ireturn, 1) := by decide +kernel
theorem dX5_isOver_0 : decode cX5_isOver 0 = .ok (.aload_n 0, 1) := by decide +kernel
theorem dX5_isOver_1 : decode cX5_isOver 1 = .ok (.getfield 19, 3) := by decide +kernel
theorem dX5_isOver_4 : decode cX5_isOver 4 = .ok (.aload_n 0, 1) := by decide +kernel
theorem dX5_isOver_5 : decode cX5_isOver 5 = .ok (.getfield 15, 3) := by decide +kernel
theorem dX5_isOver_8 : decode cX5_isOver 8 = .ok (.if_icmp .lt 7, 3) := by decide +kernel
theorem dX5_isOver_11 : decode cX5_isOver 11 = .ok (.iconst 1, 1) := by decide +kernel
theorem dX5_isOver_12 : decode cX5_isOver 12 = .ok (.goto 4, 3) := by decide +kernel
theorem dX5_isOver_15 : decode cX5_isOver 15 = .ok (.iconst 0, 1) := by decide +kernel
theorem dX5_isOver_16 : decode cX5_isOver 16 = .ok (.ireturn, 1) := by decide +kernel
theorem dX5_take_0 : decode cX5_take 0 = .ok (.aload_n 0, 1) := by decide +kernel
theorem dX5_take_1 : decode cX5_take 1 = .ok (.aload_n 1, 1) := by decide +kernel
theorem dX5_take_2 : decode cX5_take 2 = .ok (.iconst 1, 1) := by decide +kernel
theorem dX5_take_3 : decode cX5_take 3 = .ok (.aload_n 1, 1) := by decide +kernel
theorem dX5_take_4 : decode cX5_take 4 = .ok (.invokevirtual 38, 3) := by decide +kernel
theorem dX5_take_7 : decode cX5_take 7 = .ok (.invokevirtual 43, 3) := by decide +kernel
theorem dX5_take_10 : decode cX5_take 10 = .ok (.iconst (-1), 1) := by decide +kernel
theorem dX5_take_11 : decode cX5_take 11 = .ok (.if_icmp .ne 5, 3) := by decide +kernel
theorem dX5_take_14 : decode cX5_take 14 = .ok (.iconst 0, 1) := by decide +kernel
theorem dX5_take_15 : decode cX5_take 15 = .ok (.ireturn, 1) := by decide +kernel
theorem dX5_take_16 : decode cX5_take 16 = .ok (.aload_n 0, 1) := by decide +kernel
theorem dX5_take_17 : decode cX5_take 17 = .ok (.invokevirtual 28, 3) := by decide +kernel
theorem dX5_take_20 : decode cX5_take 20 = .ok (.iconst 1, 1) := by decide +kernel
theorem dX5_take_21 : decode cX5_take 21 = .ok (.ireturn, 1) := by decide +kernel
theorem dX5_takeName_0 : decode cX5_takeName 0 = .ok (.aload_n 0, 1) := by decide +kernel
theorem dX5_takeName_1 : decode cX5_takeName 1 = .ok (.ldc 47, 2) := by decide +kernel
theorem dX5_takeName_3 : decode cX5_takeName 3 = .ok (.bipush 8, 2) := by decide +kernel
theorem dX5_takeName_5 : decode cX5_takeName 5 = .ok (.iconst 3, 1) := by decide +kernel
theorem dX5_takeName_6 : decode cX5_takeName 6 = .ok (.invokevirtual 43, 3) := by decide +kernel
theorem dX5_takeName_9 : decode cX5_takeName 9 = .ok (.istore_n 2, 1) := by decide +kernel
theorem dX5_takeName_10 : decode cX5_takeName 10 = .ok (.iload_n 2, 1) := by decide +kernel
theorem dX5_takeName_11 : decode cX5_takeName 11 = .ok (.iconst (-1), 1) := by decide +kernel
theorem dX5_takeName_12 : decode cX5_takeName 12 = .ok (.if_icmp .eq 8, 3) := by decide +kernel
theorem dX5_takeName_15 : decode cX5_takeName 15 = .ok (.iload_n 2, 1) := by decide +kernel
theorem dX5_takeName_16 : decode cX5_takeName 16 = .ok (.iload_n 1, 1) := by decide +kernel
theorem dX5_takeName_17 : decode cX5_takeName 17 = .ok (.if_icmp .ne 5, 3) := by decide +kernel
theorem dX5_takeName_20 : decode cX5_takeName 20 = .ok (.iconst (-1), 1) := by decide +kernel
theorem dX5_takeName_21 : decode cX5_takeName 21 = .ok (.ireturn, 1) := by decide +kernel
theorem dX5_takeName_22 : decode cX5_takeName 22 = .ok (.aload_n 0, 1) := by decide +kernel
theorem dX5_takeName_23 : decode cX5_takeName 23 = .ok (.invokevirtual 28, 3) := by decide +kernel
theorem dX5_takeName_26 : decode cX5_takeName 26 = .ok (.iload_n 2, 1) := by decide +kernel
theorem dX5_takeName_27 : decode cX5_takeName 27 = .ok (.ireturn, 1) := by decide +kernel
theorem dX5_takeUnit_0 : decode cX5_takeUnit 0 = .ok (.aload_n 0, 1) := by decide +kernel
theorem dX5_takeUnit_1 : decode cX5_takeUnit 1 = .ok (.ldc 49, 2) := by decide +kernel
theorem dX5_takeUnit_3 : decode cX5_takeUnit 3 = .ok (.iconst 4, 1) := by decide +kernel
theorem dX5_takeUnit_4 : decode cX5_takeUnit 4 = .ok (.iconst 4, 1) := by decide +kernel
theorem dX5_takeUnit_5 : decode cX5_takeUnit 5 = .ok (.invokevirtual 43, 3) := by decide +kernel
theorem dX5_takeUnit_8 : decode cX5_takeUnit 8 = .ok (.istore_n 1, 1) := by decide +kernel
theorem dX5_takeUnit_9 : decode cX5_takeUnit 9 = .ok (.iload_n 1, 1) := by decide +kernel
theorem dX5_takeUnit_10 : decode cX5_takeUnit 10 = .ok (.iconst (-1), 1) := by decide +kernel
theorem dX5_takeUnit_11 : decode cX5_takeUnit 11 = .ok (.if_icmp .eq 7, 3) := by decide +kernel
theorem dX5_takeUnit_14 : decode cX5_takeUnit 14 = .ok (.aload_n 0, 1) := by decide +kernel
theorem dX5_takeUnit_15 : decode cX5_takeUnit 15 = .ok (.invokevirtual 28, 3) := by decide +kernel
theorem dX5_takeUnit_18 : decode cX5_takeUnit 18 = .ok (.iload_n 1, 1) := by decide +kernel
theorem dX5_takeUnit_19 : decode cX5_takeUnit 19 = .ok (.ireturn, 1) := by decide +kernel
theorem dX5_find_0 : decode cX5_find 0 = .ok (.aload_n 0, 1) := by decide +kernel
theorem dX5_find_1 : decode cX5_find 1 = .ok (.getfield 22, 3) := by decide +kernel
theorem dX5_find_4 : decode cX5_find 4 = .ok (.aload_n 0, 1) := by decide +kernel
theorem dX5_find_5 : decode cX5_find 5 = .ok (.getfield 19, 3) := by decide +kernel
theorem dX5_find_8 : decode cX5_find 8 = .ok (.isub, 1) := by decide +kernel
theorem dX5_find_9 : decode cX5_find 9 = .ok (.iload_n 3, 1) := by decide +kernel
theorem dX5_find_10 : decode cX5_find 10 = .ok (.if_icmp .ne 24, 3) := by decide +kernel
theorem dX5_find_13 : decode cX5_find 13 = .ok (.aload_n 0, 1) := by decide +kernel
theorem dX5_find_14 : decode cX5_find 14 = .ok (.getfield 22, 3) := by decide +kernel
theorem dX5_find_17 : decode cX5_find 17 = .ok (.aload_n 0, 1) := by decide +kernel
theorem dX5_find_18 : decode cX5_find 18 = .ok (.getfield 15, 3) := by decide +kernel
theorem dX5_find_21 : decode cX5_find 21 = .ok (.if_icmp .gt 13, 3) := by decide +kernel
theorem dX5_find_24 : decode cX5_find 24 = .ok (.iload_n 2, 1) := by decide +kernel
theorem dX5_find_25 : decode cX5_find 25 = .ok (.iload_n 3, 1) := by decide +kernel
theorem dX5_find_26 : decode cX5_find 26 = .ok (.imul, 1) := by decide +kernel
theorem dX5_find_27 : decode cX5_find 27 = .ok (.aload_n 1, 1) := by decide +kernel
theorem dX5_find_28 : decode cX5_find 28 = .ok (.invokevirtual 38, 3) := by decide +kernel
theorem dX5_find_31 : decode cX5_find 31 = .ok (.if_icmp .le 5, 3) := by decide +kernel
theorem dX5_find_34 : decode cX5_find 34 = .ok (.iconst (-1), 1) := by decide +kernel
theorem dX5_find_35 : decode cX5_find 35 = .ok (.ireturn, 1) := by decide +kernel
theorem dX5_find_36 : decode cX5_find 36 = .ok (.iconst 0, 1) := by decide +kernel
theorem dX5_find_37 : decode cX5_find 37 = .ok (.istore 4, 2) := by decide +kernel
theorem dX5_find_39 : decode cX5_find 39 = .ok (.iload 4, 2) := by decide +kernel
theorem dX5_find_41 : decode cX5_find 41 = .ok (.iload_n 2, 1) := by decide +kernel
theorem dX5_find_42 : decode cX5_find 42 = .ok (.if_icmp .ge 59, 3) := by decide +kernel
theorem dX5_find_45 : decode cX5_find 45 = .ok (.iconst 0, 1) := by decide +kernel
theorem dX5_find_46 : decode cX5_find 46 = .ok (.istore 5, 2) := by decide +kernel
theorem dX5_find_48 : decode cX5_find 48 = .ok (.iload 5, 2) := by decide +kernel
theorem dX5_find_50 : decode cX5_find 50 = .ok (.iload_n 3, 1) := by decide +kernel
theorem dX5_find_51 : decode cX5_find 51 = .ok (.if_icmp .ge 35, 3) := by decide +kernel
theorem dX5_find_54 : decode cX5_find 54 = .ok (.aload_n 0, 1) := by decide +kernel
theorem dX5_find_55 : decode cX5_find 55 = .ok (.getfield 9, 3) := by decide +kernel
theorem dX5_find_58 : decode cX5_find 58 = .ok (.aload_n 0, 1) := by decide +kernel
theorem dX5_find_59 : decode cX5_find 59 = .ok (.getfield 19, 3) := by decide +kernel
theorem dX5_find_62 : decode cX5_find 62 = .ok (.iload 5, 2) := by decide +kernel
theorem dX5_find_64 : decode cX5_find 64 = .ok (.iadd, 1) := by decide +kernel
theorem dX5_find_65 : decode cX5_find 65 = .ok (.iaload, 1) := by decide +kernel
theorem dX5_find_66 : decode cX5_find 66 = .ok (.aload_n 1, 1) := by decide +kernel
theorem dX5_find_67 : decode cX5_find 67 = .ok (.iload 4, 2) := by decide +kernel
theorem dX5_find_69 : decode cX5_find 69 = .ok (.iload_n 3, 1) := by decide +kernel
theorem dX5_find_70 : decode cX5_find 70 = .ok (.imul, 1) := by decide +kernel
theorem dX5_find_71 : decode cX5_find 71 = .ok (.iload 5, 2) := by decide +kernel
theorem dX5_find_73 : decode cX5_find 73 = .ok (.iadd, 1) := by decide +kernel
theorem dX5_find_74 : decode cX5_find 74 = .ok (.invokevirtual 51, 3) := by decide +kernel
theorem dX5_find_77 : decode cX5_find 77 = .ok (.if_icmp .ne 9, 3) := by decide +kernel
theorem dX5_find_80 : decode cX5_find 80 = .ok (.iinc 5 1, 3) := by decide +kernel
theorem dX5_find_83 : decode cX5_find 83 = .ok (.goto (-35), 3) := by decide +kernel
theorem dX5_find_86 : decode cX5_find 86 = .ok (.iload 5, 2) := by decide +kernel
theorem dX5_find_88 : decode cX5_find 88 = .ok (.iload_n 3, 1) := by decide +kernel
theorem dX5_find_89 : decode cX5_find 89 = .ok (.if_icmp .ne 6, 3) := by decide +kernel
theorem dX5_find_92 : decode cX5_find 92 = .ok (.iload 4, 2) := by decide +kernel
theorem dX5_find_94 : decode cX5_find 94 = .ok (.ireturn, 1) := by decide +kernel
theorem dX5_find_95 : decode cX5_find 95 = .ok (.iinc 4 1, 3) := by decide +kernel
theorem dX5_find_98 : decode cX5_find 98 = .ok (.goto (-59), 3) := by decide +kernel
theorem dX5_find_101 : decode cX5_find 101 = .ok (.iconst (-1), 1) := by decide +kernel
theorem dX5_find_102 : decode cX5_find 102 = .ok (.ireturn, 1) := by decide +kernel
theorem dX5_takeNumber_0 : decode cX5_takeNumber 0 = .ok (.aload_n 0, 1) := by decide +kernel
theorem dX5_takeNumber_1 : decode cX5_takeNumber 1 = .ok (.getfield 19, 3) := by decide +kernel
theorem dX5_takeNumber_4 : decode cX5_takeNumber 4 = .ok (.aload_n 0, 1) := by decide +kernel
theorem dX5_takeNumber_5 : decode cX5_takeNumber 5 = .ok (.getfield 22, 3) := by decide +kernel
theorem dX5_takeNumber_8 : decode cX5_takeNumber 8 = .ok (.if_icmp .ge 27, 3) := by decide +kernel
theorem dX5_takeNumber_11 : decode cX5_takeNumber 11 = .ok (.aload_n 0, 1) := by decide +kernel
theorem dX5_takeNumber_12 : decode cX5_takeNumber 12 = .ok (.getfield 22, 3) := by decide +kernel
theorem dX5_takeNumber_15 : decode cX5_takeNumber 15 = .ok (.aload_n 0, 1) := by decide +kernel
theorem dX5_takeNumber_16 : decode cX5_takeNumber 16 = .ok (.getfield 15, 3) := by decide +kernel
theorem dX5_takeNumber_19 : decode cX5_takeNumber 19 = .ok (.if_icmp .gt 16, 3) := by decide +kernel
theorem dX5_takeNumber_22 : decode cX5_takeNumber 22 = .ok (.aload_n 0, 1) := by decide +kernel
theorem dX5_takeNumber_23 : decode cX5_takeNumber 23 = .ok (.getfield 22, 3) := by decide +kernel
theorem dX5_takeNumber_26 : decode cX5_takeNumber 26 = .ok (.aload_n 0, 1) := by decide +kernel
theorem dX5_takeNumber_27 : decode cX5_takeNumber 27 = .ok (.getfield 19, 3) := by decide +kernel
theorem dX5_takeNumber_30 : decode cX5_takeNumber 30 = .ok (.isub, 1) := by decide +kernel
theorem dX5_takeNumber_31 : decode cX5_takeNumber 31 = .ok (.iconst 3, 1) := by decide +kernel
theorem dX5_takeNumber_32 : decode cX5_takeNumber 32 = .ok (.if_icmp .le 5, 3) := by decide +kernel
theorem dX5_takeNumber_35 : decode cX5_takeNumber 35 = .ok (.iconst (-1), 1) := by decide +kernel
theorem dX5_takeNumber_36 : decode cX5_takeNumber 36 = .ok (.ireturn, 1) := by decide +kernel
theorem dX5_takeNumber_37 : decode cX5_takeNumber 37 = .ok (.iconst 0, 1) := by decide +kernel
theorem dX5_takeNumber_38 : decode cX5_takeNumber 38 = .ok (.istore_n 1, 1) := by decide +kernel
theorem dX5_takeNumber_39 : decode cX5_takeNumber 39 = .ok (.aload_n 0, 1) := by decide +kernel
theorem dX5_takeNumber_40 : decode cX5_takeNumber 40 = .ok (.getfield 19, 3) := by decide +kernel
theorem dX5_takeNumber_43 : decode cX5_takeNumber 43 = .ok (.istore_n 2, 1) := by decide +kernel
theorem dX5_takeNumber_44 : decode cX5_takeNumber 44 = .ok (.iload_n 2, 1) := by decide +kernel
theorem dX5_takeNumber_45 : decode cX5_takeNumber 45 = .ok (.aload_n 0, 1) := by decide +kernel
theorem dX5_takeNumber_46 : decode cX5_takeNumber 46 = .ok (.getfield 22, 3) := by decide +kernel
theorem dX5_takeNumber_49 : decode cX5_takeNumber 49 = .ok (.if_icmp .ge 38, 3) := by decide +kernel
theorem dX5_takeNumber_52 : decode cX5_takeNumber 52 = .ok (.aload_n 0, 1) := by decide +kernel
theorem dX5_takeNumber_53 : decode cX5_takeNumber 53 = .ok (.getfield 9, 3) := by decide +kernel
theorem dX5_takeNumber_56 : decode cX5_takeNumber 56 = .ok (.iload_n 2, 1) := by decide +kernel
theorem dX5_takeNumber_57 : decode cX5_takeNumber 57 = .ok (.iaload, 1) := by decide +kernel
theorem dX5_takeNumber_58 : decode cX5_takeNumber 58 = .ok (.invokestatic 31, 3) := by decide +kernel
theorem dX5_takeNumber_61 : decode cX5_takeNumber 61 = .ok (.ifCond .ne 5, 3) := by decide +kernel
theorem dX5_takeNumber_64 : decode cX5_takeNumber 64 = .ok (.iconst (-1), 1) := by decide +kernel
theorem dX5_takeNumber_65 : decode cX5_takeNumber 65 = .ok (.ireturn, 1) := by decide +kernel
theorem dX5_takeNumber_66 : decode cX5_takeNumber 66 = .ok (.iload_n 1, 1) := by decide +kernel
theorem dX5_takeNumber_67 : decode cX5_takeNumber 67 = .ok (.bipush 10, 2) := by decide +kernel
theorem dX5_takeNumber_69 : decode cX5_takeNumber 69 = .ok (.imul, 1) := by decide +kernel
theorem dX5_takeNumber_70 : decode cX5_takeNumber 70 = .ok (.aload_n 0, 1) := by decide +kernel
theorem dX5_takeNumber_71 : decode cX5_takeNumber 71 = .ok (.getfield 9, 3) := by decide +kernel
theorem dX5_takeNumber_74 : decode cX5_takeNumber 74 = .ok (.iload_n 2, 1) := by decide +kernel
theorem dX5_takeNumber_75 : decode cX5_takeNumber 75 = .ok (.iaload, 1) := by decide +kernel
theorem dX5_takeNumber_76 : decode cX5_takeNumber 76 = .ok (.bipush 48, 2) := by decide +kernel
theorem dX5_takeNumber_78 : decode cX5_takeNumber 78 = .ok (.isub, 1) := by decide +kernel
theorem dX5_takeNumber_79 : decode cX5_takeNumber 79 = .ok (.iadd, 1) := by decide +kernel
theorem dX5_takeNumber_80 : decode cX5_takeNumber 80 = .ok (.istore_n 1, 1) := by decide +kernel
theorem dX5_takeNumber_81 : decode cX5_takeNumber 81 = .ok (.iinc 2 1, 3) := by decide +kernel
theorem dX5_takeNumber_84 : decode cX5_takeNumber 84 = .ok (.goto (-40), 3) := by decide +kernel
theorem dX5_takeNumber_87 : decode cX5_takeNumber 87 = .ok (.aload_n 0, 1) := by decide +kernel
theorem dX5_takeNumber_88 : decode cX5_takeNumber 88 = .ok (.invokevirtual 28, 3) := by decide +kernel
theorem dX5_takeNumber_91 : decode cX5_takeNumber 91 = .ok (.iload_n 1, 1) := by decide +kernel
theorem dX5_takeNumber_92 : decode cX5_takeNumber 92 = .ok (.ireturn, 1) := by decide +kernel
end
section
abbrev rmX5_size : Room := { frames := 0, cells := 0, slots := 0, locals := 0 }
abbrev rmX5_start : Room := { frames := 0, cells := 0, slots := 0, locals := 0 }
abbrev rmX5_isOver : Room := { frames := 0, cells := 0, slots := 0, locals := 0 }
abbrev rmX5_isLetter : Room := { frames := 0, cells := 0, slots := 0, locals := 0 }
abbrev rmX5_isDigit : Room := { frames := 0, cells := 0, slots := 0, locals := 0 }
abbrev rmX5_advance : Room := { frames := 1, cells := 0, slots := 0, locals := 20 }
abbrev rmX0_init : Room := { frames := 0, cells := 0, slots := 0, locals := 0 }
abbrev rmX0_clear : Room := { frames := 0, cells := 0, slots := 0, locals := 0 }
abbrev rmX0_size : Room := { frames := 0, cells := 0, slots := 0, locals := 0 }
abbrev rmX0_dropFirst : Room := { frames := 0, cells := 0, slots := 0, locals := 0 }
abbrev rmX0_keep : Room := { frames := 1, cells := 0, slots := 0, locals := 21 }
abbrev rmX0_dropLast : Room := { frames := 0, cells := 0, slots := 0, locals := 0 }
abbrev rmX0_lastSentence : Room := { frames := 0, cells := 0, slots := 0, locals := 0 }
abbrev rmX0_lastNumber : Room := { frames := 0, cells := 0, slots := 0, locals := 0 }
abbrev rmX1_init : Room := { frames := 0, cells := 0, slots := 0, locals := 0 }
abbrev rmX1_clear : Room := { frames := 0, cells := 0, slots := 0, locals := 0 }
abbrev rmX1_gcd : Room := { frames := 0, cells := 0, slots := 0, locals := 0 }
abbrev rmX1_eliminate : Room := { frames := 1, cells := 0, slots := 0, locals := 30 }
abbrev rmX1_reduce : Room := { frames := 2, cells := 0, slots := 0, locals := 61 }
abbrev rmX1_firstName : Room := { frames := 0, cells := 0, slots := 0, locals := 0 }
abbrev rmX1_negate : Room := { frames := 0, cells := 0, slots := 0, locals := 0 }
abbrev rmX1_add : Room := { frames := 3, cells := 0, slots := 0, locals := 83 }
abbrev rmX2_init : Room := { frames := 0, cells := 0, slots := 0, locals := 0 }
abbrev rmX3_clear : Room := { frames := 0, cells := 0, slots := 0, locals := 0 }
abbrev rmX5_rewind : Room := { frames := 2, cells := 0, slots := 0, locals := 43 }
abbrev rmJ0_coder_7d493 : Room := { frames := 0, cells := 0, slots := 0, locals := 0 }
abbrev rmJ0_length_8abf5 : Room := { frames := 1, cells := 0, slots := 0, locals := 20 }
abbrev rmJ0_isLatin1_aae02 : Room := { frames := 0, cells := 0, slots := 0, locals := 0 }
abbrev rmJ3_checkIndex_8e157 : Room := { frames := 1, cells := 0, slots := 0, locals := 60 }
abbrev rmJ0_checkIndex_df160 : Room := { frames := 2, cells := 0, slots := 0, locals := 82 }
abbrev rmJ1_charAt_3b067 : Room := { frames := 3, cells := 0, slots := 0, locals := 103 }
abbrev rmJ2_length_9d52b : Room := { frames := 0, cells := 0, slots := 0, locals := 0 }
abbrev rmJ2_checkIndex_2214a : Room := { frames := 3, cells := 0, slots := 0, locals := 103 }
abbrev rmJ2_getChar_3b067 : Room := { frames := 1, cells := 0, slots := 0, locals := 20 }
abbrev rmJ2_charAt_3b067 : Room := { frames := 4, cells := 0, slots := 0, locals := 124 }
abbrev rmJ0_charAt_5068e : Room := { frames := 5, cells := 0, slots := 0, locals := 145 }
abbrev rmX5_find : Room := { frames := 6, cells := 0, slots := 0, locals := 166 }
abbrev rmX5_take : Room := { frames := 7, cells := 0, slots := 0, locals := 191 }
abbrev rmX5_takeUnit : Room := { frames := 7, cells := 0, slots := 0, locals := 191 }
abbrev rmX2_takeAskedSort : Room := { frames := 8, cells := 0, slots := 0, locals := 212 }
abbrev rmX5_takeName : Room := { frames := 7, cells := 0, slots := 0, locals := 191 }
abbrev rmX3_ask : Room := { frames := 0, cells := 0, slots := 0, locals := 0 }
abbrev rmX2_readQuestion : Room := { frames := 9, cells := 0, slots := 0, locals := 232 }
abbrev rmX3_tell : Room := { frames := 0, cells := 0, slots := 0, locals := 0 }
abbrev rmX3_open : Room := { frames := 1, cells := 0, slots := 0, locals := 22 }
abbrev rmX5_takeNumber : Room := { frames := 2, cells := 0, slots := 0, locals := 43 }
abbrev rmX2_readUnit : Room := { frames := 8, cells := 0, slots := 0, locals := 212 }
abbrev rmX2_readSecond : Room := { frames := 8, cells := 0, slots := 0, locals := 213 }
abbrev rmX2_readHas : Room := { frames := 9, cells := 0, slots := 0, locals := 236 }
abbrev rmX2_readPlain : Room := { frames := 9, cells := 0, slots := 0, locals := 234 }
abbrev rmX3_close : Room := { frames := 0, cells := 0, slots := 0, locals := 0 }
abbrev rmX2_readSentence : Room := { frames := 10, cells := 0, slots := 0, locals := 259 }
abbrev rmX2_read : Room := { frames := 11, cells := 0, slots := 0, locals := 283 }
abbrev rmX3_init : Room := { frames := 0, cells := 0, slots := 0, locals := 0 }
abbrev rmX3_size : Room := { frames := 0, cells := 0, slots := 0, locals := 0 }
abbrev rmX3_facts : Room := { frames := 0, cells := 0, slots := 0, locals := 0 }
abbrev rmX3_stages : Room := { frames := 0, cells := 0, slots := 0, locals := 0 }
abbrev rmX3_has : Room := { frames := 0, cells := 0, slots := 0, locals := 0 }
abbrev rmX3_part : Room := { frames := 1, cells := 0, slots := 0, locals := 21 }
abbrev rmX3_asked : Room := { frames := 0, cells := 0, slots := 0, locals := 0 }
abbrev rmX3_allows : Room := { frames := 2, cells := 0, slots := 0, locals := 43 }
abbrev rmX3_setNumber : Room := { frames := 1, cells := 0, slots := 0, locals := 21 }
abbrev rmX3_gainBy : Room := { frames := 0, cells := 0, slots := 0, locals := 0 }
abbrev rmX3_gain : Room := { frames := 1, cells := 0, slots := 0, locals := 23 }
abbrev rmX4_init : Room := { frames := 1, cells := 0, slots := 0, locals := 20 }
abbrev rmJ7_fill_d0a16 : Room := { frames := 0, cells := 0, slots := 0, locals := 0 }
abbrev rmX4_madeBy : Room := { frames := 0, cells := 0, slots := 0, locals := 0 }
abbrev rmX4_weigh : Room := { frames := 2, cells := 0, slots := 0, locals := 50 }
abbrev rmX4_secondWeight : Room := { frames := 0, cells := 0, slots := 0, locals := 0 }
abbrev rmX4_startSought : Room := { frames := 1, cells := 0, slots := 0, locals := 24 }
abbrev rmX4_makeLaws : Room := { frames := 3, cells := 0, slots := 0, locals := 75 }
abbrev rmX4_isFact : Room := { frames := 1, cells := 0, slots := 0, locals := 20 }
abbrev rmX4_addFacts : Room := { frames := 4, cells := 0, slots := 0, locals := 106 }
abbrev rmX4_settleAmounts : Room := { frames := 3, cells := 0, slots := 0, locals := 83 }
abbrev rmX4_settleAnswer : Room := { frames := 3, cells := 0, slots := 0, locals := 83 }
abbrev rmX4_solve : Room := { frames := 5, cells := 0, slots := 0, locals := 128 }
abbrev rmX4_begin : Room := { frames := 6, cells := 0, slots := 0, locals := 148 }
abbrev rmX4_quarrelAt : Room := { frames := 0, cells := 0, slots := 0, locals := 0 }
abbrev rmX4_hasAnswer : Room := { frames := 0, cells := 0, slots := 0, locals := 0 }
abbrev rmX4_answerPart : Room := { frames := 1, cells := 0, slots := 0, locals := 20 }
abbrev rmX4_topAt : Room := { frames := 2, cells := 0, slots := 0, locals := 50 }
abbrev rmX4_amountPart : Room := { frames := 3, cells := 0, slots := 0, locals := 74 }
abbrev rmX4_settledAtFirst : Room := { frames := 0, cells := 0, slots := 0, locals := 0 }
abbrev rmX4_isStrange : Room := { frames := 3, cells := 0, slots := 0, locals := 74 }
abbrev rmX4_choose : Room := { frames := 0, cells := 0, slots := 0, locals := 0 }
abbrev rmX4_strangePart : Room := { frames := 4, cells := 0, slots := 0, locals := 99 }
abbrev rmX4_areAlongside : Room := { frames := 1, cells := 0, slots := 0, locals := 21 }
abbrev rmX4_lackingName : Room := { frames := 3, cells := 0, slots := 0, locals := 83 }
abbrev rmX4_factsOf : Room := { frames := 2, cells := 0, slots := 0, locals := 43 }
abbrev rmX4_isSettledBy : Room := { frames := 4, cells := 0, slots := 0, locals := 106 }
abbrev rmX4_idleFacts : Room := { frames := 5, cells := 0, slots := 0, locals := 129 }
abbrev rmJ6_bitCount_0f7a4 : Room := { frames := 0, cells := 0, slots := 0, locals := 0 }
abbrev rmX4_seekFewest : Room := { frames := 5, cells := 0, slots := 0, locals := 129 }
abbrev rmX4_fewestFacts : Room := { frames := 6, cells := 0, slots := 0, locals := 153 }
abbrev rmX5_init : Room := { frames := 0, cells := 0, slots := 0, locals := 0 }
abbrev rmX5_filledBytes : Room := { frames := 0, cells := 0, slots := 0, locals := 0 }
abbrev rmX5_append : Room := { frames := 0, cells := 0, slots := 0, locals := 0 }
abbrev rmX5_cut : Room := { frames := 3, cells := 0, slots := 0, locals := 63 }
abbrev rmX6_init : Room := { frames := 2, cells := 0, slots := 0, locals := 42 }
abbrev rmX6_feed : Room := { frames := 1, cells := 0, slots := 0, locals := 23 }
abbrev rmX6_end : Room := { frames := 4, cells := 0, slots := 0, locals := 84 }
abbrev rmX6_fault : Room := { frames := 12, cells := 0, slots := 0, locals := 306 }
abbrev rmX6_tale : Room := { frames := 12, cells := 0, slots := 0, locals := 306 }
abbrev rmX6_sentences : Room := { frames := 1, cells := 0, slots := 0, locals := 20 }
abbrev rmX6_sentence : Room := { frames := 2, cells := 0, slots := 0, locals := 43 }
abbrev rmX6_question : Room := { frames := 1, cells := 0, slots := 0, locals := 21 }
abbrev rmX6_quarrel : Room := { frames := 1, cells := 0, slots := 0, locals := 20 }
abbrev rmX6_answer : Room := { frames := 2, cells := 0, slots := 0, locals := 41 }
abbrev rmX6_amount : Room := { frames := 4, cells := 0, slots := 0, locals := 100 }
abbrev rmX6_idle : Room := { frames := 6, cells := 0, slots := 0, locals := 150 }
abbrev rmX6_enough : Room := { frames := 7, cells := 0, slots := 0, locals := 173 }
abbrev rmX6_lacking : Room := { frames := 4, cells := 0, slots := 0, locals := 105 }
abbrev rmX6_strange : Room := { frames := 5, cells := 0, slots := 0, locals := 123 }
abbrev rmX6_put : Room := { frames := 6, cells := 0, slots := 0, locals := 148 }
abbrev rmX6_undo : Room := { frames := 6, cells := 0, slots := 0, locals := 148 }
abbrev rmX6_count : Room := { frames := 1, cells := 0, slots := 0, locals := 22 }
abbrev rmX7_init : Room := { frames := 0, cells := 0, slots := 0, locals := 0 }
abbrev rmX7_thrown : Room := { frames := 0, cells := 0, slots := 0, locals := 0 }
abbrev rmX7_isIn : Room := { frames := 0, cells := 0, slots := 0, locals := 0 }
abbrev rmX7_bytesIn : Room := { frames := 0, cells := 0, slots := 0, locals := 0 }
abbrev rmX7_put4 : Room := { frames := 0, cells := 0, slots := 0, locals := 0 }
abbrev rmX7_feed : Room := { frames := 1, cells := 0, slots := 0, locals := 22 }
abbrev rmX7_end : Room := { frames := 0, cells := 0, slots := 0, locals := 0 }
abbrev rmX7_isSmall : Room := { frames := 0, cells := 0, slots := 0, locals := 0 }
abbrev rmX7_isDigit : Room := { frames := 0, cells := 0, slots := 0, locals := 0 }
abbrev rmX7_next : Room := { frames := 1, cells := 0, slots := 0, locals := 20 }
abbrev rmX7_is : Room := { frames := 6, cells := 0, slots := 0, locals := 166 }
abbrev rmX7_takes : Room := { frames := 7, cells := 0, slots := 0, locals := 188 }
abbrev rmX7_one : Room := { frames := 0, cells := 0, slots := 0, locals := 0 }
abbrev rmX7_name : Room := { frames := 7, cells := 0, slots := 0, locals := 188 }
abbrev rmX7_unit : Room := { frames := 7, cells := 0, slots := 0, locals := 188 }
abbrev rmX7_number : Room := { frames := 1, cells := 0, slots := 0, locals := 20 }
abbrev rmX7_takesName : Room := { frames := 8, cells := 0, slots := 0, locals := 209 }
abbrev rmX7_takesUnit : Room := { frames := 8, cells := 0, slots := 0, locals := 208 }
abbrev rmX7_takesNumber : Room := { frames := 2, cells := 0, slots := 0, locals := 42 }
abbrev rmX7_sentence : Room := { frames := 9, cells := 0, slots := 0, locals := 231 }
abbrev rmX7_asks : Room := { frames := 9, cells := 0, slots := 0, locals := 231 }
abbrev rmX7_reads : Room := { frames := 10, cells := 0, slots := 0, locals := 252 }
abbrev rmX7_fault : Room := { frames := 11, cells := 0, slots := 0, locals := 275 }
abbrev rmX7_tale : Room := { frames := 11, cells := 0, slots := 0, locals := 275 }
abbrev rmX7_sentences : Room := { frames := 0, cells := 0, slots := 0, locals := 0 }
abbrev rmX7_of : Room := { frames := 0, cells := 0, slots := 0, locals := 0 }
abbrev rmX7_sentence_ : Room := { frames := 1, cells := 0, slots := 0, locals := 22 }
abbrev rmX7_question : Room := { frames := 1, cells := 0, slots := 0, locals := 22 }
abbrev rmX7_more : Room := { frames := 1, cells := 0, slots := 0, locals := 22 }
abbrev rmJ9_abs_067f4 : Room := { frames := 0, cells := 0, slots := 0, locals := 0 }
abbrev rmX7_common : Room := { frames := 1, cells := 0, slots := 0, locals := 21 }
abbrev rmX7_law : Room := { frames := 2, cells := 0, slots := 0, locals := 48 }
abbrev rmX7_adds : Room := { frames := 2, cells := 0, slots := 0, locals := 50 }
abbrev rmX7_isFact : Room := { frames := 1, cells := 0, slots := 0, locals := 22 }
abbrev rmX7_gather : Room := { frames := 3, cells := 0, slots := 0, locals := 79 }
abbrev rmX7_settles : Room := { frames := 2, cells := 0, slots := 0, locals := 50 }
abbrev rmX7_part : Room := { frames := 2, cells := 0, slots := 0, locals := 50 }
abbrev rmX7_all : Room := { frames := 0, cells := 0, slots := 0, locals := 0 }
abbrev rmX7_quarrelAt : Room := { frames := 4, cells := 0, slots := 0, locals := 103 }
abbrev rmX7_quarrel : Room := { frames := 5, cells := 0, slots := 0, locals := 124 }
abbrev rmX7_answersBy : Room := { frames := 4, cells := 0, slots := 0, locals := 103 }
abbrev rmX7_hasAnswer : Room := { frames := 5, cells := 0, slots := 0, locals := 124 }
abbrev rmX7_answer : Room := { frames := 6, cells := 0, slots := 0, locals := 144 }
abbrev rmX7_stages : Room := { frames := 2, cells := 0, slots := 0, locals := 43 }
abbrev rmX7_amounts : Room := { frames := 4, cells := 0, slots := 0, locals := 103 }
abbrev rmX7_amount : Room := { frames := 5, cells := 0, slots := 0, locals := 126 }
abbrev rmX7_idle : Room := { frames := 6, cells := 0, slots := 0, locals := 144 }
abbrev rmX7_facts : Room := { frames := 2, cells := 0, slots := 0, locals := 43 }
abbrev rmX7_enough : Room := { frames := 6, cells := 0, slots := 0, locals := 144 }
abbrev rmX7_lacking : Room := { frames := 5, cells := 0, slots := 0, locals := 124 }
abbrev rmX7_strange : Room := { frames := 5, cells := 0, slots := 0, locals := 126 }
abbrev rmX7_put : Room := { frames := 1, cells := 0, slots := 0, locals := 22 }
abbrev rmX7_undo : Room := { frames := 0, cells := 0, slots := 0, locals := 0 }
abbrev rmX7_count : Room := { frames := 5, cells := 0, slots := 0, locals := 126 }
/-! WORDS OF THE TAPE: what a byte is, where the next word begins and ends; small rows on numbers -/
def b2i (b : Bool) : Int32 := if b = true then 1 else 0
theorem b2i_t {b : Bool} (h : b = true) : b2i b = 1 := if_pos h
theorem b2i_f {b : Bool} (h : b = false) : b2i b = 0 := if_neg (by rw [h]; decide)
theorem b2i_0 {b : Bool} : b2i b = 0 ↔ b = false := by cases b <;> simp [b2i]
theorem b2i_1 {b : Bool} : b2i b = 1 ↔ b = true := by cases b <;> simp [b2i]
theorem b2i_n0 {b : Bool} : ¬ b2i b = 0 ↔ b = true := by cases b <;> simp [b2i]
theorem b2i_nar (b : Bool) : narrow .boolean (.int (b2i b)) = .int (b2i b) := by cases b <;> decide
def isL (c : Int32) : Bool := decide (97 ≤ c) && decide (c ≤ 122)
def isD (c : Int32) : Bool := decide (48 ≤ c) && decide (c ≤ 57)
def isB (c : Int32) : Bool := decide (c = 32) || decide (c = 10)
/-- the first place from i on that is no blank -/
def skW (t : Nat → Int32) : Nat → Nat → Nat
  | 0, i => i
  | d + 1, i => if isB (t i) = true then skW t d (i + 1) else i
/-- the first place from i on that the row of letters (and digits) has no more -/
def rnW (t : Nat → Int32) (g : Bool) : Nat → Nat → Nat
  | 0, i => i
  | d + 1, i => if (isL (t i) || (g && isD (t i))) = true then rnW t g d (i + 1) else i
def skp (t : Nat → Int32) (n i : Nat) : Nat := skW t (n - i) i
def wnd (t : Nat → Int32) (n f : Nat) : Nat := if f < n then (if (isD (t f) || isL (t f)) = true then rnW t (isD (t f)) (n - (f + 1)) (f + 1) else f + 1) else f
theorem skW_le (t : Nat → Int32) : ∀ d i, i ≤ skW t d i ∧ skW t d i ≤ i + d
  | 0, i => ⟨Nat.le_refl _, Nat.le_refl _⟩
  | d + 1, i => by
    unfold skW
    by_cases h : isB (t i) = true
    · rw [if_pos h]
      have := skW_le t d (i + 1)
      omega
    · rw [if_neg h]; omega
theorem rnW_le (t : Nat → Int32) (g : Bool) : ∀ d i, i ≤ rnW t g d i ∧ rnW t g d i ≤ i + d
  | 0, i => ⟨Nat.le_refl _, Nat.le_refl _⟩
  | d + 1, i => by
    unfold rnW
    by_cases h : (isL (t i) || (g && isD (t i))) = true
    · rw [if_pos h]
      have := rnW_le t g d (i + 1)
      omega
    · rw [if_neg h]; omega
theorem skp_le (t : Nat → Int32) {n i : Nat} (h : i ≤ n) : i ≤ skp t n i ∧ skp t n i ≤ n := by
  have := skW_le t (n - i) i
  unfold skp
  omega
theorem wnd_le (t : Nat → Int32) {n f : Nat} (h : f ≤ n) : f ≤ wnd t n f ∧ wnd t n f ≤ n ∧ (f < n → f < wnd t n f) := by
  unfold wnd
  by_cases q : f < n
  · rw [if_pos q]
    by_cases w : (isD (t f) || isL (t f)) = true
    · rw [if_pos w]
      have := rnW_le t (isD (t f)) (n - (f + 1)) (f + 1)
      omega
    · rw [if_neg w]; omega
  · rw [if_neg q]; omega
theorem nle {a b : Nat} (ha : a < 2 ^ 31) (hb : b < 2 ^ 31) (h : nI a ≤ nI b) : a ≤ b := (nI_leI ha hb).mp h
theorem nnle {a b : Nat} (ha : a < 2 ^ 31) (hb : b < 2 ^ 31) (h : ¬ nI a ≤ nI b) : b < a := Nat.not_le.mp fun q => h ((nI_leI ha hb).mpr q)
theorem nlt {a b : Nat} (ha : a < 2 ^ 31) (hb : b < 2 ^ 31) (h : nI a < nI b) : a < b := (nI_ltI ha hb).mp h
theorem nnlt {a b : Nat} (ha : a < 2 ^ 31) (hb : b < 2 ^ 31) (h : ¬ nI a < nI b) : b ≤ a := Nat.not_lt.mp fun q => h ((nI_ltI ha hb).mpr q)
/-! what else the tape's methods speak of -/
def byt (v sh : Int32) : Int32 := (v.toUInt32 >>> (sh.toUInt32 &&& Int32.toUInt32 31)).toInt32 &&& 255
def nz (b : Int32) : Int32 := if b = 0 then 0 else 1
def fbC (v : Int32) : Int32 := 0 + nz (byt v 24) + nz (byt v 16) + nz (byt v 8) + nz (byt v 0)
def ap1 (s : (Nat → Int32) × Nat) (x : Int32) : (Nat → Int32) × Nat := if x = 0 then s else if 400 ≤ s.2 then s else (fun j => if j = s.2 then x else s.1 j, s.2 + 1)
def apB (v : Int32) (s : (Nat → Int32) × Nat) : (Nat → Int32) × Nat := ap1 (ap1 (ap1 (ap1 s (byt v 24)) (byt v 16)) (byt v 8)) (byt v 0)
theorem ap1_le {s : (Nat → Int32) × Nat} {x : Int32} (h : s.2 ≤ 400) : (ap1 s x).2 ≤ 400 ∧ s.2 ≤ (ap1 s x).2 := by
  unfold ap1
  split
  · exact ⟨h, Nat.le_refl _⟩
  · split
    · exact ⟨h, Nat.le_refl _⟩
    · constructor <;> simp <;> omega
theorem apB_le {s : (Nat → Int32) × Nat} {v : Int32} (h : s.2 ≤ 400) : (apB v s).2 ≤ 400 ∧ s.2 ≤ (apB v s).2 := by
  unfold apB
  have h1 := ap1_le (x := byt v 24) h
  have h2 := ap1_le (x := byt v 16) h1.1
  have h3 := ap1_le (x := byt v 8) h2.1
  have h4 := ap1_le (x := byt v 0) h3.1
  exact ⟨h4.1, by omega⟩
/-- rows that are as they were, but for those of the list -/
def fr (Z : List Nat) (I I' : Nat → Nat → Int32) : Prop := ∀ a, a ∉ Z → I' a = I a
theorem fr_rf {Z : List Nat} {I : Nat → Nat → Int32} : fr Z I I := fun _ _ => rfl
theorem fr_tr {Z : List Nat} {I I1 I2 : Nat → Nat → Int32} (h : fr Z I I1) (g : fr Z I1 I2) : fr Z I I2 := fun a ha => (g a ha).trans (h a ha)
theorem fr_zu {Z : List Nat} {I I1 : Nat → Nat → Int32} {a k : Nat} {v : Int32} (h : fr Z I I1) (ha : a ∈ Z) : fr Z I (zu I1 a k v) := fun b hb => by
  have q : b ≠ a := fun e => hb (by rw [e]; exact ha)
  exact (zu_o q).trans (h b hb)
theorem fr_mono {Z Z' : List Nat} {I I1 : Nat → Nat → Int32} (h : fr Z I I1) (hz : ∀ a ∈ Z, a ∈ Z') : fr Z' I I1 := fun a ha => h a (fun q => ha (hz a q))
/-- the tape t, its bytes at b: n of them, the next word from f to e - 1 -/
def TP (S : zS) (R : Nat → Nat → Option Nat) (I : Nat → Nat → Int32) (t b n f e : Nat) : Prop := zO S t 5 ∧ R t 0 = some b ∧ zA S b 9 400 ∧ I t 1 = nI n ∧ I t 2 = nI f ∧ I t 3 = nI e ∧ n ≤ 400 ∧ f ≤ e ∧ e ≤ n
theorem TP.ne {S : zS} {R : Nat → Nat → Option Nat} {I : Nat → Nat → Int32} {t b n f e : Nat} (h : TP S R I t b n f e) : b ≠ t := fun q => absurd (h.1.2.symm.trans (q ▸ h.2.2.1.2.1)) (by decide)
/-- how many letters from the place j on are those of the text from o on -/
def mtc (g : Nat → Int32) (f : Nat) (s : List Int32) (o : Nat) : Nat → Nat → Nat
  | 0, j => j
  | d + 1, j => if g (f + j) = s.getD (o + j) 0 then mtc g f s o d (j + 1) else j
theorem mtc_le (g : Nat → Int32) (f : Nat) (s : List Int32) (o : Nat) : ∀ d j, j ≤ mtc g f s o d j ∧ mtc g f s o d j ≤ j + d
  | 0, j => ⟨Nat.le_refl _, Nat.le_refl _⟩
  | d + 1, j => by
    unfold mtc
    split
    · have := mtc_le g f s o d (j + 1)
      omega
    · omega
/-- which entry of k letters the word from f on is -/
def fndW (g : Nat → Int32) (f : Nat) (s : List Int32) (k : Nat) : Nat → Nat → Int32
  | 0, _ => -1
  | d + 1, i => if mtc g f s (i * k) k 0 = k then nI i else fndW g f s k d (i + 1)
def fnd (g : Nat → Int32) (f e : Nat) (s : List Int32) (en k : Nat) : Int32 := if e - f = k then fndW g f s k en 0 else -1
/-- the word from f to e - 1 is that text -/
def mW (g : Nat → Int32) (f e : Nat) (s : List Int32) : Bool := decide (e - f = s.length) && decide (mtc g f s 0 s.length 0 = s.length)
/-- the digits from p on -/
def dgW (g : Nat → Int32) : Nat → Nat → Int32 → Option Int32
  | 0, _, a => some a
  | d + 1, p, a => if isD (g p) = true then dgW g d (p + 1) (a * 10 + (g p - 48)) else none
def nmW (g : Nat → Int32) (f e : Nat) : Option Int32 := if f < e ∧ e - f ≤ 3 then dgW g (e - f) f 0 else none
end
section
/-! CONTRACTS with a relation: the answer and the new memory stand in it. -/
def zIP (l : Launch) (y : MethodName) (ws : List Cond) (rm : Room) (E : zE) (S : zS) (av : List Value) (μ : zM) (post : Int32 → zM → Prop) : Prop :=
  ∀ sz, Met l y ws rm (va_Pc av (zP E S μ sz)) (va_Qi post (zB E S (va_A (zW E S μ) sz)) (va_A (zW E S μ) sz)) 0 0 (va_A (zW E S μ) sz)
def zLP (l : Launch) (y : MethodName) (ws : List Cond) (rm : Room) (E : zE) (S : zS) (av : List Value) (μ : zM) (post : Int64 → zM → Prop) : Prop :=
  ∀ sz, Met l y ws rm (va_Pc av (zP E S μ sz)) (va_Ql post (zB E S (va_A (zW E S μ) sz)) (va_A (zW E S μ) sz)) 0 0 (va_A (zW E S μ) sz)
def zNP (l : Launch) (y : MethodName) (ws : List Cond) (rm : Room) (E : zE) (S : zS) (av : List Value) (μ : zM) (post : zM → Prop) : Prop :=
  ∀ sz, Met l y ws rm (va_Pc av (zP E S μ sz)) (va_Qv post (zB E S (va_A (zW E S μ) sz)) (va_A (zW E S μ) sz)) 0 0 (va_A (zW E S μ) sz)
section ZCP
variable {l : Launch} {y : MethodName} {ws ws' : List Cond} {rm : Room} {E : zE} {S : zS} {av : List Value} {μ : zM} {cc : ByteArray} {maxL : Nat}
theorem z_metIP {post : Int32 → zM → Prop} {ty : FieldType} (hy : plainName y.cls = true) (hw : ws = Cond.code y cc maxL (some ty) :: zTbl) (hlen : (lg_sl av).length ≤ maxL)
    (body : ∀ X : zC, zOK X E l cc y.cls zTbl rm maxL → (∀ {pc : Nat} {lv : List (Nat × Value)} {r : Int32} {ν : zM}, post r ν → decode cc pc = .ok (.ireturn, 1) → narrow ty (.int r) = .int r → zV X E S 0 0 ν pc lv [.int r]) → zV X E S 0 0 μ 0 (lv_args 0 av) []) : zIP l y ws rm E S av μ post := by
  intro sz
  refine Met.ofW (cc := cc) (maxL := maxL) (ret := some ty) hy hw ?_
  intro p e s m args below meth c s₁ B hml hv
  obtain ⟨rfl, hsz, hP, hK, hD0, hE⟩ := hv
  subst hsz
  have hD : va_D (va_A (zW E S μ) s.heap.size) (zW E S μ) := hD0.self (sz := s.heap.size)
  have hlocks := B.notSynchronized
  have hb := body (p, l, e, (headSpec ws rm).room, s, m, av.toArray, below, meth, c, MQ below (va_Qi post (zB E S (va_A (zW E S μ) s.heap.size)) (va_A (zW E S μ) s.heap.size)) av.toArray s 0 0 (va_A (zW E S μ) s.heap.size), va_A (zW E S μ) s.heap.size, maxL)
    ⟨B.exec, B.bytes, hml, findClass_of_methodNamed B.named, fun w hw9 => atoms_spec (ws := ws) B.pre w (by rw [hw]; exact List.mem_cons_of_mem _ hw9), hK, fun q h => Or.inr h, hE, rfl, rfl, rfl⟩
    (fun {pc lv r ν} hp hd hn H locs ls hP hD hS hl => W.zret (v := r) B.exec B.bytes B.returns hn (fun t ht hW => ⟨⟨r, ν, rfl, hp, by rw [ht]; exact hP, va_K.moved hW.alike hK, hD⟩, hS.F ht⟩) hS.2.2 hd)
  rw [lg_entry_eq]
  exact hb s.heap [] _ hP hD va_S.rf (lv_entry av hlen)
theorem z_metLP {post : Int64 → zM → Prop} (hy : plainName y.cls = true) (hw : ws = Cond.code y cc maxL (some .long) :: zTbl) (hlen : (lg_sl av).length ≤ maxL)
    (body : ∀ X : zC, zOK X E l cc y.cls zTbl rm maxL → (∀ {pc : Nat} {lv : List (Nat × Value)} {r : Int64} {ν : zM}, post r ν → decode cc pc = .ok (.lreturn, 1) → zV X E S 0 0 ν pc lv [.long r]) → zV X E S 0 0 μ 0 (lv_args 0 av) []) : zLP l y ws rm E S av μ post := by
  intro sz
  refine Met.ofW (cc := cc) (maxL := maxL) (ret := some .long) hy hw ?_
  intro p e s m args below meth c s₁ B hml hv
  obtain ⟨rfl, hsz, hP, hK, hD0, hE⟩ := hv
  subst hsz
  have hD : va_D (va_A (zW E S μ) s.heap.size) (zW E S μ) := hD0.self (sz := s.heap.size)
  have hlocks := B.notSynchronized
  have hb := body (p, l, e, (headSpec ws rm).room, s, m, av.toArray, below, meth, c, MQ below (va_Ql post (zB E S (va_A (zW E S μ) s.heap.size)) (va_A (zW E S μ) s.heap.size)) av.toArray s 0 0 (va_A (zW E S μ) s.heap.size), va_A (zW E S μ) s.heap.size, maxL)
    ⟨B.exec, B.bytes, hml, findClass_of_methodNamed B.named, fun w hw9 => atoms_spec (ws := ws) B.pre w (by rw [hw]; exact List.mem_cons_of_mem _ hw9), hK, fun q h => Or.inr h, hE, rfl, rfl, rfl⟩
    (fun {pc lv r ν} hp hd H locs ls hP hD hS hl => W.lret (v := r) B.exec B.bytes B.returns (fun t ht hW => ⟨⟨r, ν, rfl, hp, by rw [ht]; exact hP, va_K.moved hW.alike hK, hD⟩, hS.F ht⟩) hS.2.2 hd)
  rw [lg_entry_eq]
  exact hb s.heap [] _ hP hD va_S.rf (lv_entry av hlen)
theorem z_metNP {post : zM → Prop} (hy : plainName y.cls = true) (hw : ws = Cond.code y cc maxL none :: zTbl) (hlen : (lg_sl av).length ≤ maxL)
    (body : ∀ X : zC, zOK X E l cc y.cls zTbl rm maxL → (∀ {pc : Nat} {lv : List (Nat × Value)} {ν : zM}, post ν → decode cc pc = .ok (.return_, 1) → zV X E S 0 0 ν pc lv []) → zV X E S 0 0 μ 0 (lv_args 0 av) []) : zNP l y ws rm E S av μ post := by
  intro sz
  refine Met.ofW (cc := cc) (maxL := maxL) (ret := none) hy hw ?_
  intro p e s m args below meth c s₁ B hml hv
  obtain ⟨rfl, hsz, hP, hK, hD0, hE⟩ := hv
  subst hsz
  have hD : va_D (va_A (zW E S μ) s.heap.size) (zW E S μ) := hD0.self (sz := s.heap.size)
  have hlocks := B.notSynchronized
  have hb := body (p, l, e, (headSpec ws rm).room, s, m, av.toArray, below, meth, c, MQ below (va_Qv post (zB E S (va_A (zW E S μ) s.heap.size)) (va_A (zW E S μ) s.heap.size)) av.toArray s 0 0 (va_A (zW E S μ) s.heap.size), va_A (zW E S μ) s.heap.size, maxL)
    ⟨B.exec, B.bytes, hml, findClass_of_methodNamed B.named, fun w hw9 => atoms_spec (ws := ws) B.pre w (by rw [hw]; exact List.mem_cons_of_mem _ hw9), hK, fun q h => Or.inr h, hE, rfl, rfl, rfl⟩
    (fun {pc lv ν} hp hd H locs ls hP hD hS hl => W.vret B.exec B.bytes B.returns (fun t ht hW => ⟨⟨ν, rfl, hp, by rw [ht]; exact hP, va_K.moved hW.alike hK, hD⟩, hS.F ht⟩) hS.2.2 hd)
  rw [lg_entry_eq]
  exact hb s.heap [] _ hP hD va_S.rf (lv_entry av hlen)
end ZCP
section ZCALLP
variable {X : zC} {E : zE} {S : zS} {kc ks : Nat} {μ ν : zM} {pc : Nat} {lv : List (Nat × Value)} {st st0 : List Value} {l : Launch} {cc : ByteArray} {own : String} {Ts : List Cond} {rm : Room} {nL : Nat}
variable {C : String} {T : u_T} {N ci index b n maxL : Nat} {y : MethodName} {bytes : ByteArray} {ret : Option FieldType} {ws ws' : List Cond} {rc : Room} {As : List Value}
theorem z_callVIP {post : Int32 → zM → Prop} (h : zOK X E l cc own Ts rm nL) (hM : zIP l y ws rc E S (.ref b :: As) μ post) (ho : zO S b ci) (hc : vwCl[ci]? = some (C, T, N)) (hg : GoodIn Ts (wsV own index C y ws)) (hws : ws = Cond.code y bytes maxL ret :: ws') (hrc : rc.cells = 0 ∧ rc.slots = 0) (n : Nat)
    (hd0 : y.cls = C ∧ y.cls ≠ "java/lang/invoke/MethodHandle" ∧ y.cls ≠ "java/lang/invoke/VarHandle" ∧ (parseMethodDescriptor y.desc).map (fun d => d.parameters.length) = some n) (hR : rc.frames + 1 ≤ rm.frames ∧ 8 + (maxL + 11) + rc.locals ≤ rm.locals) (hn : As.length = n) (hst : st0 = As.reverse ++ .ref b :: st) (hcat : (st.map fun v => v.category).sum ≤ 8) (hkc : kc ≤ rm.cells ∧ ks ≤ rm.slots) (hd : decode cc pc = .ok (.invokevirtual index, 3))
    (k : ∀ (r : Int32) (ν : zM), post r ν → zV X E S kc ks ν (pc + 3) lv (.int r :: st)) : zV X E S kc ks μ pc lv st0 := fun H locs ls hP hD hS hl => by
  subst hst
  obtain ⟨q, hq, hq'⟩ := zW_at (E := E) (μ := μ) ho.1 (zc_o ho.2 (zcls hc).2.2)
  have hF := zA_sub hD hS h.2.2.2.2.2.2.1
  have hl2 : X.2.1 = l := h.2.2.2.2.2.2.2.2.1
  have hR2 : X.2.2.2.1 = rm := h.2.2.2.2.2.2.2.2.2.1
  have hM2 := hM H.size
  rw [← hl2] at hM2
  refine va_calli (va_runV (As := As) (rest := st) ⟨h.1, h.2.1, h.2.2.1, h.2.2.2.1, h.2.2.2.2.1⟩ hM2 (cwV n h.2.2.2.2.1 hg hws hrc.1 hrc.2 hd0 (by rw [hR2]; exact hR)) ⟨zP_blind, va_recv h.2.2.2.2.2.1 hP (q := (C, T, N)) (ci := ci) (q0 := q) hc hq', z_pre h hP hD hS _⟩ rfl hn (hl.1.trans h.2.2.2.2.2.2.2.2.2.2) rfl (lv_room hcat) hd (by rw [hR2]; exact hkc)) hS (fun q _ h => hF q h) hF (fun r2 u t H1 locs1 ht hvm hw hB hz1 hk1 hS1 => ?_)
  obtain ⟨hP1, hK1, hD1⟩ := hB
  rw [ht] at hP1
  exact k r2 u hw H1 locs1 ls hP1 (hD1.weaken (fun _ _ _ q => hF _ q)) hS1 hl
theorem z_callVLP {post : Int64 → zM → Prop} (h : zOK X E l cc own Ts rm nL) (hM : zLP l y ws rc E S (.ref b :: As) μ post) (ho : zO S b ci) (hc : vwCl[ci]? = some (C, T, N)) (hg : GoodIn Ts (wsV own index C y ws)) (hws : ws = Cond.code y bytes maxL ret :: ws') (hrc : rc.cells = 0 ∧ rc.slots = 0) (n : Nat)
    (hd0 : y.cls = C ∧ y.cls ≠ "java/lang/invoke/MethodHandle" ∧ y.cls ≠ "java/lang/invoke/VarHandle" ∧ (parseMethodDescriptor y.desc).map (fun d => d.parameters.length) = some n) (hR : rc.frames + 1 ≤ rm.frames ∧ 8 + (maxL + 11) + rc.locals ≤ rm.locals) (hn : As.length = n) (hst : st0 = As.reverse ++ .ref b :: st) (hcat : (st.map fun v => v.category).sum ≤ 8) (hkc : kc ≤ rm.cells ∧ ks ≤ rm.slots) (hd : decode cc pc = .ok (.invokevirtual index, 3))
    (k : ∀ (r : Int64) (ν : zM), post r ν → zV X E S kc ks ν (pc + 3) lv (.long r :: st)) : zV X E S kc ks μ pc lv st0 := fun H locs ls hP hD hS hl => by
  subst hst
  obtain ⟨q, hq, hq'⟩ := zW_at (E := E) (μ := μ) ho.1 (zc_o ho.2 (zcls hc).2.2)
  have hF := zA_sub hD hS h.2.2.2.2.2.2.1
  have hl2 : X.2.1 = l := h.2.2.2.2.2.2.2.2.1
  have hR2 : X.2.2.2.1 = rm := h.2.2.2.2.2.2.2.2.2.1
  have hM2 := hM H.size
  rw [← hl2] at hM2
  refine va_calll (va_runV (As := As) (rest := st) ⟨h.1, h.2.1, h.2.2.1, h.2.2.2.1, h.2.2.2.2.1⟩ hM2 (cwV n h.2.2.2.2.1 hg hws hrc.1 hrc.2 hd0 (by rw [hR2]; exact hR)) ⟨zP_blind, va_recv h.2.2.2.2.2.1 hP (q := (C, T, N)) (ci := ci) (q0 := q) hc hq', z_pre h hP hD hS _⟩ rfl hn (hl.1.trans h.2.2.2.2.2.2.2.2.2.2) rfl (lv_room hcat) hd (by rw [hR2]; exact hkc)) hS (fun q _ h => hF q h) hF (fun r2 u t H1 locs1 ht hvm hw hB hz1 hk1 hS1 => ?_)
  obtain ⟨hP1, hK1, hD1⟩ := hB
  rw [ht] at hP1
  exact k r2 u hw H1 locs1 ls hP1 (hD1.weaken (fun _ _ _ q => hF _ q)) hS1 hl
theorem z_callVNP {post : zM → Prop} (h : zOK X E l cc own Ts rm nL) (hM : zNP l y ws rc E S (.ref b :: As) μ post) (ho : zO S b ci) (hc : vwCl[ci]? = some (C, T, N)) (hg : GoodIn Ts (wsV own index C y ws)) (hws : ws = Cond.code y bytes maxL ret :: ws') (hrc : rc.cells = 0 ∧ rc.slots = 0) (n : Nat)
    (hd0 : y.cls = C ∧ y.cls ≠ "java/lang/invoke/MethodHandle" ∧ y.cls ≠ "java/lang/invoke/VarHandle" ∧ (parseMethodDescriptor y.desc).map (fun d => d.parameters.length) = some n) (hR : rc.frames + 1 ≤ rm.frames ∧ 8 + (maxL + 11) + rc.locals ≤ rm.locals) (hn : As.length = n) (hst : st0 = As.reverse ++ .ref b :: st) (hcat : (st.map fun v => v.category).sum ≤ 8) (hkc : kc ≤ rm.cells ∧ ks ≤ rm.slots) (hd : decode cc pc = .ok (.invokevirtual index, 3))
    (k : ∀ ν : zM, post ν → zV X E S kc ks ν (pc + 3) lv st) : zV X E S kc ks μ pc lv st0 := fun H locs ls hP hD hS hl => by
  subst hst
  obtain ⟨q, hq, hq'⟩ := zW_at (E := E) (μ := μ) ho.1 (zc_o ho.2 (zcls hc).2.2)
  have hF := zA_sub hD hS h.2.2.2.2.2.2.1
  have hl2 : X.2.1 = l := h.2.2.2.2.2.2.2.2.1
  have hR2 : X.2.2.2.1 = rm := h.2.2.2.2.2.2.2.2.2.1
  have hM2 := hM H.size
  rw [← hl2] at hM2
  refine va_callv (va_runV (As := As) (rest := st) ⟨h.1, h.2.1, h.2.2.1, h.2.2.2.1, h.2.2.2.2.1⟩ hM2 (cwV n h.2.2.2.2.1 hg hws hrc.1 hrc.2 hd0 (by rw [hR2]; exact hR)) ⟨zP_blind, va_recv h.2.2.2.2.2.1 hP (q := (C, T, N)) (ci := ci) (q0 := q) hc hq', z_pre h hP hD hS _⟩ rfl hn (hl.1.trans h.2.2.2.2.2.2.2.2.2.2) rfl (lv_room hcat) hd (by rw [hR2]; exact hkc)) hS (fun q _ h => hF q h) hF (fun u t H1 locs1 ht hvm hw hB hz1 hk1 hS1 => ?_)
  obtain ⟨hP1, hK1, hD1⟩ := hB
  rw [ht] at hP1
  exact k u hw H1 locs1 ls hP1 (hD1.weaken (fun _ _ _ q => hF _ q)) hS1 hl
theorem z_callSIP {post : Int32 → zM → Prop} (h : zOK X E l cc own Ts rm nL) (hM : zIP l y ws rc E S As μ post) (hcw : CallB rm X.2.2.2.2.1 X.2.2.2.2.2.2.1 own index y bytes maxL ret ws rc 0 0 n ∧ (Cond.static y).before X.2.2.2.2.2.2.1 X.2.2.2.2.1 = true) (hn : As.length = n) (hst : st0 = As.reverse ++ st) (hcat : (st.map fun v => v.category).sum ≤ 8) (hkc : kc ≤ rm.cells ∧ ks ≤ rm.slots) (hd : decode cc pc = .ok (.invokestatic index, 3))
    (k : ∀ (r : Int32) (ν : zM), post r ν → zV X E S kc ks ν (pc + 3) lv (.int r :: st)) : zV X E S kc ks μ pc lv st0 := fun H locs ls hP hD hS hl => by
  subst hst
  have hF := zA_sub hD hS h.2.2.2.2.2.2.1
  have hl2 : X.2.1 = l := h.2.2.2.2.2.2.2.2.1
  have hR2 : X.2.2.2.1 = rm := h.2.2.2.2.2.2.2.2.2.1
  have hM2 := hM H.size
  rw [← hl2] at hM2
  refine va_calli (va_runS (As := As) (rest := st) ⟨h.1, h.2.1, h.2.2.1, h.2.2.2.1, h.2.2.2.2.1⟩ hM2 (by rw [hR2]; exact hcw) ⟨zP_blind, z_pre h hP hD hS _⟩ rfl hn (hl.1.trans h.2.2.2.2.2.2.2.2.2.2) rfl (lv_room hcat) hd (by rw [hR2]; exact hkc)) hS (fun q _ h => hF q h) hF (fun r2 u t H1 locs1 ht hvm hw hB hz1 hk1 hS1 => ?_)
  obtain ⟨hP1, hK1, hD1⟩ := hB
  rw [ht] at hP1
  exact k r2 u hw H1 locs1 ls hP1 (hD1.weaken (fun _ _ _ q => hF _ q)) hS1 hl
theorem z_callSLP {post : Int64 → zM → Prop} (h : zOK X E l cc own Ts rm nL) (hM : zLP l y ws rc E S As μ post) (hcw : CallB rm X.2.2.2.2.1 X.2.2.2.2.2.2.1 own index y bytes maxL ret ws rc 0 0 n ∧ (Cond.static y).before X.2.2.2.2.2.2.1 X.2.2.2.2.1 = true) (hn : As.length = n) (hst : st0 = As.reverse ++ st) (hcat : (st.map fun v => v.category).sum ≤ 8) (hkc : kc ≤ rm.cells ∧ ks ≤ rm.slots) (hd : decode cc pc = .ok (.invokestatic index, 3))
    (k : ∀ (r : Int64) (ν : zM), post r ν → zV X E S kc ks ν (pc + 3) lv (.long r :: st)) : zV X E S kc ks μ pc lv st0 := fun H locs ls hP hD hS hl => by
  subst hst
  have hF := zA_sub hD hS h.2.2.2.2.2.2.1
  have hl2 : X.2.1 = l := h.2.2.2.2.2.2.2.2.1
  have hR2 : X.2.2.2.1 = rm := h.2.2.2.2.2.2.2.2.2.1
  have hM2 := hM H.size
  rw [← hl2] at hM2
  refine va_calll (va_runS (As := As) (rest := st) ⟨h.1, h.2.1, h.2.2.1, h.2.2.2.1, h.2.2.2.2.1⟩ hM2 (by rw [hR2]; exact hcw) ⟨zP_blind, z_pre h hP hD hS _⟩ rfl hn (hl.1.trans h.2.2.2.2.2.2.2.2.2.2) rfl (lv_room hcat) hd (by rw [hR2]; exact hkc)) hS (fun q _ h => hF q h) hF (fun r2 u t H1 locs1 ht hvm hw hB hz1 hk1 hS1 => ?_)
  obtain ⟨hP1, hK1, hD1⟩ := hB
  rw [ht] at hP1
  exact k r2 u hw H1 locs1 ls hP1 (hD1.weaken (fun _ _ _ q => hF _ q)) hS1 hl
theorem z_callSNP {post : zM → Prop} (h : zOK X E l cc own Ts rm nL) (hM : zNP l y ws rc E S As μ post) (hcw : CallB rm X.2.2.2.2.1 X.2.2.2.2.2.2.1 own index y bytes maxL ret ws rc 0 0 n ∧ (Cond.static y).before X.2.2.2.2.2.2.1 X.2.2.2.2.1 = true) (hn : As.length = n) (hst : st0 = As.reverse ++ st) (hcat : (st.map fun v => v.category).sum ≤ 8) (hkc : kc ≤ rm.cells ∧ ks ≤ rm.slots) (hd : decode cc pc = .ok (.invokestatic index, 3))
    (k : ∀ ν : zM, post ν → zV X E S kc ks ν (pc + 3) lv st) : zV X E S kc ks μ pc lv st0 := fun H locs ls hP hD hS hl => by
  subst hst
  have hF := zA_sub hD hS h.2.2.2.2.2.2.1
  have hl2 : X.2.1 = l := h.2.2.2.2.2.2.2.2.1
  have hR2 : X.2.2.2.1 = rm := h.2.2.2.2.2.2.2.2.2.1
  have hM2 := hM H.size
  rw [← hl2] at hM2
  refine va_callv (va_runS (As := As) (rest := st) ⟨h.1, h.2.1, h.2.2.1, h.2.2.2.1, h.2.2.2.2.1⟩ hM2 (by rw [hR2]; exact hcw) ⟨zP_blind, z_pre h hP hD hS _⟩ rfl hn (hl.1.trans h.2.2.2.2.2.2.2.2.2.2) rfl (lv_room hcat) hd (by rw [hR2]; exact hkc)) hS (fun q _ h => hF q h) hF (fun u t H1 locs1 ht hvm hw hB hz1 hk1 hS1 => ?_)
  obtain ⟨hP1, hK1, hD1⟩ := hB
  rw [ht] at hP1
  exact k u hw H1 locs1 ls hP1 (hD1.weaken (fun _ _ _ q => hF _ q)) hS1 hl
end ZCALLP
theorem z_lk {X : zC} {E : zE} {S : zS} {kc ks : Nat} {μ : zM} {pc : Nat} {lv lv' : List (Nat × Value)} {st : List Value} (k : zV X E S kc ks μ pc lv' st) (hs : lvsub lv lv') : zV X E S kc ks μ pc lv st := z_lv hs k
end
section
/-! THE TEXTS' METHODS -/
theorem zsb_ok : ∀ i, i < 48 → ((zsb i).length < 400 ∧ ∀ j, j < (zsb i).length → (((zsb i).getD j 0 &&& 255).toUInt32 % 65536).toInt32 = (zsb i).getD j 0 ∧ narrow .char (.int ((zsb i).getD j 0)) = .int ((zsb i).getD j 0)) := by decide +kernel

set_option maxHeartbeats 4000000 in
set_option maxRecDepth 100000 in
theorem c_J0_coder (l : Launch) {E : zE} {S : zS} {μ : zM} {i : Nat} (hi : i < zlN) : zI l yJ0_coder_7d493 wsJ0_coder_7d493 rmJ0_coder_7d493 E S [.ref (E.2.2.1 i)] μ (0) μ := by
  refine z_metI (cc := cJ0_coder_7d493) (maxL := 1) (ty := .byte) (by decide) rfl (Nat.le_of_ble_eq_true rfl) (fun X h ret => ?_)
  show zV X E S 0 0 μ 0 _ []
  refine z_gets1 h kf_RJ0_38 dJ0_coder_7d493_0 ?_
  refine z_if_eq h 13 dJ0_coder_7d493_3 (by decide) (fun c3 => absurd c3 (by decide)) (fun c3 => ?_)
  refine z_aload_n h dJ0_coder_7d493_6 rfl rfl ?_
  refine z_getC h hi kf_RJ0_15 dJ0_coder_7d493_7 ?_
  refine z_goto h 14 dJ0_coder_7d493_10 (by decide) ?_
  exact ret dJ0_coder_7d493_14 rfl

set_option maxHeartbeats 4000000 in
set_option maxRecDepth 100000 in
theorem c_J0_isLatin1 (l : Launch) {E : zE} {S : zS} {μ : zM} {i : Nat} (hi : i < zlN) : zI l yJ0_isLatin1_aae02 wsJ0_isLatin1_aae02 rmJ0_isLatin1_aae02 E S [.ref (E.2.2.1 i)] μ (1) μ := by
  refine z_metI (cc := cJ0_isLatin1_aae02) (maxL := 1) (ty := .boolean) (by decide) rfl (Nat.le_of_ble_eq_true rfl) (fun X h ret => ?_)
  show zV X E S 0 0 μ 0 _ []
  refine z_gets1 h kf_RJ0_38 dJ0_isLatin1_aae02_0 ?_
  refine z_if_eq h 17 dJ0_isLatin1_aae02_3 (by decide) (fun c3 => absurd c3 (by decide)) (fun c3 => ?_)
  refine z_aload_n h dJ0_isLatin1_aae02_6 rfl rfl ?_
  refine z_getC h hi kf_RJ0_15 dJ0_isLatin1_aae02_7 ?_
  refine z_if_ne h 17 dJ0_isLatin1_aae02_10 (by decide) (fun c10 => absurd rfl c10) (fun c10 => ?_)
  refine z_iconst (v := 1) h dJ0_isLatin1_aae02_13 (by decide) ?_
  refine z_goto h 18 dJ0_isLatin1_aae02_14 (by decide) ?_
  exact ret dJ0_isLatin1_aae02_18 rfl

set_option maxHeartbeats 4000000 in
set_option maxRecDepth 100000 in
theorem c_J0_length (l : Launch) {E : zE} {S : zS} {μ : zM} {i : Nat} (hi : i < zlN) : zI l yJ0_length_8abf5 wsJ0_length_8abf5 rmJ0_length_8abf5 E S [.ref (E.2.2.1 i)] μ (nI (zsb i).length) μ := by
  refine z_metI (cc := cJ0_length_8abf5) (maxL := 1) (ty := .int) (by decide) rfl (Nat.le_of_ble_eq_true rfl) (fun X h ret => ?_)
  show zV X E S 0 0 μ 0 _ []
  refine z_aload_n h dJ0_length_8abf5_0 rfl rfl ?_
  refine z_getT h hi kf_RJ0_9 dJ0_length_8abf5_1 ?_
  refine z_tlen h hi dJ0_length_8abf5_4 ?_
  refine z_aload_n h dJ0_length_8abf5_5 rfl rfl ?_
  refine z_callTI h hi (c_J0_coder l hi) gm_RJ0_335 rfl ⟨rfl, rfl⟩ 0 (by decide +kernel) ⟨by decide, by decide⟩ rfl rfl (Nat.le_of_ble_eq_true rfl) ⟨Nat.zero_le _, Nat.zero_le _⟩ dJ0_length_8abf5_6 ?_
  refine z_ishr h dJ0_length_8abf5_9 ?_
  rw [show nI (zsb i).length >>> ((0 : Int32) &&& 31) = nI (zsb i).length from sc_shr0 (Nat.lt_trans (zsb_ok i hi).1 (by decide))]
  exact ret dJ0_length_8abf5_10 rfl

set_option maxHeartbeats 4000000 in
set_option maxRecDepth 100000 in
theorem c_J3_check (l : Launch) {E : zE} {S : zS} {μ : zM} {j n q : Nat} (hj : j < n) (hn : n < 400) : zI l yJ3_checkIndex_8e157 wsJ3_checkIndex_8e157 rmJ3_checkIndex_8e157 E S [.int (nI j), .int (nI n), .ref q] μ (nI j) μ := by
  refine z_metI (cc := cJ3_checkIndex_8e157) (maxL := 3) (ty := .int) (by decide) rfl (Nat.le_of_ble_eq_true rfl) (fun X h ret => ?_)
  show zV X E S 0 0 μ 0 _ []
  refine z_iload_n h dJ3_checkIndex_8e157_0 rfl rfl ?_
  refine z_if_lt h 9 dJ3_checkIndex_8e157_1 (by decide) (fun c => absurd c (nI_pos (by omega))) (fun c => ?_)
  refine z_iload_n h dJ3_checkIndex_8e157_4 rfl rfl ?_
  refine z_iload_n h dJ3_checkIndex_8e157_5 rfl rfl ?_
  refine z_icmp_lt h 16 dJ3_checkIndex_8e157_6 (by decide) (fun c => ?_) (fun c => absurd (nI_lt hj (by omega)) c)
  refine z_iload_n h dJ3_checkIndex_8e157_16 rfl rfl ?_
  exact ret dJ3_checkIndex_8e157_17 rfl

set_option maxHeartbeats 4000000 in
set_option maxRecDepth 100000 in
theorem c_J0_check (l : Launch) {E : zE} {S : zS} {μ : zM} {j n : Nat} (hj : j < n) (hn : n < 400) : zN l yJ0_checkIndex_df160 wsJ0_checkIndex_df160 rmJ0_checkIndex_df160 E S [.int (nI j), .int (nI n)] μ μ := by
  refine z_metN (cc := cJ0_checkIndex_df160) (maxL := 2) (by decide) rfl (Nat.le_of_ble_eq_true rfl) (fun X h ret => ?_)
  show zV X E S 0 0 μ 0 _ []
  refine z_iload_n h dJ0_checkIndex_df160_0 rfl rfl ?_
  refine z_iload_n h dJ0_checkIndex_df160_1 rfl rfl ?_
  refine z_gets2 h kf_RJ0_1053 dJ0_checkIndex_df160_2 ?_
  refine z_callSI h (c_J3_check l hj hn) (va_cwS 3 h.2.2.2.2.1 gm_RJ0_1059 rfl rfl rfl (by decide +kernel) ⟨by decide, by decide⟩) rfl rfl (Nat.le_of_ble_eq_true rfl) ⟨Nat.zero_le _, Nat.zero_le _⟩ dJ0_checkIndex_df160_5 ?_
  refine z_pop h dJ0_checkIndex_df160_8 rfl ?_
  exact ret dJ0_checkIndex_df160_9

set_option maxHeartbeats 4000000 in
set_option maxRecDepth 100000 in
theorem c_J1_charAt (l : Launch) {E : zE} {S : zS} {μ : zM} {i j : Nat} (hi : i < zlN) (hj : j < (zsb i).length) : zI l yJ1_charAt_3b067 wsJ1_charAt_3b067 rmJ1_charAt_3b067 E S [.ref (E.2.2.2 i), .int (nI j)] μ ((zsb i).getD j 0) μ := by
  refine z_metI (cc := cJ1_charAt_3b067) (maxL := 2) (ty := .char) (by decide) rfl (Nat.le_of_ble_eq_true rfl) (fun X h ret => ?_)
  show zV X E S 0 0 μ 0 _ []
  refine z_iload_n h dJ1_charAt_3b067_0 rfl rfl ?_
  refine z_aload_n h dJ1_charAt_3b067_1 rfl rfl ?_
  refine z_tlen h hi dJ1_charAt_3b067_2 ?_
  refine z_callSN h (c_J0_check l hj (zsb_ok i hi).1) (va_cwS 2 h.2.2.2.2.1 gm_RJ1_9 rfl rfl rfl (by decide +kernel) ⟨by decide, by decide⟩) rfl rfl (Nat.le_of_ble_eq_true rfl) ⟨Nat.zero_le _, Nat.zero_le _⟩ dJ1_charAt_3b067_3 ?_
  refine z_aload_n h dJ1_charAt_3b067_6 rfl rfl ?_
  refine z_iload_n h dJ1_charAt_3b067_7 rfl rfl ?_
  refine z_tald h hi (zix_nI hj (Nat.lt_trans (zsb_ok i hi).1 (by decide))) dJ1_charAt_3b067_8 ?_
  refine z_sipush (v := 255) h dJ1_charAt_3b067_9 (by decide) ?_
  refine z_iand h dJ1_charAt_3b067_12 ?_
  refine z_i2c h dJ1_charAt_3b067_13 ((zsb_ok i hi).2 j hj).1 ?_
  exact ret dJ1_charAt_3b067_14 ((zsb_ok i hi).2 j hj).2

set_option maxHeartbeats 4000000 in
set_option maxRecDepth 100000 in
theorem c_J0_charAt (l : Launch) {E : zE} {S : zS} {μ : zM} {i j : Nat} (hi : i < zlN) (hj : j < (zsb i).length) : zI l yJ0_charAt_5068e wsJ0_charAt_5068e rmJ0_charAt_5068e E S [.ref (E.2.2.1 i), .int (nI j)] μ ((zsb i).getD j 0) μ := by
  refine z_metI (cc := cJ0_charAt_5068e) (maxL := 2) (ty := .char) (by decide) rfl (Nat.le_of_ble_eq_true rfl) (fun X h ret => ?_)
  show zV X E S 0 0 μ 0 _ []
  refine z_aload_n h dJ0_charAt_5068e_0 rfl rfl ?_
  refine z_callTI h hi (c_J0_isLatin1 l hi) gm_RJ0_492 rfl ⟨rfl, rfl⟩ 0 (by decide +kernel) ⟨by decide, by decide⟩ rfl rfl (Nat.le_of_ble_eq_true rfl) ⟨Nat.zero_le _, Nat.zero_le _⟩ dJ0_charAt_5068e_1 ?_
  refine z_if_eq h 16 dJ0_charAt_5068e_4 (by decide) (fun c => absurd c (by decide)) (fun c => ?_)
  refine z_aload_n h dJ0_charAt_5068e_7 rfl rfl ?_
  refine z_getT h hi kf_RJ0_9 dJ0_charAt_5068e_8 ?_
  refine z_iload_n h dJ0_charAt_5068e_11 rfl rfl ?_
  refine z_callSI h (c_J1_charAt l hi hj) (va_cwS 2 h.2.2.2.2.1 gm_RJ0_495 rfl rfl rfl (by decide +kernel) ⟨by decide, by decide⟩) rfl rfl (Nat.le_of_ble_eq_true rfl) ⟨Nat.zero_le _, Nat.zero_le _⟩ dJ0_charAt_5068e_12 ?_
  exact ret dJ0_charAt_5068e_15 ((zsb_ok i hi).2 j hj).2
end
section
set_option maxHeartbeats 4000000 in
set_option maxRecDepth 100000 in
theorem c_X5_size (l : Launch) {E : zE} {S : zS} {I : Nat → Nat → Int32} {J : Nat → Nat → Int64} {R : Nat → Nat → Option Nat} {t : Nat} (ht : zO S t 5) : zI l yX5_size wsX5_size rmX5_size E S [.ref t] (I, J, R) (I t 1) (I, J, R) := by
  refine z_metI (cc := cX5_size) (maxL := 1) (ty := .int) (by decide) rfl (Nat.le_of_ble_eq_true rfl) (fun X h ret => ?_)
  show zV X E S 0 0 (I, J, R) 0 _ []
  refine z_aload_n h dX5_size_0 rfl rfl ?_
  refine z_getI h (by assumption) rfl kw5 1 (by decide) rfl kf_RX5_15 dX5_size_1 ?_
  exact ret dX5_size_4 rfl

set_option maxHeartbeats 4000000 in
set_option maxRecDepth 100000 in
theorem c_X5_start (l : Launch) {E : zE} {S : zS} {I : Nat → Nat → Int32} {J : Nat → Nat → Int64} {R : Nat → Nat → Option Nat} {t : Nat} (ht : zO S t 5) : zI l yX5_start wsX5_start rmX5_start E S [.ref t] (I, J, R) (I t 2) (I, J, R) := by
  refine z_metI (cc := cX5_start) (maxL := 1) (ty := .int) (by decide) rfl (Nat.le_of_ble_eq_true rfl) (fun X h ret => ?_)
  show zV X E S 0 0 (I, J, R) 0 _ []
  refine z_aload_n h dX5_start_0 rfl rfl ?_
  refine z_getI h (by assumption) rfl kw5 2 (by decide) rfl kf_RX5_19 dX5_start_1 ?_
  exact ret dX5_start_4 rfl

set_option maxHeartbeats 4000000 in
set_option maxRecDepth 100000 in
theorem c_X5_isOver (l : Launch) {E : zE} {S : zS} {I : Nat → Nat → Int32} {J : Nat → Nat → Int64} {R : Nat → Nat → Option Nat} {t : Nat} (ht : zO S t 5) : zI l yX5_isOver wsX5_isOver rmX5_isOver E S [.ref t] (I, J, R) (b2i (decide (I t 1 ≤ I t 2))) (I, J, R) := by
  refine z_metI (cc := cX5_isOver) (maxL := 1) (ty := .boolean) (by decide) rfl (Nat.le_of_ble_eq_true rfl) (fun X h ret => ?_)
  show zV X E S 0 0 (I, J, R) 0 _ []
  refine z_aload_n h dX5_isOver_0 rfl rfl ?_
  refine z_getI h (by assumption) rfl kw5 2 (by decide) rfl kf_RX5_19 dX5_isOver_1 ?_
  refine z_aload_n h dX5_isOver_4 rfl rfl ?_
  refine z_getI h (by assumption) rfl kw5 1 (by decide) rfl kf_RX5_15 dX5_isOver_5 ?_
  refine z_icmp_lt h 15 dX5_isOver_8 (by decide) (fun c8 => ?_) (fun c8 => ?_)
  · have e := b2i_f (b := decide (I t 1 ≤ I t 2)) (by simpa using c8)
    rw [e] at ret
    refine z_iconst (v := 0) h dX5_isOver_15 (by decide) ?_
    exact ret dX5_isOver_16 rfl
  · have e := b2i_t (b := decide (I t 1 ≤ I t 2)) (by simpa using c8)
    rw [e] at ret
    refine z_iconst (v := 1) h dX5_isOver_11 (by decide) ?_
    refine z_goto h 16 dX5_isOver_12 (by decide) ?_
    exact ret dX5_isOver_16 rfl

set_option maxHeartbeats 4000000 in
set_option maxRecDepth 100000 in
theorem c_X5_isLetter (l : Launch) {E : zE} {S : zS} {μ : zM} (c : Int32) : zI l yX5_isLetter wsX5_isLetter rmX5_isLetter E S [.int c] μ (b2i (isL c)) μ := by
  refine z_metI (cc := cX5_isLetter) (maxL := 1) (ty := .boolean) (by decide) rfl (Nat.le_of_ble_eq_true rfl) (fun X h ret => ?_)
  show zV X E S 0 0 μ 0 _ []
  refine z_iload_n h dX5_isLetter_0 rfl rfl ?_
  refine z_bipush (v := 97) h dX5_isLetter_1 (by decide) ?_
  refine z_icmp_lt h 16 dX5_isLetter_3 (by decide) (fun c3 => ?_) (fun c3 => ?_)
  · have e := b2i_f (b := isL c) (by simp only [isL, Bool.and_eq_false_iff, decide_eq_false_iff_not, Int32.not_le]; exact Or.inl c3)
    rw [e] at ret
    refine z_iconst (v := 0) h dX5_isLetter_16 (by decide) ?_
    exact ret dX5_isLetter_17 rfl
  · refine z_iload_n h dX5_isLetter_6 rfl rfl ?_
    refine z_bipush (v := 122) h dX5_isLetter_7 (by decide) ?_
    refine z_icmp_gt h 16 dX5_isLetter_9 (by decide) (fun c9 => ?_) (fun c9 => ?_)
    · have e := b2i_f (b := isL c) (by simp only [isL, Bool.and_eq_false_iff, decide_eq_false_iff_not, Int32.not_le]; exact Or.inr c9)
      rw [e] at ret
      refine z_iconst (v := 0) h dX5_isLetter_16 (by decide) ?_
      exact ret dX5_isLetter_17 rfl
    · have e := b2i_t (b := isL c) (by simp only [isL, Bool.and_eq_true, decide_eq_true_eq]; exact ⟨Int32.not_lt.mp c3, Int32.not_lt.mp c9⟩)
      rw [e] at ret
      refine z_iconst (v := 1) h dX5_isLetter_12 (by decide) ?_
      refine z_goto h 17 dX5_isLetter_13 (by decide) ?_
      exact ret dX5_isLetter_17 rfl

set_option maxHeartbeats 4000000 in
set_option maxRecDepth 100000 in
theorem c_X5_isDigit (l : Launch) {E : zE} {S : zS} {μ : zM} (c : Int32) : zI l yX5_isDigit wsX5_isDigit rmX5_isDigit E S [.int c] μ (b2i (isD c)) μ := by
  refine z_metI (cc := cX5_isDigit) (maxL := 1) (ty := .boolean) (by decide) rfl (Nat.le_of_ble_eq_true rfl) (fun X h ret => ?_)
  show zV X E S 0 0 μ 0 _ []
  refine z_iload_n h dX5_isDigit_0 rfl rfl ?_
  refine z_bipush (v := 48) h dX5_isDigit_1 (by decide) ?_
  refine z_icmp_lt h 16 dX5_isDigit_3 (by decide) (fun c3 => ?_) (fun c3 => ?_)
  · have e := b2i_f (b := isD c) (by simp only [isD, Bool.and_eq_false_iff, decide_eq_false_iff_not, Int32.not_le]; exact Or.inl c3)
    rw [e] at ret
    refine z_iconst (v := 0) h dX5_isDigit_16 (by decide) ?_
    exact ret dX5_isDigit_17 rfl
  · refine z_iload_n h dX5_isDigit_6 rfl rfl ?_
    refine z_bipush (v := 57) h dX5_isDigit_7 (by decide) ?_
    refine z_icmp_gt h 16 dX5_isDigit_9 (by decide) (fun c9 => ?_) (fun c9 => ?_)
    · have e := b2i_f (b := isD c) (by simp only [isD, Bool.and_eq_false_iff, decide_eq_false_iff_not, Int32.not_le]; exact Or.inr c9)
      rw [e] at ret
      refine z_iconst (v := 0) h dX5_isDigit_16 (by decide) ?_
      exact ret dX5_isDigit_17 rfl
    · have e := b2i_t (b := isD c) (by simp only [isD, Bool.and_eq_true, decide_eq_true_eq]; exact ⟨Int32.not_lt.mp c3, Int32.not_lt.mp c9⟩)
      rw [e] at ret
      refine z_iconst (v := 1) h dX5_isDigit_12 (by decide) ?_
      refine z_goto h 17 dX5_isDigit_13 (by decide) ?_
      exact ret dX5_isDigit_17 rfl

set_option maxHeartbeats 4000000 in
set_option maxRecDepth 100000 in
theorem c_X5_advance (l : Launch) {E : zE} {S : zS} {I : Nat → Nat → Int32} {J : Nat → Nat → Int64} {R : Nat → Nat → Option Nat} {t b n p : Nat} (ht : zO S t 5) (hb : R t 0 = some b) (hB : zA S b 9 400) (hn : I t 1 = nI n) (h4 : n ≤ 400) (hp : I t 3 = nI p) (hp4 : p ≤ n) : zN l yX5_advance wsX5_advance rmX5_advance E S [.ref t] (I, J, R) (zu (zu I t 2 (nI (skp (I b) n p))) t 3 (nI (wnd (I b) n (skp (I b) n p))), J, R) := by
  refine z_metN (cc := cX5_advance) (maxL := 4) (by decide) rfl (Nat.le_of_ble_eq_true rfl) (fun X h ret => ?_)
  show zV X E S 0 0 (I, J, R) 0 _ []
  have L5 : ∀ (d i : Nat), i + d = n → zV X E S 0 0 (I, J, R) 41 [(0, .ref t), (1, .int (nI (skW (I b) d i)))] [] → zV X E S 0 0 (I, J, R) 5 [(0, .ref t), (1, .int (nI i))] [] := by
    intro d
    induction d with
    | zero =>
      intro i hi k
      refine z_iload_n h dX5_advance_5 rfl rfl ?_
      refine z_aload_n h dX5_advance_6 rfl rfl ?_
      refine z_getI h (by assumption) rfl kw5 1 (by decide) rfl kf_RX5_15 dX5_advance_7 ?_
      refine z_icmp_ge h 41 dX5_advance_10 (by decide) (fun c10 => ?_) (fun c10 => ?_)
      · exact k
      · rw [hn] at c10; exact absurd (nI_le (by omega) (by omega)) c10
    | succ d ih =>
      intro i hi k
      refine z_iload_n h dX5_advance_5 rfl rfl ?_
      refine z_aload_n h dX5_advance_6 rfl rfl ?_
      refine z_getI h (by assumption) rfl kw5 1 (by decide) rfl kf_RX5_15 dX5_advance_7 ?_
      refine z_icmp_ge h 41 dX5_advance_10 (by decide) (fun c10 => ?_) (fun c10 => ?_)
      · rw [hn] at c10; exact absurd (nle (by omega) (by omega) c10) (by omega)
      · refine z_aload_n h dX5_advance_13 rfl rfl ?_
        refine z_getR h (by assumption) rfl kw5 0 (by decide) rfl (by assumption) kf_RX5_9 dX5_advance_14 ?_
        refine z_iload_n h dX5_advance_17 rfl rfl ?_
        refine z_iald h (by assumption) (zix_nI (by omega) (by decide)) dX5_advance_18 ?_
        refine z_bipush (v := 32) h dX5_advance_19 (by decide) ?_
        refine z_icmp_eq h 35 dX5_advance_21 (by decide) (fun c21 => ?_) (fun c21 => ?_)
        · rw [skW, if_pos (show isB (I b i) = true by simp [isB, c21])] at k
          refine z_iinc h dX5_advance_35 rfl (nI_1 i) (by decide) ?_
          refine z_goto h 5 dX5_advance_38 (by decide) ?_
          exact z_lk (ih (i + 1) (by omega) k) ⟨rfl, rfl, trivial⟩
        · refine z_aload_n h dX5_advance_24 rfl rfl ?_
          refine z_getR h (by assumption) rfl kw5 0 (by decide) rfl (by assumption) kf_RX5_9 dX5_advance_25 ?_
          refine z_iload_n h dX5_advance_28 rfl rfl ?_
          refine z_iald h (by assumption) (zix_nI (by omega) (by decide)) dX5_advance_29 ?_
          refine z_bipush (v := 10) h dX5_advance_30 (by decide) ?_
          refine z_icmp_ne h 41 dX5_advance_32 (by decide) (fun c32 => ?_) (fun c32 => ?_)
          · rw [skW, if_neg (show ¬ isB (I b i) = true by simp [isB, c21, c32])] at k
            exact k
          · rw [skW, if_pos (show isB (I b i) = true by simp [isB, c32])] at k
            refine z_iinc h dX5_advance_35 rfl (nI_1 i) (by decide) ?_
            refine z_goto h 5 dX5_advance_38 (by decide) ?_
            exact z_lk (ih (i + 1) (by omega) k) ⟨rfl, rfl, trivial⟩
  have L89 : ∀ (g w : Bool) (d i : Nat), i + d = n → zV X E S 0 0 (zu I t 2 (nI (skp (I b) n p)), J, R) 135 [(0, .ref t), (1, .int (nI (if w = true then rnW (I b) g d i else i)))] [] → zV X E S 0 0 (zu I t 2 (nI (skp (I b) n p)), J, R) 89 [(0, .ref t), (1, .int (nI i)), (2, .int (b2i g)), (3, .int (b2i w))] [] := by
    intro g w d
    have hn2 : zu I t 2 (nI (skp (I b) n p)) t 1 = nI n := (zu_k (by decide)).trans hn
    have hbt : b ≠ t := fun q => absurd (ht.2.symm.trans (q ▸ hB.2.1)) (by decide)
    have hI : ∀ j, zu I t 2 (nI (skp (I b) n p)) b j = I b j := fun j => zu_a hbt
    induction d with
    | zero =>
      intro i hi k
      refine z_iload_n h dX5_advance_89 rfl rfl ?_
      refine z_if_eq h 135 dX5_advance_90 (by decide) (fun c90 => ?_) (fun c90 => ?_)
      · rw [show (if w = true then rnW (I b) g 0 i else i) = i by unfold rnW; split <;> rfl] at k
        exact z_lk k ⟨rfl, rfl, trivial⟩
      · refine z_iload_n h dX5_advance_93 rfl rfl ?_
        refine z_aload_n h dX5_advance_94 rfl rfl ?_
        refine z_getI h (by assumption) rfl kw5 1 (by decide) rfl kf_RX5_15 dX5_advance_95 ?_
        refine z_icmp_ge h 135 dX5_advance_98 (by decide) (fun c98 => ?_) (fun c98 => ?_)
        · rw [show (if w = true then rnW (I b) g 0 i else i) = i by unfold rnW; split <;> rfl] at k
          exact z_lk k ⟨rfl, rfl, trivial⟩
        · rw [hn2] at c98; exact absurd (nI_le (by omega) (by omega)) c98
    | succ d ih =>
      intro i hi k
      refine z_iload_n h dX5_advance_89 rfl rfl ?_
      refine z_if_eq h 135 dX5_advance_90 (by decide) (fun c90 => ?_) (fun c90 => ?_)
      · rw [if_neg (show ¬ w = true by rw [b2i_0.mp c90]; decide)] at k
        exact z_lk k ⟨rfl, rfl, trivial⟩
      · refine z_iload_n h dX5_advance_93 rfl rfl ?_
        refine z_aload_n h dX5_advance_94 rfl rfl ?_
        refine z_getI h (by assumption) rfl kw5 1 (by decide) rfl kf_RX5_15 dX5_advance_95 ?_
        refine z_icmp_ge h 135 dX5_advance_98 (by decide) (fun c98 => ?_) (fun c98 => ?_)
        · rw [hn2] at c98; exact absurd (nle (by omega) (by omega) c98) (by omega)
        · refine z_aload_n h dX5_advance_101 rfl rfl ?_
          refine z_getR h (by assumption) rfl kw5 0 (by decide) rfl (by assumption) kf_RX5_9 dX5_advance_102 ?_
          refine z_iload_n h dX5_advance_105 rfl rfl ?_
          refine z_iald h (by assumption) (zix_nI (by omega) (by decide)) dX5_advance_106 ?_
          refine z_callSI h (c_X5_isLetter l _) (va_cwS 1 h.2.2.2.2.1 gm_RX5_35 rfl rfl rfl (by decide +kernel) ⟨by decide, by decide⟩) rfl rfl (Nat.le_of_ble_eq_true rfl) ⟨Nat.zero_le _, Nat.zero_le _⟩ dX5_advance_107 ?_
          refine z_if_ne h 129 dX5_advance_110 (by decide) (fun c110 => ?_) (fun c110 => ?_)
          · rw [hI] at c110
            rw [if_pos (b2i_n0.mp c90), rnW, if_pos (show (isL (I b i) || (g && isD (I b i))) = true by rw [b2i_n0.mp c110]; rfl)] at k
            refine z_iinc h dX5_advance_129 rfl (nI_1 i) (by decide) ?_
            refine z_goto h 89 dX5_advance_132 (by decide) ?_
            exact z_lk (ih (i + 1) (by omega) (by rw [if_pos (b2i_n0.mp c90)]; exact k)) ⟨rfl, rfl, rfl, rfl, trivial⟩
          · refine z_iload_n h dX5_advance_113 rfl rfl ?_
            refine z_if_eq h 135 dX5_advance_114 (by decide) (fun c114 => ?_) (fun c114 => ?_)
            · rw [hI] at c110
              rw [if_pos (b2i_n0.mp c90), rnW, if_neg (show ¬ (isL (I b i) || (g && isD (I b i))) = true by rw [b2i_0.mp (c110), b2i_0.mp c114]; simp)] at k
              exact z_lk k ⟨rfl, rfl, trivial⟩
            · refine z_aload_n h dX5_advance_117 rfl rfl ?_
              refine z_getR h (by assumption) rfl kw5 0 (by decide) rfl (by assumption) kf_RX5_9 dX5_advance_118 ?_
              refine z_iload_n h dX5_advance_121 rfl rfl ?_
              refine z_iald h (by assumption) (zix_nI (by omega) (by decide)) dX5_advance_122 ?_
              refine z_callSI h (c_X5_isDigit l _) (va_cwS 1 h.2.2.2.2.1 gm_RX5_31 rfl rfl rfl (by decide +kernel) ⟨by decide, by decide⟩) rfl rfl (Nat.le_of_ble_eq_true rfl) ⟨Nat.zero_le _, Nat.zero_le _⟩ dX5_advance_123 ?_
              refine z_if_eq h 135 dX5_advance_126 (by decide) (fun c126 => ?_) (fun c126 => ?_)
              · rw [hI] at c110 c126
                rw [if_pos (b2i_n0.mp c90), rnW, if_neg (show ¬ (isL (I b i) || (g && isD (I b i))) = true by rw [b2i_0.mp (c110), b2i_0.mp c126]; simp)] at k
                exact z_lk k ⟨rfl, rfl, trivial⟩
              · rw [hI] at c110 c126
                rw [if_pos (b2i_n0.mp c90), rnW, if_pos (show (isL (I b i) || (g && isD (I b i))) = true by rw [b2i_n0.mp c126, b2i_n0.mp c114]; simp)] at k
                refine z_iinc h dX5_advance_129 rfl (nI_1 i) (by decide) ?_
                refine z_goto h 89 dX5_advance_132 (by decide) ?_
                exact z_lk (ih (i + 1) (by omega) (by rw [if_pos (b2i_n0.mp c90)]; exact k)) ⟨rfl, rfl, rfl, rfl, trivial⟩
  have hs := skp_le (I b) hp4
  refine z_aload_n h dX5_advance_0 rfl rfl ?_
  refine z_getI h (by assumption) rfl kw5 3 (by decide) rfl kf_RX5_22 dX5_advance_1 ?_
  rw [hp]
  refine z_istore_n h dX5_advance_4 rfl (by decide) ?_
  refine z_lk (L5 (n - p) p (by omega) ?_) ⟨rfl, rfl, trivial⟩
  show zV X E S 0 0 (I, J, R) 41 [(0, .ref t), (1, .int (nI (skp (I b) n p)))] []
  have hn2 : zu I t 2 (nI (skp (I b) n p)) t 1 = nI n := (zu_k (by decide)).trans hn
  have hbt : b ≠ t := fun q => absurd (ht.2.symm.trans (q ▸ hB.2.1)) (by decide)
  have hI : ∀ j, zu I t 2 (nI (skp (I b) n p)) b j = I b j := fun j => zu_a hbt
  refine z_aload_n h dX5_advance_41 rfl rfl ?_
  refine z_iload_n h dX5_advance_42 rfl rfl ?_
  refine z_putI h (by assumption) rfl kw5 2 (by decide) rfl rfl (rfl) (rfl) kf_RX5_19 dX5_advance_43 ?_
  refine z_iload_n h dX5_advance_46 rfl rfl ?_
  refine z_aload_n h dX5_advance_47 rfl rfl ?_
  refine z_getI h (by assumption) rfl kw5 1 (by decide) rfl kf_RX5_15 dX5_advance_48 ?_
  refine z_icmp_ge h 135 dX5_advance_51 (by decide) (fun c51 => ?_) (fun c51 => ?_)
  · rw [hn2] at c51
    have e : wnd (I b) n (skp (I b) n p) = skp (I b) n p := by unfold wnd; exact if_neg (Nat.not_lt.mpr (nle (by omega) (by omega) c51))
    rw [e] at ret
    refine z_aload_n h dX5_advance_135 rfl rfl ?_
    refine z_iload_n h dX5_advance_136 rfl rfl ?_
    refine z_putI h (by assumption) rfl kw5 3 (by decide) rfl rfl rfl rfl kf_RX5_22 dX5_advance_137 ?_
    exact ret dX5_advance_140
  · rw [hn2] at c51
    have hlt := nnle (by omega) (by omega) c51
    refine z_aload_n h dX5_advance_54 rfl rfl ?_
    refine z_getR h (by assumption) rfl kw5 0 (by decide) rfl (by assumption) kf_RX5_9 dX5_advance_55 ?_
    refine z_iload_n h dX5_advance_58 rfl rfl ?_
    refine z_iald h (by assumption) (zix_nI (by omega) (by decide)) dX5_advance_59 ?_
    refine z_callSI h (c_X5_isDigit l _) (va_cwS 1 h.2.2.2.2.1 gm_RX5_31 rfl rfl rfl (by decide +kernel) ⟨by decide, by decide⟩) rfl rfl (Nat.le_of_ble_eq_true rfl) ⟨Nat.zero_le _, Nat.zero_le _⟩ dX5_advance_60 ?_
    rw [hI]
    refine z_istore_n h dX5_advance_63 rfl (by decide) ?_
    refine z_iload_n h dX5_advance_64 rfl rfl ?_
    refine z_if_ne h 80 dX5_advance_65 (by decide) (fun c65 => ?_) (fun c65 => ?_)
    · refine z_iconst (v := 1) h dX5_advance_80 (by decide) ?_
      refine z_goto h 85 dX5_advance_81 (by decide) ?_
      refine z_istore_n h dX5_advance_85 rfl (by decide) ?_
      refine z_iinc h dX5_advance_86 rfl (nI_1 _) (by decide) ?_
      refine z_lv (lv' := [(0, .ref t), (1, .int (nI (skp (I b) n p + 1))), (2, .int (b2i (isD (I b (skp (I b) n p))))), (3, .int (b2i true))]) ⟨rfl, rfl, rfl, rfl, trivial⟩ ?_
      refine L89 _ true (n - (skp (I b) n p + 1)) _ (by omega) ?_
      rw [show (if true = true then rnW (I b) (isD (I b (skp (I b) n p))) (n - (skp (I b) n p + 1)) (skp (I b) n p + 1) else skp (I b) n p + 1) = wnd (I b) n (skp (I b) n p) by unfold wnd; rw [if_pos hlt]; rw [if_pos rfl, if_pos (by rw [b2i_n0.mp c65]; rfl)]]
      refine z_aload_n h dX5_advance_135 rfl rfl ?_
      refine z_iload_n h dX5_advance_136 rfl rfl ?_
      refine z_putI h (by assumption) rfl kw5 3 (by decide) rfl rfl rfl rfl kf_RX5_22 dX5_advance_137 ?_
      exact ret dX5_advance_140
    · refine z_aload_n h dX5_advance_68 rfl rfl ?_
      refine z_getR h (by assumption) rfl kw5 0 (by decide) rfl (by assumption) kf_RX5_9 dX5_advance_69 ?_
      refine z_iload_n h dX5_advance_72 rfl rfl ?_
      refine z_iald h (by assumption) (zix_nI (by omega) (by decide)) dX5_advance_73 ?_
      refine z_callSI h (c_X5_isLetter l _) (va_cwS 1 h.2.2.2.2.1 gm_RX5_35 rfl rfl rfl (by decide +kernel) ⟨by decide, by decide⟩) rfl rfl (Nat.le_of_ble_eq_true rfl) ⟨Nat.zero_le _, Nat.zero_le _⟩ dX5_advance_74 ?_
      rw [hI]
      refine z_if_eq h 84 dX5_advance_77 (by decide) (fun c77 => ?_) (fun c77 => ?_)
      · refine z_iconst (v := 0) h dX5_advance_84 (by decide) ?_
        refine z_istore_n h dX5_advance_85 rfl (by decide) ?_
        refine z_iinc h dX5_advance_86 rfl (nI_1 _) (by decide) ?_
        refine z_lv (lv' := [(0, .ref t), (1, .int (nI (skp (I b) n p + 1))), (2, .int (b2i (isD (I b (skp (I b) n p))))), (3, .int (b2i false))]) ⟨rfl, rfl, rfl, rfl, trivial⟩ ?_
        refine L89 _ false (n - (skp (I b) n p + 1)) _ (by omega) ?_
        rw [show (if false = true then rnW (I b) (isD (I b (skp (I b) n p))) (n - (skp (I b) n p + 1)) (skp (I b) n p + 1) else skp (I b) n p + 1) = wnd (I b) n (skp (I b) n p) by unfold wnd; rw [if_pos hlt]; rw [if_neg (by decide), if_neg (by rw [b2i_0.mp c77, b2i_0.mp (c65)]; decide)]]
        refine z_aload_n h dX5_advance_135 rfl rfl ?_
        refine z_iload_n h dX5_advance_136 rfl rfl ?_
        refine z_putI h (by assumption) rfl kw5 3 (by decide) rfl rfl rfl rfl kf_RX5_22 dX5_advance_137 ?_
        exact ret dX5_advance_140
      · refine z_iconst (v := 1) h dX5_advance_80 (by decide) ?_
        refine z_goto h 85 dX5_advance_81 (by decide) ?_
        refine z_istore_n h dX5_advance_85 rfl (by decide) ?_
        refine z_iinc h dX5_advance_86 rfl (nI_1 _) (by decide) ?_
        refine z_lv (lv' := [(0, .ref t), (1, .int (nI (skp (I b) n p + 1))), (2, .int (b2i (isD (I b (skp (I b) n p))))), (3, .int (b2i true))]) ⟨rfl, rfl, rfl, rfl, trivial⟩ ?_
        refine L89 _ true (n - (skp (I b) n p + 1)) _ (by omega) ?_
        rw [show (if true = true then rnW (I b) (isD (I b (skp (I b) n p))) (n - (skp (I b) n p + 1)) (skp (I b) n p + 1) else skp (I b) n p + 1) = wnd (I b) n (skp (I b) n p) by unfold wnd; rw [if_pos hlt]; rw [if_pos rfl, if_pos (by rw [b2i_n0.mp c77]; simp)]]
        refine z_aload_n h dX5_advance_135 rfl rfl ?_
        refine z_iload_n h dX5_advance_136 rfl rfl ?_
        refine z_putI h (by assumption) rfl kw5 3 (by decide) rfl rfl rfl rfl kf_RX5_22 dX5_advance_137 ?_
        exact ret dX5_advance_140
end
section
set_option maxHeartbeats 4000000 in
set_option maxRecDepth 100000 in
theorem c_X5_filledBytes (l : Launch) {E : zE} {S : zS} {μ : zM} (v : Int32) : zI l yX5_filledBytes wsX5_filledBytes rmX5_filledBytes E S [.int v] μ (fbC v) μ := by
  refine z_metI (cc := cX5_filledBytes) (maxL := 3) (ty := .int) (by decide) rfl (Nat.le_of_ble_eq_true rfl) (fun X h ret => ?_)
  show zV X E S 0 0 μ 0 _ []
  have IT : ∀ (sh c : Int32), zV X E S 0 0 μ 22 [(0, .int v), (1, .int (c + nz (byt v sh))), (2, .int sh)] [] → zV X E S 0 0 μ 9 [(0, .int v), (1, .int c), (2, .int sh)] [] := by
    intro sh c k
    refine z_iload_n h dX5_filledBytes_9 rfl rfl ?_
    refine z_iload_n h dX5_filledBytes_10 rfl rfl ?_
    refine z_iushr h dX5_filledBytes_11 rfl ?_
    refine z_sipush (v := 255) h dX5_filledBytes_12 (by decide) ?_
    refine z_iand h dX5_filledBytes_15 ?_
    rw [show (v.toUInt32 >>> (sh.toUInt32 &&& Int32.toUInt32 31)).toInt32 &&& 255 = byt v sh from rfl]
    refine z_if_eq h 22 dX5_filledBytes_16 (by decide) (fun c16 => ?_) (fun c16 => ?_)
    · rw [show c + nz (byt v sh) = c by rw [nz, if_pos c16]; exact Int32.add_zero c] at k
      exact z_lk k ⟨rfl, rfl, rfl, trivial⟩
    · rw [show nz (byt v sh) = 1 from if_neg c16] at k
      refine z_iinc h dX5_filledBytes_19 rfl rfl (by decide) ?_
      exact z_lk k ⟨rfl, rfl, rfl, trivial⟩
  have ST : ∀ (sh sh' c : Int32), sh + Int32.ofInt (-8) = sh' → ¬ sh' < 0 → zV X E S 0 0 μ 9 [(0, .int v), (1, .int c), (2, .int sh')] [] → zV X E S 0 0 μ 22 [(0, .int v), (1, .int c), (2, .int sh)] [] := by
    intro sh sh' c e hs k
    refine z_iinc h dX5_filledBytes_22 rfl e (by decide) ?_
    refine z_goto h 5 dX5_filledBytes_25 (by decide) ?_
    refine z_iload_n h dX5_filledBytes_5 rfl rfl ?_
    refine z_if_lt h 28 dX5_filledBytes_6 (by decide) (fun q => absurd q hs) (fun _ => ?_)
    exact z_lk k ⟨rfl, rfl, rfl, trivial⟩
  refine z_iconst (v := 0) h dX5_filledBytes_0 (by decide) ?_
  refine z_istore_n h dX5_filledBytes_1 rfl (by decide) ?_
  refine z_bipush (v := 24) h dX5_filledBytes_2 (by decide) ?_
  refine z_istore_n h dX5_filledBytes_4 rfl (by decide) ?_
  refine z_iload_n h dX5_filledBytes_5 rfl rfl ?_
  refine z_if_lt h 28 dX5_filledBytes_6 (by decide) (fun q => absurd q (by decide)) (fun _ => ?_)
  refine z_lk (IT 24 0 ?_) ⟨rfl, rfl, rfl, trivial⟩
  refine ST 24 16 _ (by decide) (by decide) (IT 16 _ ?_)
  refine ST 16 8 _ (by decide) (by decide) (IT 8 _ ?_)
  refine ST 8 0 _ (by decide) (by decide) (IT 0 _ ?_)
  refine z_iinc h dX5_filledBytes_22 rfl (show (0 : Int32) + Int32.ofInt (-8) = -8 by decide) (by decide) ?_
  refine z_goto h 5 dX5_filledBytes_25 (by decide) ?_
  refine z_iload_n h dX5_filledBytes_5 rfl rfl ?_
  refine z_if_lt h 28 dX5_filledBytes_6 (by decide) (fun _ => ?_) (fun q => absurd (by decide) q)
  refine z_iload_n h dX5_filledBytes_28 rfl rfl ?_
  exact ret dX5_filledBytes_29 rfl

theorem zmA {I : Nat → Nat → Int32} {t b k n : Nat} {g : Nat → Int32} {u x w : Int32} (h : b ≠ t) : zu (zu (zu (zr I b g) t k u) b n x) t k w = zu (zr I b (fun j => if j = n then x else g j)) t k w := by
  funext c i
  by_cases q : c = t <;> by_cases p : c = b
  · exact absurd (p.symm.trans q) h
  · subst q
    by_cases r : i = k <;> simp [zu, zr, r, p]
  · subst p
    by_cases r : i = n <;> simp [zu, zr, r, q]
  · simp [zu, zr, q, p]
theorem zmB {I : Nat → Nat → Int32} {t b k : Nat} {v : Int32} (h : I t k = v) : zu (zr I b (I b)) t k v = I := by
  rw [zr_id, ← h, zu_self]

set_option maxHeartbeats 4000000 in
set_option maxRecDepth 100000 in
theorem c_X5_append (l : Launch) {E : zE} {S : zS} {I : Nat → Nat → Int32} {J : Nat → Nat → Int64} {R : Nat → Nat → Option Nat} {t b n : Nat} {v : Int32} (ht : zO S t 5) (hb : R t 0 = some b) (hB : zA S b 9 400) (hn : I t 1 = nI n) (h4 : n ≤ 400) : zN l yX5_append wsX5_append rmX5_append E S [.ref t, .int v] (I, J, R) (zu (zr I b (apB v (I b, n)).1) t 1 (nI (apB v (I b, n)).2), J, R) := by
  refine z_metN (cc := cX5_append) (maxL := 4) (by decide) rfl (Nat.le_of_ble_eq_true rfl) (fun X h ret => ?_)
  show zV X E S 0 0 (I, J, R) 0 _ []
  have hbt : b ≠ t := fun q => absurd (ht.2.symm.trans (q ▸ hB.2.1)) (by decide)
  have IT : ∀ (sh : Int32) (s : (Nat → Int32) × Nat), s.2 ≤ 400 → zV X E S 0 0 (zu (zr I b (ap1 s (byt v sh)).1) t 1 (nI (ap1 s (byt v sh)).2), J, R) 49 [(0, .ref t), (1, .int v), (2, .int sh)] [] → zV X E S 0 0 (zu (zr I b s.1) t 1 (nI s.2), J, R) 7 [(0, .ref t), (1, .int v), (2, .int sh)] [] := by
    intro sh s h4 k
    have e1 : zu (zr I b s.1) t 1 (nI s.2) t 1 = nI s.2 := zu_s
    refine z_iload_n h dX5_append_7 rfl rfl ?_
    refine z_iload_n h dX5_append_8 rfl rfl ?_
    refine z_iushr h dX5_append_9 rfl ?_
    refine z_sipush (v := 255) h dX5_append_10 (by decide) ?_
    refine z_iand h dX5_append_13 ?_
    rw [show (v.toUInt32 >>> (sh.toUInt32 &&& Int32.toUInt32 31)).toInt32 &&& 255 = byt v sh from rfl]
    refine z_istore_n h dX5_append_14 rfl (by decide) ?_
    refine z_iload_n h dX5_append_15 rfl rfl ?_
    refine z_if_eq h 49 dX5_append_16 (by decide) (fun c16 => ?_) (fun c16 => ?_)
    · rw [show ap1 s (byt v sh) = s from if_pos c16] at k
      exact z_lk k ⟨rfl, rfl, rfl, trivial⟩
    · refine z_aload_n h dX5_append_19 rfl rfl ?_
      refine z_getI h (by assumption) rfl kw5 1 (by decide) rfl kf_RX5_15 dX5_append_20 ?_
      rw [e1]
      refine z_sipush (v := 400) h dX5_append_23 (by decide) ?_
      refine z_icmp_ge h 49 dX5_append_26 (by decide) (fun c26 => ?_) (fun c26 => ?_)
      · have c26 := nle (a := 400) (by decide) (by omega) c26
        rw [show ap1 s (byt v sh) = s by unfold ap1; rw [if_neg c16, if_pos c26]] at k
        exact z_lk k ⟨rfl, rfl, rfl, trivial⟩
      · have c26 := nnle (a := 400) (by decide) (by omega) c26
        rw [show ap1 s (byt v sh) = (fun j => if j = s.2 then byt v sh else s.1 j, s.2 + 1) by unfold ap1; rw [if_neg c16, if_neg (by omega)]] at k
        refine z_aload_n h dX5_append_29 rfl rfl ?_
        refine z_getR h (by assumption) rfl kw5 0 (by decide) rfl (by assumption) kf_RX5_9 dX5_append_30 ?_
        refine z_aload_n h dX5_append_33 rfl rfl ?_
        refine z_getI h (by assumption) rfl kw5 1 (by decide) rfl kf_RX5_15 dX5_append_34 ?_
        rw [e1]
        refine z_iload_n h dX5_append_37 rfl rfl ?_
        refine z_iast h (by assumption) (zix_nI c26 (by decide)) dX5_append_38 ?_
        refine z_aload_n h dX5_append_39 rfl rfl ?_
        refine z_dup h dX5_append_40 rfl ?_
        refine z_getI h (by assumption) rfl kw5 1 (by decide) rfl kf_RX5_15 dX5_append_41 ?_
        rw [show zu (zu (zr I b s.1) t 1 (nI s.2)) b s.2 (byt v sh) t 1 = nI s.2 from (zu_a (Ne.symm hbt)).trans e1]
        refine z_iconst (v := 1) h dX5_append_44 (by decide) ?_
        refine z_iadd h dX5_append_45 ?_
        rw [nI_1]
        refine z_putI h (by assumption) rfl kw5 1 (by decide) rfl rfl (rfl) (rfl) kf_RX5_15 dX5_append_46 ?_
        refine z_mem (show _ = (zu (zr I b (fun j => if j = s.2 then byt v sh else s.1 j)) t 1 (nI (s.2 + 1)), J, R) from ?_) (z_lk k ⟨rfl, rfl, rfl, trivial⟩)
        rw [zmA hbt]
  have ST : ∀ (sh sh' : Int32) (μ : zM), sh + Int32.ofInt (-8) = sh' → ¬ sh' < 0 → zV X E S 0 0 μ 7 [(0, .ref t), (1, .int v), (2, .int sh')] [] → zV X E S 0 0 μ 49 [(0, .ref t), (1, .int v), (2, .int sh)] [] := by
    intro sh sh' μ e hs k
    refine z_iinc h dX5_append_49 rfl e (by decide) ?_
    refine z_goto h 3 dX5_append_52 (by decide) ?_
    refine z_iload_n h dX5_append_3 rfl rfl ?_
    refine z_if_lt h 55 dX5_append_4 (by decide) (fun q => absurd q hs) (fun _ => ?_)
    exact z_lk k ⟨rfl, rfl, rfl, trivial⟩
  have h1 := ap1_le (s := (I b, n)) (x := byt v 24) h4
  have h2 := ap1_le (x := byt v 16) h1.1
  have h3 := ap1_le (x := byt v 8) h2.1
  refine z_bipush (v := 24) h dX5_append_0 (by decide) ?_
  refine z_istore_n h dX5_append_2 rfl (by decide) ?_
  refine z_iload_n h dX5_append_3 rfl rfl ?_
  refine z_if_lt h 55 dX5_append_4 (by decide) (fun q => absurd q (by decide)) (fun _ => ?_)
  refine z_mem (show (I, J, R) = (zu (zr I b (I b)) t 1 (nI n), J, R) by rw [zmB hn]) ?_
  refine z_lk (IT 24 (I b, n) h4 ?_) ⟨rfl, rfl, rfl, trivial⟩
  refine ST 24 16 _ (by decide) (by decide) (IT 16 _ h1.1 ?_)
  refine ST 16 8 _ (by decide) (by decide) (IT 8 _ h2.1 ?_)
  refine ST 8 0 _ (by decide) (by decide) (IT 0 _ h3.1 ?_)
  refine z_iinc h dX5_append_49 rfl (show (0 : Int32) + Int32.ofInt (-8) = -8 by decide) (by decide) ?_
  refine z_goto h 3 dX5_append_52 (by decide) ?_
  refine z_iload_n h dX5_append_3 rfl rfl ?_
  refine z_if_lt h 55 dX5_append_4 (by decide) (fun _ => ?_) (fun q => absurd (by decide) q)
  exact ret dX5_append_55

theorem TP.adv {S : zS} {R : Nat → Nat → Option Nat} {I : Nat → Nat → Int32} {t b n f e : Nat} (h : TP S R I t b n f e) : TP S R (zu (zu I t 2 (nI (skp (I b) n e))) t 3 (nI (wnd (I b) n (skp (I b) n e)))) t b n (skp (I b) n e) (wnd (I b) n (skp (I b) n e)) ∧ fr [t] I (zu (zu I t 2 (nI (skp (I b) n e))) t 3 (nI (wnd (I b) n (skp (I b) n e)))) := by
  obtain ⟨h1, h2, h3, h4, h5, h6, h7, h8, h9⟩ := h
  have hs := skp_le (I b) h9
  have hw := wnd_le (I b) hs.2
  refine ⟨⟨h1, h2, h3, ?_, ?_, zu_s, h7, hw.1, hw.2.1⟩, fr_zu (fr_zu fr_rf (by simp)) (by simp)⟩
  · rw [zu_k (by decide), zu_k (by decide)]; exact h4
  · rw [zu_k (by decide)]; exact zu_s
theorem TP.row {S : zS} {R : Nat → Nat → Option Nat} {I I' : Nat → Nat → Int32} {t b n f e : Nat} (h : TP S R I t b n f e) (g : fr [t] I I') : I' b = I b := g b (by simpa using h.ne)
/-- where the tape stands behind a method: the same bytes, the next word -/
def tpN (S : zS) (J : Nat → Nat → Int64) (R : Nat → Nat → Option Nat) (I : Nat → Nat → Int32) (t b n f e : Nat) (ν : zM) : Prop := ∃ I', ν = (I', J, R) ∧ TP S R I' t b n f e ∧ fr [t] I I'

set_option maxHeartbeats 4000000 in
set_option maxRecDepth 100000 in
theorem c_X5_rewind (l : Launch) {E : zE} {S : zS} {I : Nat → Nat → Int32} {J : Nat → Nat → Int64} {R : Nat → Nat → Option Nat} {t b n f e : Nat} (hT : TP S R I t b n f e) : zNP l yX5_rewind wsX5_rewind rmX5_rewind E S [.ref t] (I, J, R) (tpN S J R I t b n (skp (I b) n 0) (wnd (I b) n (skp (I b) n 0))) := by
  refine z_metNP (cc := cX5_rewind) (maxL := 1) (by decide) rfl (Nat.le_of_ble_eq_true rfl) (fun X h ret => ?_)
  show zV X E S 0 0 (I, J, R) 0 _ []
  obtain ⟨h1, h2, h3, h4, h5, h6, h7, h8, h9⟩ := id hT
  have hbt := hT.ne
  have hI : zu I t 3 (0 : Int32) b = I b := zu_o hbt
  refine z_aload_n h dX5_rewind_0 rfl rfl ?_
  refine z_iconst (v := 0) h dX5_rewind_1 (by decide) ?_
  refine z_putI h (by assumption) rfl kw5 3 (by decide) rfl rfl (rfl) (rfl) kf_RX5_22 dX5_rewind_2 ?_
  refine z_aload_n h dX5_rewind_5 rfl rfl ?_
  refine z_callVN h (c_X5_advance l (n := n) (p := 0) (b := b) h1 h2 h3 ((zu_k (by decide)).trans h4) h7 zu_s (Nat.zero_le _)) (by assumption) rfl gm_RX5_28 rfl ⟨rfl, rfl⟩ 0 (by decide +kernel) ⟨by decide, by decide⟩ rfl rfl (Nat.le_of_ble_eq_true rfl) ⟨Nat.zero_le _, Nat.zero_le _⟩ dX5_rewind_6 ?_
  rw [hI]
  have hs := skp_le (I b) (Nat.zero_le n)
  have hw := wnd_le (I b) hs.2
  refine ret ⟨_, rfl, ⟨h1, h2, h3, ?_, ?_, zu_s, h7, hw.1, hw.2.1⟩, fr_zu (fr_zu (fr_zu fr_rf (by simp)) (by simp)) (by simp)⟩ dX5_rewind_9
  · rw [zu_k (by decide), zu_k (by decide), zu_k (by decide)]; exact h4
  · rw [zu_k (by decide)]; exact zu_s

set_option maxHeartbeats 4000000 in
set_option maxRecDepth 100000 in
theorem c_X5_rewind2 (l : Launch) {E : zE} {S : zS} {I : Nat → Nat → Int32} {J : Nat → Nat → Int64} {R : Nat → Nat → Option Nat} {t b n : Nat} (h1 : zO S t 5) (h2 : R t 0 = some b) (h3 : zA S b 9 400) (h4 : I t 1 = nI n) (h7 : n ≤ 400) : zNP l yX5_rewind wsX5_rewind rmX5_rewind E S [.ref t] (I, J, R) (tpN S J R I t b n (skp (I b) n 0) (wnd (I b) n (skp (I b) n 0))) := by
  refine z_metNP (cc := cX5_rewind) (maxL := 1) (by decide) rfl (Nat.le_of_ble_eq_true rfl) (fun X h ret => ?_)
  show zV X E S 0 0 (I, J, R) 0 _ []
  have hbt : b ≠ t := fun q => absurd (h1.2.symm.trans (q ▸ h3.2.1)) (by decide)
  have hI : zu I t 3 (0 : Int32) b = I b := zu_o hbt
  refine z_aload_n h dX5_rewind_0 rfl rfl ?_
  refine z_iconst (v := 0) h dX5_rewind_1 (by decide) ?_
  refine z_putI h (by assumption) rfl kw5 3 (by decide) rfl rfl (rfl) (rfl) kf_RX5_22 dX5_rewind_2 ?_
  refine z_aload_n h dX5_rewind_5 rfl rfl ?_
  refine z_callVN h (c_X5_advance l (n := n) (p := 0) (b := b) h1 h2 h3 ((zu_k (by decide)).trans h4) h7 zu_s (Nat.zero_le _)) (by assumption) rfl gm_RX5_28 rfl ⟨rfl, rfl⟩ 0 (by decide +kernel) ⟨by decide, by decide⟩ rfl rfl (Nat.le_of_ble_eq_true rfl) ⟨Nat.zero_le _, Nat.zero_le _⟩ dX5_rewind_6 ?_
  rw [hI]
  have hs := skp_le (I b) (Nat.zero_le n)
  have hw := wnd_le (I b) hs.2
  refine ret ⟨_, rfl, ⟨h1, h2, h3, ?_, ?_, zu_s, h7, hw.1, hw.2.1⟩, fr_zu (fr_zu (fr_zu fr_rf (by simp)) (by simp)) (by simp)⟩ dX5_rewind_9
  · rw [zu_k (by decide), zu_k (by decide), zu_k (by decide)]; exact h4
  · rw [zu_k (by decide)]; exact zu_s

set_option maxHeartbeats 4000000 in
set_option maxRecDepth 100000 in
theorem c_X5_cut (l : Launch) {E : zE} {S : zS} {I : Nat → Nat → Int32} {J : Nat → Nat → Int64} {R : Nat → Nat → Option Nat} {t b n f e : Nat} {x : Int32} (hT : TP S R I t b n f e) : zIP l yX5_cut wsX5_cut rmX5_cut E S [.ref t, .int x] (I, J, R) (fun r ν => (r = 0 ∧ (x < 0 ∨ ¬ x ≤ nI n) ∧ ν = (I, J, R)) ∨ (r = 1 ∧ ∃ q : Nat, x = nI q ∧ q ≤ n ∧ tpN S J R I t b q (skp (I b) q 0) (wnd (I b) q (skp (I b) q 0)) ν)) := by
  refine z_metIP (cc := cX5_cut) (maxL := 2) (ty := .boolean) (by decide) rfl (Nat.le_of_ble_eq_true rfl) (fun X h ret => ?_)
  show zV X E S 0 0 (I, J, R) 0 _ []
  obtain ⟨h1, h2, h3, h4, h5, h6, h7, h8, h9⟩ := id hT
  have hbt := hT.ne
  refine z_iload_n h dX5_cut_0 rfl rfl ?_
  refine z_if_lt h 12 dX5_cut_1 (by decide) (fun c1 => ?_) (fun c1 => ?_)
  · refine z_iconst (v := 0) h dX5_cut_12 (by decide) ?_
    exact ret (Or.inl ⟨rfl, Or.inl c1, rfl⟩) dX5_cut_13 rfl
  · refine z_iload_n h dX5_cut_4 rfl rfl ?_
    refine z_aload_n h dX5_cut_5 rfl rfl ?_
    refine z_getI h (by assumption) rfl kw5 1 (by decide) rfl kf_RX5_15 dX5_cut_6 ?_
    rw [h4]
    refine z_icmp_le h 14 dX5_cut_9 (by decide) (fun c9 => ?_) (fun c9 => ?_)
    · obtain ⟨q, hq, e⟩ := nI_of c1
      subst e
      have hq2 := nle hq (by omega) c9
      have hT2 : TP S R (zu (zu I t 1 (nI q)) t 3 0) t b q 0 0 → True := fun _ => trivial
      refine z_aload_n h dX5_cut_14 rfl rfl ?_
      refine z_iload_n h dX5_cut_15 rfl rfl ?_
      refine z_putI h (by assumption) rfl kw5 1 (by decide) rfl rfl (rfl) (rfl) kf_RX5_15 dX5_cut_16 ?_
      refine z_aload_n h dX5_cut_19 rfl rfl ?_
      refine z_callVNP h (c_X5_rewind2 l (n := q) (b := b) h1 h2 h3 zu_s (by omega)) (by assumption) rfl gm_RX5_25 rfl ⟨rfl, rfl⟩ 0 (by decide +kernel) ⟨by decide, by decide⟩ rfl rfl (Nat.le_of_ble_eq_true rfl) ⟨Nat.zero_le _, Nat.zero_le _⟩ dX5_cut_20 (fun ν hν => ?_)
      obtain ⟨I2, rfl, hT3, hf⟩ := hν
      refine z_iconst (v := 1) h dX5_cut_23 (by decide) ?_
      rw [zu_o hbt] at hT3
      exact ret (Or.inr ⟨rfl, q, rfl, hq2, I2, rfl, hT3, fun a ha => (hf a ha).trans (zu_o (by simpa using ha))⟩) dX5_cut_24 rfl
    · refine z_iconst (v := 0) h dX5_cut_12 (by decide) ?_
      exact ret (Or.inl ⟨rfl, Or.inr c9, rfl⟩) dX5_cut_13 rfl
end
section
set_option maxHeartbeats 4000000 in
set_option maxRecDepth 100000 in
theorem c_X5_find (l : Launch) {E : zE} {S : zS} {I : Nat → Nat → Int32} {J : Nat → Nat → Int64} {R : Nat → Nat → Option Nat} {t b n f e i en k : Nat} (hT : TP S R I t b n f e) (hi : i < zlN) (hk : k < 400) (hen4 : en < 400) (hen : en * k ≤ (zsb i).length) : zI l yX5_find wsX5_find rmX5_find E S [.ref t, .ref (E.2.2.1 i), .int (nI en), .int (nI k)] (I, J, R) (fnd (I b) f e (zsb i) en k) (I, J, R) := by
  refine z_metI (cc := cX5_find) (maxL := 6) (ty := .int) (by decide) rfl (Nat.le_of_ble_eq_true rfl) (fun X h ret => ?_)
  show zV X E S 0 0 (I, J, R) 0 _ []
  obtain ⟨h1, h2, h3, h4, h5, h6, h7, h8, h9⟩ := id hT
  have hL := (zsb_ok i hi).1
  have hk4 : k < 2 ^ 31 := by omega
  have hen4 : en < 2 ^ 31 := by omega
  have L48 : ∀ (a : Nat), a < en → e - f = k → ∀ (d j : Nat), j + d = k → zV X E S 0 0 (I, J, R) 86 [(0, .ref t), (1, .ref (E.2.2.1 i)), (2, .int (nI en)), (3, .int (nI k)), (4, .int (nI a)), (5, .int (nI (mtc (I b) f (zsb i) (a * k) d j)))] [] → zV X E S 0 0 (I, J, R) 48 [(0, .ref t), (1, .ref (E.2.2.1 i)), (2, .int (nI en)), (3, .int (nI k)), (4, .int (nI a)), (5, .int (nI j))] [] := by
    intro a ha hef d
    have hak : a * k + k ≤ en * k := by
      have := Nat.mul_le_mul_right k (show a + 1 ≤ en by omega)
      rw [Nat.succ_mul] at this
      exact this
    induction d with
    | zero =>
      intro j hj kk
      refine z_iload h dX5_find_48 rfl ?_
      refine z_iload_n h dX5_find_50 rfl rfl ?_
      refine z_icmp_ge h 86 dX5_find_51 (by decide) (fun c51 => ?_) (fun c51 => ?_)
      · exact kk
      · exact absurd (nI_le (by omega) (by omega)) c51
    | succ d ih =>
      intro j hj kk
      refine z_iload h dX5_find_48 rfl ?_
      refine z_iload_n h dX5_find_50 rfl rfl ?_
      refine z_icmp_ge h 86 dX5_find_51 (by decide) (fun c51 => ?_) (fun c51 => ?_)
      · exact absurd (nle (by omega) (by omega) c51) (by omega)
      · refine z_aload_n h dX5_find_54 rfl rfl ?_
        refine z_getR h (by assumption) rfl kw5 0 (by decide) rfl (by assumption) kf_RX5_9 dX5_find_55 ?_
        refine z_aload_n h dX5_find_58 rfl rfl ?_
        refine z_getI h (by assumption) rfl kw5 2 (by decide) rfl kf_RX5_19 dX5_find_59 ?_
        rw [h5]
        refine z_iload h dX5_find_62 rfl ?_
        refine z_iadd h dX5_find_64 ?_
        rw [nI_add]
        refine z_iald h (by assumption) (zix_nI (j := f + j) (by omega) (by decide)) dX5_find_65 ?_
        refine z_aload_n h dX5_find_66 rfl rfl ?_
        refine z_iload h dX5_find_67 rfl ?_
        refine z_iload_n h dX5_find_69 rfl rfl ?_
        refine z_imul h dX5_find_70 ?_
        refine z_iload h dX5_find_71 rfl ?_
        refine z_iadd h dX5_find_73 ?_
        rw [pk_mul, nI_add]
        refine z_callTI h hi (c_J0_charAt l hi (j := a * k + j) (by omega)) gm_RX5_51 rfl ⟨rfl, rfl⟩ 1 (by decide +kernel) ⟨by decide, by decide⟩ rfl rfl (Nat.le_of_ble_eq_true rfl) ⟨Nat.zero_le _, Nat.zero_le _⟩ dX5_find_74 ?_
        refine z_icmp_ne h 86 dX5_find_77 (by decide) (fun c77 => ?_) (fun c77 => ?_)
        · rw [mtc, if_neg c77] at kk
          exact kk
        · rw [mtc, if_pos c77] at kk
          refine z_iinc h dX5_find_80 rfl (nI_1 j) (by decide) ?_
          refine z_goto h 48 dX5_find_83 (by decide) ?_
          exact z_lk (ih (j + 1) (by omega) kk) ⟨rfl, rfl, rfl, rfl, rfl, rfl, trivial⟩
  have L39 : e - f = k → ∀ (d a : Nat), a + d = en → (∀ {pc : Nat} {lv : List (Nat × Value)}, decode cX5_find pc = .ok (.ireturn, 1) → zV X E S 0 0 (I, J, R) pc lv [.int (fndW (I b) f (zsb i) k d a)]) → zV X E S 0 0 (I, J, R) 39 [(0, .ref t), (1, .ref (E.2.2.1 i)), (2, .int (nI en)), (3, .int (nI k)), (4, .int (nI a))] [] := by
    intro hef d
    induction d with
    | zero =>
      intro a ha kk
      refine z_iload h dX5_find_39 rfl ?_
      refine z_iload_n h dX5_find_41 rfl rfl ?_
      refine z_icmp_ge h 101 dX5_find_42 (by decide) (fun c42 => ?_) (fun c42 => ?_)
      · refine z_iconst (v := -1) h dX5_find_101 (by decide) ?_
        exact kk dX5_find_102
      · exact absurd (nI_le (by omega) (by omega)) c42
    | succ d ih =>
      intro a ha kk
      refine z_iload h dX5_find_39 rfl ?_
      refine z_iload_n h dX5_find_41 rfl rfl ?_
      refine z_icmp_ge h 101 dX5_find_42 (by decide) (fun c42 => ?_) (fun c42 => ?_)
      · exact absurd (nle (by omega) (by omega) c42) (by omega)
      · refine z_iconst (v := 0) h dX5_find_45 (by decide) ?_
        refine z_istore h dX5_find_46 (by decide) ?_
        have hm := mtc_le (I b) f (zsb i) (a * k) k 0
        refine z_lk (L48 a (by omega) hef k 0 (by omega) ?_) ⟨rfl, rfl, rfl, rfl, rfl, rfl, trivial⟩
        refine z_iload h dX5_find_86 rfl ?_
        refine z_iload_n h dX5_find_88 rfl rfl ?_
        refine z_icmp_ne h 95 dX5_find_89 (by decide) (fun c89 => ?_) (fun c89 => ?_)
        · rw [fndW, if_neg (fun q => c89 (by rw [q]))] at kk
          refine z_iinc h dX5_find_95 rfl (nI_1 a) (by decide) ?_
          refine z_goto h 39 dX5_find_98 (by decide) ?_
          exact z_lk (ih (a + 1) (by omega) kk) ⟨rfl, rfl, rfl, rfl, rfl, trivial⟩
        · rw [fndW, if_pos ((nI_eq (by omega) hk4).mp c89)] at kk
          refine z_iload h dX5_find_92 rfl ?_
          exact kk dX5_find_94
  refine z_aload_n h dX5_find_0 rfl rfl ?_
  refine z_getI h (by assumption) rfl kw5 3 (by decide) rfl kf_RX5_22 dX5_find_1 ?_
  refine z_aload_n h dX5_find_4 rfl rfl ?_
  refine z_getI h (by assumption) rfl kw5 2 (by decide) rfl kf_RX5_19 dX5_find_5 ?_
  rw [h6, h5]
  refine z_isub h dX5_find_8 ?_
  rw [pk_sub h8]
  refine z_iload_n h dX5_find_9 rfl rfl ?_
  refine z_icmp_ne h 34 dX5_find_10 (by decide) (fun c10 => ?_) (fun c10 => ?_)
  · rw [show fnd (I b) f e (zsb i) en k = -1 from if_neg (fun q => c10 (by rw [q]))] at ret
    refine z_iconst (v := -1) h dX5_find_34 (by decide) ?_
    exact ret dX5_find_35 rfl
  · refine z_aload_n h dX5_find_13 rfl rfl ?_
    refine z_getI h (by assumption) rfl kw5 3 (by decide) rfl kf_RX5_22 dX5_find_14 ?_
    refine z_aload_n h dX5_find_17 rfl rfl ?_
    refine z_getI h (by assumption) rfl kw5 1 (by decide) rfl kf_RX5_15 dX5_find_18 ?_
    rw [h6, h4]
    refine z_icmp_gt h 34 dX5_find_21 (by decide) (fun c21 => ?_) (fun c21 => ?_)
    · exact absurd (nlt (by omega) (by omega) c21) (by omega)
    · refine z_iload_n h dX5_find_24 rfl rfl ?_
      refine z_iload_n h dX5_find_25 rfl rfl ?_
      refine z_imul h dX5_find_26 ?_
      refine z_aload_n h dX5_find_27 rfl rfl ?_
      have hef := (nI_eq (by omega) hk4).mp c10
      refine z_callTI h hi (c_J0_length l hi) gm_RX5_38 rfl ⟨rfl, rfl⟩ 0 (by decide +kernel) ⟨by decide, by decide⟩ rfl rfl (Nat.le_of_ble_eq_true rfl) ⟨Nat.zero_le _, Nat.zero_le _⟩ dX5_find_28 ?_
      rw [pk_mul]
      refine z_icmp_le h 36 dX5_find_31 (by decide) (fun c31 => ?_) (fun c31 => absurd (nI_le hen (by omega)) c31)
      refine z_iconst (v := 0) h dX5_find_36 (by decide) ?_
      refine z_istore h dX5_find_37 (by decide) ?_
      rw [show fnd (I b) f e (zsb i) en k = fndW (I b) f (zsb i) k en 0 from if_pos hef] at ret
      exact z_lk (L39 hef en 0 (by omega) (fun hd => ret hd rfl)) ⟨rfl, rfl, rfl, rfl, rfl, trivial⟩

theorem fnd_1 {g : Nat → Int32} {f e : Nat} {s : List Int32} : fnd g f e s 1 s.length = if mW g f e s = true then 0 else -1 := by
  unfold fnd mW
  by_cases h : e - f = s.length
  · rw [if_pos h]
    unfold fndW
    rw [Nat.zero_mul]
    by_cases q : mtc g f s 0 s.length 0 = s.length
    · rw [if_pos q]; simp [h, q]; rfl
    · rw [if_neg q]; simp [q, fndW]
  · rw [if_neg h]; simp [h]
theorem fndW_or (g : Nat → Int32) (f : Nat) (s : List Int32) (k : Nat) : ∀ d i, fndW g f s k d i = -1 ∨ ∃ j, i ≤ j ∧ j < i + d ∧ fndW g f s k d i = nI j
  | 0, i => Or.inl rfl
  | d + 1, i => by
    unfold fndW
    split
    · exact Or.inr ⟨i, by omega, by omega, rfl⟩
    · rcases fndW_or g f s k d (i + 1) with h | ⟨j, h1, h2, h3⟩
      · exact Or.inl h
      · exact Or.inr ⟨j, by omega, by omega, h3⟩
theorem fnd_or (g : Nat → Int32) (f e : Nat) (s : List Int32) (en k : Nat) : fnd g f e s en k = -1 ∨ ∃ j, j < en ∧ fnd g f e s en k = nI j := by
  unfold fnd
  split
  · rcases fndW_or g f s k en 0 with h | ⟨j, h1, h2, h3⟩
    · exact Or.inl h
    · exact Or.inr ⟨j, by omega, h3⟩
  · exact Or.inl rfl
/-- the places of the next word -/
def nxF (g : Nat → Int32) (n e : Nat) : Nat := skp g n e
def nxE (g : Nat → Int32) (n e : Nat) : Nat := wnd g n (skp g n e)

set_option maxHeartbeats 4000000 in
set_option maxRecDepth 100000 in
theorem c_X5_take (l : Launch) {E : zE} {S : zS} {I : Nat → Nat → Int32} {J : Nat → Nat → Int64} {R : Nat → Nat → Option Nat} {t b n f e i : Nat} (hT : TP S R I t b n f e) (hi : i < zlN) : zIP l yX5_take wsX5_take rmX5_take E S [.ref t, .ref (E.2.2.1 i)] (I, J, R) (fun r ν => r = b2i (mW (I b) f e (zsb i)) ∧ tpN S J R I t b n (if mW (I b) f e (zsb i) = true then nxF (I b) n e else f) (if mW (I b) f e (zsb i) = true then nxE (I b) n e else e) ν) := by
  refine z_metIP (cc := cX5_take) (maxL := 2) (ty := .boolean) (by decide) rfl (Nat.le_of_ble_eq_true rfl) (fun X h ret => ?_)
  show zV X E S 0 0 (I, J, R) 0 _ []
  obtain ⟨h1, h2, h3, h4, h5, h6, h7, h8, h9⟩ := id hT
  refine z_aload_n h dX5_take_0 rfl rfl ?_
  refine z_aload_n h dX5_take_1 rfl rfl ?_
  refine z_iconst (v := 1) h dX5_take_2 (by decide) ?_
  refine z_aload_n h dX5_take_3 rfl rfl ?_
  refine z_callTI h hi (c_J0_length l hi) gm_RX5_38 rfl ⟨rfl, rfl⟩ 0 (by decide +kernel) ⟨by decide, by decide⟩ rfl rfl (Nat.le_of_ble_eq_true rfl) ⟨Nat.zero_le _, Nat.zero_le _⟩ dX5_take_4 ?_
  rw [show (1 : Int32) = nI 1 from rfl]
  refine z_callVI h (c_X5_find l hT hi (zsb_ok i hi).1 (by decide) (by omega)) h1 rfl gm_RX5_43 rfl ⟨rfl, rfl⟩ 3 (by decide +kernel) ⟨by decide, by decide⟩ rfl rfl (Nat.le_of_ble_eq_true rfl) ⟨Nat.zero_le _, Nat.zero_le _⟩ dX5_take_7 ?_
  refine z_iconst (v := -1) h dX5_take_10 (by decide) ?_
  rw [fnd_1]
  refine z_icmp_ne h 16 dX5_take_11 (by decide) (fun c11 => ?_) (fun c11 => ?_)
  · have hm : mW (I b) f e (zsb i) = true := by
      by_cases q : mW (I b) f e (zsb i) = true
      · exact q
      · rw [if_neg q] at c11
        exact absurd rfl c11
    refine z_aload_n h dX5_take_16 rfl rfl ?_
    refine z_callVN h (c_X5_advance l (n := n) (p := e) (b := b) h1 h2 h3 h4 h7 h6 h9) h1 rfl gm_RX5_28 rfl ⟨rfl, rfl⟩ 0 (by decide +kernel) ⟨by decide, by decide⟩ rfl rfl (Nat.le_of_ble_eq_true rfl) ⟨Nat.zero_le _, Nat.zero_le _⟩ dX5_take_17 ?_
    refine z_iconst (v := 1) h dX5_take_20 (by decide) ?_
    refine ret (r := 1) ⟨by rw [hm]; rfl, ?_⟩ dX5_take_21 rfl
    rw [if_pos hm, if_pos hm]
    exact ⟨_, rfl, hT.adv⟩
  · have hm : mW (I b) f e (zsb i) = false := by
      by_cases q : mW (I b) f e (zsb i) = true
      · rw [if_pos q] at c11
        exact absurd c11 (by decide)
      · simpa using q
    refine z_iconst (v := 0) h dX5_take_14 (by decide) ?_
    refine ret (r := 0) ⟨by rw [hm]; rfl, ?_⟩ dX5_take_15 rfl
    rw [hm]
    exact ⟨_, rfl, hT, fr_rf⟩

set_option maxHeartbeats 4000000 in
set_option maxRecDepth 100000 in
theorem c_X5_takeName (l : Launch) {E : zE} {S : zS} {I : Nat → Nat → Int32} {J : Nat → Nat → Int64} {R : Nat → Nat → Option Nat} {t b n f e : Nat} {u : Int32} (hT : TP S R I t b n f e) : zIP l yX5_takeName wsX5_takeName rmX5_takeName E S [.ref t, .int u] (I, J, R) (fun r ν => r = (if fnd (I b) f e (zsb 17) 8 3 ≠ -1 ∧ fnd (I b) f e (zsb 17) 8 3 ≠ u then fnd (I b) f e (zsb 17) 8 3 else -1) ∧ tpN S J R I t b n (if fnd (I b) f e (zsb 17) 8 3 ≠ -1 ∧ fnd (I b) f e (zsb 17) 8 3 ≠ u then nxF (I b) n e else f) (if fnd (I b) f e (zsb 17) 8 3 ≠ -1 ∧ fnd (I b) f e (zsb 17) 8 3 ≠ u then nxE (I b) n e else e) ν) := by
  refine z_metIP (cc := cX5_takeName) (maxL := 3) (ty := .int) (by decide) rfl (Nat.le_of_ble_eq_true rfl) (fun X h ret => ?_)
  show zV X E S 0 0 (I, J, R) 0 _ []
  obtain ⟨h1, h2, h3, h4, h5, h6, h7, h8, h9⟩ := id hT
  refine z_aload_n h dX5_takeName_0 rfl rfl ?_
  refine z_ldcS h 17 (by decide) rfl rfl dX5_takeName_1 ?_
  refine z_bipush (v := 8) h dX5_takeName_3 (by decide) ?_
  refine z_iconst (v := 3) h dX5_takeName_5 (by decide) ?_
  rw [show (8 : Int32) = nI 8 from rfl, show (3 : Int32) = nI 3 from rfl]
  refine z_callVI h (c_X5_find l hT (i := 17) (by decide) (by decide) (by decide) (by decide)) (by assumption) rfl gm_RX5_43 rfl ⟨rfl, rfl⟩ 3 (by decide +kernel) ⟨by decide, by decide⟩ rfl rfl (Nat.le_of_ble_eq_true rfl) ⟨Nat.zero_le _, Nat.zero_le _⟩ dX5_takeName_6 ?_
  refine z_istore_n h dX5_takeName_9 rfl (by decide) ?_
  refine z_iload_n h dX5_takeName_10 rfl rfl ?_
  refine z_iconst (v := -1) h dX5_takeName_11 (by decide) ?_
  refine z_icmp_eq h 20 dX5_takeName_12 (by decide) (fun c12 => ?_) (fun c12 => ?_)
  · refine z_iconst (v := -1) h dX5_takeName_20 (by decide) ?_
    refine ret (r := -1) ⟨?_, ?_⟩ dX5_takeName_21 rfl
    · rw [if_neg (fun q => q.1 c12)]
    · rw [if_neg (fun q => q.1 c12), if_neg (fun q => q.1 c12)]
      exact ⟨_, rfl, hT, fr_rf⟩
  · refine z_iload_n h dX5_takeName_15 rfl rfl ?_
    refine z_iload_n h dX5_takeName_16 rfl rfl ?_
    refine z_icmp_ne h 22 dX5_takeName_17 (by decide) (fun c17 => ?_) (fun c17 => ?_)
    · refine z_aload_n h dX5_takeName_22 rfl rfl ?_
      refine z_callVN h (c_X5_advance l (n := n) (p := e) (b := b) h1 h2 h3 h4 h7 h6 h9) h1 rfl gm_RX5_28 rfl ⟨rfl, rfl⟩ 0 (by decide +kernel) ⟨by decide, by decide⟩ rfl rfl (Nat.le_of_ble_eq_true rfl) ⟨Nat.zero_le _, Nat.zero_le _⟩ dX5_takeName_23 ?_
      refine z_iload_n h dX5_takeName_26 rfl rfl ?_
      refine ret ⟨?_, ?_⟩ dX5_takeName_27 rfl
      · rw [if_pos ⟨c12, c17⟩]
      · rw [if_pos ⟨c12, c17⟩, if_pos ⟨c12, c17⟩]
        exact ⟨_, rfl, hT.adv⟩
    · refine z_iconst (v := -1) h dX5_takeName_20 (by decide) ?_
      refine ret (r := -1) ⟨?_, ?_⟩ dX5_takeName_21 rfl
      · rw [if_neg (fun q => q.2 c17)]
      · rw [if_neg (fun q => q.2 c17), if_neg (fun q => q.2 c17)]
        exact ⟨_, rfl, hT, fr_rf⟩

set_option maxHeartbeats 4000000 in
set_option maxRecDepth 100000 in
theorem c_X5_takeUnit (l : Launch) {E : zE} {S : zS} {I : Nat → Nat → Int32} {J : Nat → Nat → Int64} {R : Nat → Nat → Option Nat} {t b n f e : Nat} (hT : TP S R I t b n f e) : zIP l yX5_takeUnit wsX5_takeUnit rmX5_takeUnit E S [.ref t] (I, J, R) (fun r ν => r = fnd (I b) f e (zsb 18) 4 4 ∧ tpN S J R I t b n (if fnd (I b) f e (zsb 18) 4 4 ≠ -1 then nxF (I b) n e else f) (if fnd (I b) f e (zsb 18) 4 4 ≠ -1 then nxE (I b) n e else e) ν) := by
  refine z_metIP (cc := cX5_takeUnit) (maxL := 2) (ty := .int) (by decide) rfl (Nat.le_of_ble_eq_true rfl) (fun X h ret => ?_)
  show zV X E S 0 0 (I, J, R) 0 _ []
  obtain ⟨h1, h2, h3, h4, h5, h6, h7, h8, h9⟩ := id hT
  refine z_aload_n h dX5_takeUnit_0 rfl rfl ?_
  refine z_ldcS h 18 (by decide) rfl rfl dX5_takeUnit_1 ?_
  refine z_iconst (v := 4) h dX5_takeUnit_3 (by decide) ?_
  refine z_iconst (v := 4) h dX5_takeUnit_4 (by decide) ?_
  rw [show (4 : Int32) = nI 4 from rfl]
  refine z_callVI h (c_X5_find l hT (i := 18) (by decide) (by decide) (by decide) (by decide)) (by assumption) rfl gm_RX5_43 rfl ⟨rfl, rfl⟩ 3 (by decide +kernel) ⟨by decide, by decide⟩ rfl rfl (Nat.le_of_ble_eq_true rfl) ⟨Nat.zero_le _, Nat.zero_le _⟩ dX5_takeUnit_5 ?_
  refine z_istore_n h dX5_takeUnit_8 rfl (by decide) ?_
  refine z_iload_n h dX5_takeUnit_9 rfl rfl ?_
  refine z_iconst (v := -1) h dX5_takeUnit_10 (by decide) ?_
  refine z_icmp_eq h 18 dX5_takeUnit_11 (by decide) (fun c11 => ?_) (fun c11 => ?_)
  · refine z_iload_n h dX5_takeUnit_18 rfl rfl ?_
    refine ret ⟨rfl, ?_⟩ dX5_takeUnit_19 rfl
    rw [if_neg (fun q => q c11), if_neg (fun q => q c11)]
    exact ⟨_, rfl, hT, fr_rf⟩
  · refine z_aload_n h dX5_takeUnit_14 rfl rfl ?_
    refine z_callVN h (c_X5_advance l (n := n) (p := e) (b := b) h1 h2 h3 h4 h7 h6 h9) h1 rfl gm_RX5_28 rfl ⟨rfl, rfl⟩ 0 (by decide +kernel) ⟨by decide, by decide⟩ rfl rfl (Nat.le_of_ble_eq_true rfl) ⟨Nat.zero_le _, Nat.zero_le _⟩ dX5_takeUnit_15 ?_
    refine z_iload_n h dX5_takeUnit_18 rfl rfl ?_
    refine ret ⟨rfl, ?_⟩ dX5_takeUnit_19 rfl
    rw [if_pos c11, if_pos c11]
    exact ⟨_, rfl, hT.adv⟩

set_option maxHeartbeats 4000000 in
set_option maxRecDepth 100000 in
theorem c_X5_takeNumber (l : Launch) {E : zE} {S : zS} {I : Nat → Nat → Int32} {J : Nat → Nat → Int64} {R : Nat → Nat → Option Nat} {t b n f e : Nat} (hT : TP S R I t b n f e) : zIP l yX5_takeNumber wsX5_takeNumber rmX5_takeNumber E S [.ref t] (I, J, R) (fun r ν => r = (nmW (I b) f e).getD (-1) ∧ tpN S J R I t b n (if (nmW (I b) f e).isSome = true then nxF (I b) n e else f) (if (nmW (I b) f e).isSome = true then nxE (I b) n e else e) ν) := by
  refine z_metIP (cc := cX5_takeNumber) (maxL := 3) (ty := .int) (by decide) rfl (Nat.le_of_ble_eq_true rfl) (fun X h ret => ?_)
  show zV X E S 0 0 (I, J, R) 0 _ []
  obtain ⟨h1, h2, h3, h4, h5, h6, h7, h8, h9⟩ := id hT
  have L44 : ∀ (d p : Nat) (a : Int32), p + d = e → f ≤ p → nmW (I b) f e = dgW (I b) d p a → zV X E S 0 0 (I, J, R) 44 [(0, .ref t), (1, .int a), (2, .int (nI p))] [] := by
    intro d
    induction d with
    | zero =>
      intro p a hp hfp hm
      refine z_iload_n h dX5_takeNumber_44 rfl rfl ?_
      refine z_aload_n h dX5_takeNumber_45 rfl rfl ?_
      refine z_getI h (by assumption) rfl kw5 3 (by decide) rfl kf_RX5_22 dX5_takeNumber_46 ?_
      rw [h6]
      refine z_icmp_ge h 87 dX5_takeNumber_49 (by decide) (fun c49 => ?_) (fun c49 => ?_)
      · refine z_aload_n h dX5_takeNumber_87 rfl rfl ?_
        refine z_callVN h (c_X5_advance l (n := n) (p := e) (b := b) h1 h2 h3 h4 h7 h6 h9) h1 rfl gm_RX5_28 rfl ⟨rfl, rfl⟩ 0 (by decide +kernel) ⟨by decide, by decide⟩ rfl rfl (Nat.le_of_ble_eq_true rfl) ⟨Nat.zero_le _, Nat.zero_le _⟩ dX5_takeNumber_88 ?_
        refine z_iload_n h dX5_takeNumber_91 rfl rfl ?_
        refine ret ⟨by rw [hm]; rfl, ?_⟩ dX5_takeNumber_92 rfl
        rw [hm]
        exact ⟨_, rfl, hT.adv⟩
      · exact absurd (nI_le (by omega) (by omega)) c49
    | succ d ih =>
      intro p a hp hfp hm
      refine z_iload_n h dX5_takeNumber_44 rfl rfl ?_
      refine z_aload_n h dX5_takeNumber_45 rfl rfl ?_
      refine z_getI h (by assumption) rfl kw5 3 (by decide) rfl kf_RX5_22 dX5_takeNumber_46 ?_
      rw [h6]
      refine z_icmp_ge h 87 dX5_takeNumber_49 (by decide) (fun c49 => ?_) (fun c49 => ?_)
      · exact absurd (nle (by omega) (by omega) c49) (by omega)
      · refine z_aload_n h dX5_takeNumber_52 rfl rfl ?_
        refine z_getR h (by assumption) rfl kw5 0 (by decide) rfl (by assumption) kf_RX5_9 dX5_takeNumber_53 ?_
        refine z_iload_n h dX5_takeNumber_56 rfl rfl ?_
        refine z_iald h (by assumption) (zix_nI (by omega) (by decide)) dX5_takeNumber_57 ?_
        refine z_callSI h (c_X5_isDigit l _) (va_cwS 1 h.2.2.2.2.1 gm_RX5_31 rfl rfl rfl (by decide +kernel) ⟨by decide, by decide⟩) rfl rfl (Nat.le_of_ble_eq_true rfl) ⟨Nat.zero_le _, Nat.zero_le _⟩ dX5_takeNumber_58 ?_
        refine z_if_ne h 66 dX5_takeNumber_61 (by decide) (fun c61 => ?_) (fun c61 => ?_)
        · rw [dgW, if_pos (b2i_n0.mp c61)] at hm
          refine z_iload_n h dX5_takeNumber_66 rfl rfl ?_
          refine z_bipush (v := 10) h dX5_takeNumber_67 (by decide) ?_
          refine z_imul h dX5_takeNumber_69 ?_
          refine z_aload_n h dX5_takeNumber_70 rfl rfl ?_
          refine z_getR h (by assumption) rfl kw5 0 (by decide) rfl (by assumption) kf_RX5_9 dX5_takeNumber_71 ?_
          refine z_iload_n h dX5_takeNumber_74 rfl rfl ?_
          refine z_iald h (by assumption) (zix_nI (by omega) (by decide)) dX5_takeNumber_75 ?_
          refine z_bipush (v := 48) h dX5_takeNumber_76 (by decide) ?_
          refine z_isub h dX5_takeNumber_78 ?_
          refine z_iadd h dX5_takeNumber_79 ?_
          refine z_istore_n h dX5_takeNumber_80 rfl (by decide) ?_
          refine z_iinc h dX5_takeNumber_81 rfl (nI_1 p) (by decide) ?_
          refine z_goto h 44 dX5_takeNumber_84 (by decide) ?_
          exact z_lk (ih (p + 1) _ (by omega) (by omega) hm) ⟨rfl, rfl, rfl, trivial⟩
        · refine z_iconst (v := -1) h dX5_takeNumber_64 (by decide) ?_
          rw [dgW, if_neg (by rw [b2i_0.mp c61]; decide)] at hm
          refine ret (r := -1) ⟨by rw [hm]; rfl, ?_⟩ dX5_takeNumber_65 rfl
          rw [hm]
          exact ⟨_, rfl, hT, fr_rf⟩
  refine z_aload_n h dX5_takeNumber_0 rfl rfl ?_
  refine z_getI h (by assumption) rfl kw5 2 (by decide) rfl kf_RX5_19 dX5_takeNumber_1 ?_
  refine z_aload_n h dX5_takeNumber_4 rfl rfl ?_
  refine z_getI h (by assumption) rfl kw5 3 (by decide) rfl kf_RX5_22 dX5_takeNumber_5 ?_
  rw [h5, h6]
  refine z_icmp_ge h 35 dX5_takeNumber_8 (by decide) (fun c8 => ?_) (fun c8 => ?_)
  · refine z_iconst (v := -1) h dX5_takeNumber_35 (by decide) ?_
    have hno : nmW (I b) f e = none := if_neg (fun q => absurd (nle (by omega) (by omega) c8) (by omega))
    refine ret (r := -1) ⟨by rw [hno]; rfl, ?_⟩ dX5_takeNumber_36 rfl
    rw [hno]
    exact ⟨_, rfl, hT, fr_rf⟩
  · refine z_aload_n h dX5_takeNumber_11 rfl rfl ?_
    refine z_getI h (by assumption) rfl kw5 3 (by decide) rfl kf_RX5_22 dX5_takeNumber_12 ?_
    refine z_aload_n h dX5_takeNumber_15 rfl rfl ?_
    refine z_getI h (by assumption) rfl kw5 1 (by decide) rfl kf_RX5_15 dX5_takeNumber_16 ?_
    rw [h6, h4]
    refine z_icmp_gt h 35 dX5_takeNumber_19 (by decide) (fun c19 => ?_) (fun c19 => ?_)
    · exact absurd (nlt (by omega) (by omega) c19) (by omega)
    · refine z_aload_n h dX5_takeNumber_22 rfl rfl ?_
      refine z_getI h (by assumption) rfl kw5 3 (by decide) rfl kf_RX5_22 dX5_takeNumber_23 ?_
      refine z_aload_n h dX5_takeNumber_26 rfl rfl ?_
      refine z_getI h (by assumption) rfl kw5 2 (by decide) rfl kf_RX5_19 dX5_takeNumber_27 ?_
      rw [h6, h5]
      refine z_isub h dX5_takeNumber_30 ?_
      rw [pk_sub h8]
      refine z_iconst (v := 3) h dX5_takeNumber_31 (by decide) ?_
      rw [show (3 : Int32) = nI 3 from rfl]
      refine z_icmp_le h 37 dX5_takeNumber_32 (by decide) (fun c32 => ?_) (fun c32 => ?_)
      · have c8 := nnle (by omega) (by omega) c8
        have c32 := nle (by omega) (by decide) c32
        refine z_iconst (v := 0) h dX5_takeNumber_37 (by decide) ?_
        refine z_istore_n h dX5_takeNumber_38 rfl (by decide) ?_
        refine z_aload_n h dX5_takeNumber_39 rfl rfl ?_
        refine z_getI h (by assumption) rfl kw5 2 (by decide) rfl kf_RX5_19 dX5_takeNumber_40 ?_
        rw [h5]
        refine z_istore_n h dX5_takeNumber_43 rfl (by decide) ?_
        exact z_lk (L44 (e - f) f 0 (by omega) (Nat.le_refl _) (if_pos ⟨c8, c32⟩)) ⟨rfl, rfl, rfl, trivial⟩
      · refine z_iconst (v := -1) h dX5_takeNumber_35 (by decide) ?_
        have hno : nmW (I b) f e = none := if_neg (fun q => absurd (nnle (by omega) (by decide) c32) (by omega))
        refine ret (r := -1) ⟨by rw [hno]; rfl, ?_⟩ dX5_takeNumber_36 rfl
        rw [hno]
        exact ⟨_, rfl, hT, fr_rf⟩
end
section
/-! THE STORY: an object st, its rows pa (rw i), what is asked ak -/
theorem z_tswI {X : zC} {E : zE} {S : zS} {kc ks : Nat} {μ : zM} {pc : Nat} {lv : List (Nat × Value)} {st : List Value} {l : Launch} {cc : ByteArray} {own : String} {Ts : List Cond} {rm : Room} {nL : Nat} (h : zOK X E l cc own Ts rm nL) {dflt lo hi : Int} {offs : Array Int} {len : Nat} {x : Int32} {off : Int} (tgt : Nat) (hd : decode cc pc = .ok (.tableswitch dflt lo hi offs, len)) (h1 : ¬ x.toInt < lo) (h2 : ¬ hi < x.toInt) (ho : offs[(x.toInt - lo).toNat]? = some off) (ht : (pc : Int) + off = (tgt : Int)) (k : zV X E S kc ks μ tgt lv st) : zV X E S kc ks μ pc lv (.int x :: st) := fun H locs ls hP hD hS hl => lv_tableIn h.1 h.2.1 hd h1 h2 ho ht (k H locs ls hP hD hS hl)
theorem z_tswO {X : zC} {E : zE} {S : zS} {kc ks : Nat} {μ : zM} {pc : Nat} {lv : List (Nat × Value)} {st : List Value} {l : Launch} {cc : ByteArray} {own : String} {Ts : List Cond} {rm : Room} {nL : Nat} (h : zOK X E l cc own Ts rm nL) {dflt lo hi : Int} {offs : Array Int} {len : Nat} {x : Int32} (tgt : Nat) (hd : decode cc pc = .ok (.tableswitch dflt lo hi offs, len)) (h1 : x.toInt < lo ∨ hi < x.toInt) (ht : (pc : Int) + dflt = (tgt : Int)) (k : zV X E S kc ks μ tgt lv st) : zV X E S kc ks μ pc lv (.int x :: st) := fun H locs ls hP hD hS hl => lv_tableOut h.1 h.2.1 hd h1 ht (k H locs ls hP hD hS hl)
def SY (S : zS) (R : Nat → Nat → Option Nat) (st pa ak : Nat) (rw : Nat → Nat) : Prop := zO S st 3 ∧ R st 0 = some pa ∧ R st 1 = some ak ∧ zA S pa 13 10 ∧ zA S ak 9 5 ∧ (∀ i, i < 10 → R pa i = some (rw i) ∧ zA S (rw i) 9 7) ∧ (∀ i j, i < 10 → j < 10 → rw i = rw j → i = j) ∧ ∀ i, i < 10 → rw i ≠ ak
theorem SY.n1 {S : zS} {R : Nat → Nat → Option Nat} {st pa ak : Nat} {rw : Nat → Nat} (h : SY S R st pa ak rw) : ∀ i, i < 10 → st ≠ rw i := fun i hi q => absurd ((h.2.2.2.2.2.1 i hi).2.2.1.symm.trans (q ▸ h.1.2)) (by decide)
theorem SY.n2 {S : zS} {R : Nat → Nat → Option Nat} {st pa ak : Nat} {rw : Nat → Nat} (h : SY S R st pa ak rw) : st ≠ ak := fun q => absurd (h.2.2.2.2.1.2.1.symm.trans (q ▸ h.1.2)) (by decide)
theorem zix_c {j n : Nat} (x : Int32) (e : x = nI j) (h : j < n) (hn : n < 2 ^ 31) : zix x j n := e ▸ zix_nI h hn
/-- by how much a sentence's row changes a name's amount -/
def gby (r : Nat → Int32) (nm : Int32) : Int32 := if r 0 = 5 then (if r 1 = nm then -(r 4) else if r 2 = nm then r 4 else 0) else if r 0 = 6 then (if r 1 = nm then r 4 else 0) else if r 0 = 7 then (if r 1 = nm then -(r 4) else 0) else 0
def gnC (p : Nat → Nat → Int32) (nm un sg : Int32) : Nat → Int64
  | 0 => 0
  | i + 1 => if p i 3 = un ∧ p i 5 < sg then gnC p nm un sg i + (gby (p i) nm).toInt64 else gnC p nm un sg i

set_option maxHeartbeats 4000000 in
set_option maxRecDepth 100000 in
theorem c_X3_size (l : Launch) {E : zE} {S : zS} {I : Nat → Nat → Int32} {J : Nat → Nat → Int64} {R : Nat → Nat → Option Nat} {st : Nat} (y1 : zO S st 3) : zI l yX3_size wsX3_size rmX3_size E S [.ref st] (I, J, R) (I st 2) (I, J, R) := by
  refine z_metI (cc := cX3_size) (maxL := 1) (ty := .int) (by decide) rfl (Nat.le_of_ble_eq_true rfl) (fun X h ret => ?_)
  show zV X E S 0 0 (I, J, R) 0 _ []
  refine z_aload_n h dX3_size_0 rfl rfl ?_
  refine z_getI h (by assumption) rfl kw3 2 (by decide) rfl kf_RX3_20 dX3_size_1 ?_
  exact ret dX3_size_4 rfl

set_option maxHeartbeats 4000000 in
set_option maxRecDepth 100000 in
theorem c_X3_facts (l : Launch) {E : zE} {S : zS} {I : Nat → Nat → Int32} {J : Nat → Nat → Int64} {R : Nat → Nat → Option Nat} {st : Nat} (y1 : zO S st 3) : zI l yX3_facts wsX3_facts rmX3_facts E S [.ref st] (I, J, R) (I st 4) (I, J, R) := by
  refine z_metI (cc := cX3_facts) (maxL := 1) (ty := .int) (by decide) rfl (Nat.le_of_ble_eq_true rfl) (fun X h ret => ?_)
  show zV X E S 0 0 (I, J, R) 0 _ []
  refine z_aload_n h dX3_facts_0 rfl rfl ?_
  refine z_getI h (by assumption) rfl kw3 4 (by decide) rfl kf_RX3_27 dX3_facts_1 ?_
  exact ret dX3_facts_4 rfl

set_option maxHeartbeats 4000000 in
set_option maxRecDepth 100000 in
theorem c_X3_stages (l : Launch) {E : zE} {S : zS} {I : Nat → Nat → Int32} {J : Nat → Nat → Int64} {R : Nat → Nat → Option Nat} {st : Nat} (y1 : zO S st 3) : zI l yX3_stages wsX3_stages rmX3_stages E S [.ref st] (I, J, R) (if I st 5 = 0 then 0 else I st 3 + 1) (I, J, R) := by
  refine z_metI (cc := cX3_stages) (maxL := 1) (ty := .int) (by decide) rfl (Nat.le_of_ble_eq_true rfl) (fun X h ret => ?_)
  show zV X E S 0 0 (I, J, R) 0 _ []
  refine z_aload_n h dX3_stages_0 rfl rfl ?_
  refine z_getI h (by assumption) rfl kw3 5 (by decide) rfl kf_RX3_30 dX3_stages_1 ?_
  refine z_if_eq h 16 dX3_stages_4 (by decide) (fun c4 => ?_) (fun c4 => ?_)
  · rw [if_pos c4] at ret
    refine z_iconst (v := 0) h dX3_stages_16 (by decide) ?_
    exact ret dX3_stages_17 rfl
  · rw [if_neg c4] at ret
    refine z_aload_n h dX3_stages_7 rfl rfl ?_
    refine z_getI h (by assumption) rfl kw3 3 (by decide) rfl kf_RX3_24 dX3_stages_8 ?_
    refine z_iconst (v := 1) h dX3_stages_11 (by decide) ?_
    refine z_iadd h dX3_stages_12 ?_
    refine z_goto h 17 dX3_stages_13 (by decide) ?_
    exact ret dX3_stages_17 rfl

set_option maxHeartbeats 4000000 in
set_option maxRecDepth 100000 in
theorem c_X3_clear (l : Launch) {E : zE} {S : zS} {I : Nat → Nat → Int32} {J : Nat → Nat → Int64} {R : Nat → Nat → Option Nat} {st : Nat} (y1 : zO S st 3) : zN l yX3_clear wsX3_clear rmX3_clear E S [.ref st] (I, J, R) (zu (zu (zu (zu I st 2 0) st 3 0) st 4 0) st 5 0, J, R) := by
  refine z_metN (cc := cX3_clear) (maxL := 1) (by decide) rfl (Nat.le_of_ble_eq_true rfl) (fun X h ret => ?_)
  show zV X E S 0 0 (I, J, R) 0 _ []
  refine z_aload_n h dX3_clear_0 rfl rfl ?_
  refine z_iconst (v := 0) h dX3_clear_1 (by decide) ?_
  refine z_putI h (by assumption) rfl kw3 2 (by decide) rfl rfl (rfl) (rfl) kf_RX3_20 dX3_clear_2 ?_
  refine z_aload_n h dX3_clear_5 rfl rfl ?_
  refine z_iconst (v := 0) h dX3_clear_6 (by decide) ?_
  refine z_putI h (by assumption) rfl kw3 3 (by decide) rfl rfl (rfl) (rfl) kf_RX3_24 dX3_clear_7 ?_
  refine z_aload_n h dX3_clear_10 rfl rfl ?_
  refine z_iconst (v := 0) h dX3_clear_11 (by decide) ?_
  refine z_putI h (by assumption) rfl kw3 4 (by decide) rfl rfl (rfl) (rfl) kf_RX3_27 dX3_clear_12 ?_
  refine z_aload_n h dX3_clear_15 rfl rfl ?_
  refine z_iconst (v := 0) h dX3_clear_16 (by decide) ?_
  refine z_putI h (by assumption) rfl kw3 5 (by decide) rfl rfl (rfl) (rfl) kf_RX3_30 dX3_clear_17 ?_
  exact ret dX3_clear_20

set_option maxHeartbeats 4000000 in
set_option maxRecDepth 100000 in
theorem c_X3_tell (l : Launch) {E : zE} {S : zS} {I : Nat → Nat → Int32} {J : Nat → Nat → Int64} {R : Nat → Nat → Option Nat} {st pa ak : Nat} {rw : Nat → Nat} (hY : SY S R st pa ak rw) {k j : Nat} {v : Int32} (hn : I st 2 = nI k) (hk : k < 10) (hj : j < 7) : zN l yX3_tell wsX3_tell rmX3_tell E S [.ref st, .int (nI j), .int v] (I, J, R) (zu I (rw k) j v, J, R) := by
  refine z_metN (cc := cX3_tell) (maxL := 3) (by decide) rfl (Nat.le_of_ble_eq_true rfl) (fun X h ret => ?_)
  show zV X E S 0 0 (I, J, R) 0 _ []
  obtain ⟨y1, y2, y3, y4, y5, y6, y7, y8⟩ := id hY
  obtain ⟨r1, r2⟩ := y6 k hk
  refine z_aload_n h dX3_tell_0 rfl rfl ?_
  refine z_getI h (by assumption) rfl kw3 2 (by decide) rfl kf_RX3_20 dX3_tell_1 ?_
  rw [hn]
  refine z_bipush (v := 10) h dX3_tell_4 (by decide) ?_
  rw [show (10 : Int32) = nI 10 from rfl]
  refine z_icmp_ge h 31 dX3_tell_6 (by decide) (fun c6 => ?_) (fun c6 => ?_)
  · exact absurd (nle (by decide) (by omega) c6) (by omega)
  · refine z_iload_n h dX3_tell_9 rfl rfl ?_
    refine z_if_lt h 31 dX3_tell_10 (by decide) (fun c10 => ?_) (fun c10 => ?_)
    · exact absurd c10 (nI_pos (by omega))
    · refine z_iload_n h dX3_tell_13 rfl rfl ?_
      refine z_bipush (v := 7) h dX3_tell_14 (by decide) ?_
      rw [show (7 : Int32) = nI 7 from rfl]
      refine z_icmp_ge h 31 dX3_tell_16 (by decide) (fun c16 => ?_) (fun c16 => ?_)
      · exact absurd (nle (by decide) (by omega) c16) (by omega)
      · refine z_aload_n h dX3_tell_19 rfl rfl ?_
        refine z_getR h (by assumption) rfl kw3 0 (by decide) rfl (by assumption) kf_RX3_11 dX3_tell_20 ?_
        refine z_aload_n h dX3_tell_23 rfl rfl ?_
        refine z_getI h (by assumption) rfl kw3 2 (by decide) rfl kf_RX3_20 dX3_tell_24 ?_
        rw [hn]
        refine z_aaldI h (by assumption) (zix_nI hk (by decide)) (r1) dX3_tell_27 ?_
        refine z_iload_n h dX3_tell_28 rfl rfl ?_
        refine z_iload_n h dX3_tell_29 rfl rfl ?_
        refine z_iast h (by assumption) (zix_nI hj (by decide)) dX3_tell_30 ?_
        exact ret dX3_tell_31

set_option maxHeartbeats 4000000 in
set_option maxRecDepth 100000 in
theorem c_X3_open (l : Launch) {E : zE} {S : zS} {I : Nat → Nat → Int32} {J : Nat → Nat → Int64} {R : Nat → Nat → Option Nat} {st pa ak : Nat} {rw : Nat → Nat} (hY : SY S R st pa ak rw) {k : Nat} {v w : Int32} (hn : I st 2 = nI k) (hk : k < 10) : zNP l yX3_open wsX3_open rmX3_open E S [.ref st, .int v, .int w] (I, J, R) (fun ν => ∃ I', ν = (I', J, R) ∧ fr [rw k] I I' ∧ I' (rw k) 0 = -1 ∧ I' (rw k) 1 = v ∧ I' (rw k) 2 = -1 ∧ I' (rw k) 3 = -1 ∧ I' (rw k) 4 = 0 ∧ I' (rw k) 5 = I st 3 ∧ I' (rw k) 6 = w) := by
  refine z_metNP (cc := cX3_open) (maxL := 3) (by decide) rfl (Nat.le_of_ble_eq_true rfl) (fun X h ret => ?_)
  show zV X E S 0 0 (I, J, R) 0 _ []
  obtain ⟨y1, y2, y3, y4, y5, y6, y7, y8⟩ := id hY
  have hne : ∀ i, i < 10 → st ≠ rw i := hY.n1
  refine z_aload_n h dX3_open_0 rfl rfl ?_
  refine z_iconst (v := 0) h dX3_open_1 (by decide) ?_
  refine z_iconst (v := -1) h dX3_open_2 (by decide) ?_
  refine z_callVN h (c_X3_tell l hY (k := k) (j := 0) (hn) hk (by decide)) (by assumption) rfl gm_RX3_34 rfl ⟨rfl, rfl⟩ 2 (by decide +kernel) ⟨by decide, by decide⟩ rfl rfl (Nat.le_of_ble_eq_true rfl) ⟨Nat.zero_le _, Nat.zero_le _⟩ dX3_open_3 ?_
  refine z_aload_n h dX3_open_6 rfl rfl ?_
  refine z_iconst (v := 1) h dX3_open_7 (by decide) ?_
  refine z_iload_n h dX3_open_8 rfl rfl ?_
  refine z_callVN h (c_X3_tell l hY (k := k) (j := 1) ((zu_a (hne k hk)).trans (hn)) hk (by decide)) (by assumption) rfl gm_RX3_34 rfl ⟨rfl, rfl⟩ 2 (by decide +kernel) ⟨by decide, by decide⟩ rfl rfl (Nat.le_of_ble_eq_true rfl) ⟨Nat.zero_le _, Nat.zero_le _⟩ dX3_open_9 ?_
  refine z_aload_n h dX3_open_12 rfl rfl ?_
  refine z_iconst (v := 2) h dX3_open_13 (by decide) ?_
  refine z_iconst (v := -1) h dX3_open_14 (by decide) ?_
  refine z_callVN h (c_X3_tell l hY (k := k) (j := 2) ((zu_a (hne k hk)).trans ((zu_a (hne k hk)).trans (hn))) hk (by decide)) (by assumption) rfl gm_RX3_34 rfl ⟨rfl, rfl⟩ 2 (by decide +kernel) ⟨by decide, by decide⟩ rfl rfl (Nat.le_of_ble_eq_true rfl) ⟨Nat.zero_le _, Nat.zero_le _⟩ dX3_open_15 ?_
  refine z_aload_n h dX3_open_18 rfl rfl ?_
  refine z_iconst (v := 3) h dX3_open_19 (by decide) ?_
  refine z_iconst (v := -1) h dX3_open_20 (by decide) ?_
  refine z_callVN h (c_X3_tell l hY (k := k) (j := 3) ((zu_a (hne k hk)).trans ((zu_a (hne k hk)).trans ((zu_a (hne k hk)).trans (hn)))) hk (by decide)) (by assumption) rfl gm_RX3_34 rfl ⟨rfl, rfl⟩ 2 (by decide +kernel) ⟨by decide, by decide⟩ rfl rfl (Nat.le_of_ble_eq_true rfl) ⟨Nat.zero_le _, Nat.zero_le _⟩ dX3_open_21 ?_
  refine z_aload_n h dX3_open_24 rfl rfl ?_
  refine z_iconst (v := 4) h dX3_open_25 (by decide) ?_
  refine z_iconst (v := 0) h dX3_open_26 (by decide) ?_
  refine z_callVN h (c_X3_tell l hY (k := k) (j := 4) ((zu_a (hne k hk)).trans ((zu_a (hne k hk)).trans ((zu_a (hne k hk)).trans ((zu_a (hne k hk)).trans (hn))))) hk (by decide)) (by assumption) rfl gm_RX3_34 rfl ⟨rfl, rfl⟩ 2 (by decide +kernel) ⟨by decide, by decide⟩ rfl rfl (Nat.le_of_ble_eq_true rfl) ⟨Nat.zero_le _, Nat.zero_le _⟩ dX3_open_27 ?_
  refine z_aload_n h dX3_open_30 rfl rfl ?_
  refine z_iconst (v := 5) h dX3_open_31 (by decide) ?_
  refine z_aload_n h dX3_open_32 rfl rfl ?_
  refine z_getI h (by assumption) rfl kw3 3 (by decide) rfl kf_RX3_24 dX3_open_33 ?_
  refine z_callVN h (c_X3_tell l hY (k := k) (j := 5) ((zu_a (hne k hk)).trans ((zu_a (hne k hk)).trans ((zu_a (hne k hk)).trans ((zu_a (hne k hk)).trans ((zu_a (hne k hk)).trans (hn)))))) hk (by decide)) (by assumption) rfl gm_RX3_34 rfl ⟨rfl, rfl⟩ 2 (by decide +kernel) ⟨by decide, by decide⟩ rfl rfl (Nat.le_of_ble_eq_true rfl) ⟨Nat.zero_le _, Nat.zero_le _⟩ dX3_open_36 ?_
  refine z_aload_n h dX3_open_39 rfl rfl ?_
  refine z_bipush (v := 6) h dX3_open_40 (by decide) ?_
  refine z_iload_n h dX3_open_42 rfl rfl ?_
  refine z_callVN h (c_X3_tell l hY (k := k) (j := 6) ((zu_a (hne k hk)).trans ((zu_a (hne k hk)).trans ((zu_a (hne k hk)).trans ((zu_a (hne k hk)).trans ((zu_a (hne k hk)).trans ((zu_a (hne k hk)).trans (hn))))))) hk (by decide)) (by assumption) rfl gm_RX3_34 rfl ⟨rfl, rfl⟩ 2 (by decide +kernel) ⟨by decide, by decide⟩ rfl rfl (Nat.le_of_ble_eq_true rfl) ⟨Nat.zero_le _, Nat.zero_le _⟩ dX3_open_43 ?_
  refine ret ⟨_, rfl, fun a ha => ?_, ?_, ?_, ?_, ?_, ?_, ?_, ?_⟩ dX3_open_46
  · have q : a ≠ rw k := by simpa using ha
    rw [zu_o q, zu_o q, zu_o q, zu_o q, zu_o q, zu_o q, zu_o q]
  · rw [zu_k (by decide), zu_k (by decide), zu_k (by decide), zu_k (by decide), zu_k (by decide), zu_k (by decide)]; exact zu_s
  · rw [zu_k (by decide), zu_k (by decide), zu_k (by decide), zu_k (by decide), zu_k (by decide)]; exact zu_s
  · rw [zu_k (by decide), zu_k (by decide), zu_k (by decide), zu_k (by decide)]; exact zu_s
  · rw [zu_k (by decide), zu_k (by decide), zu_k (by decide)]; exact zu_s
  · rw [zu_k (by decide), zu_k (by decide)]; exact zu_s
  · rw [zu_k (by decide)]; rw [zu_s, zu_a (hne k hk), zu_a (hne k hk), zu_a (hne k hk), zu_a (hne k hk), zu_a (hne k hk)]
  · exact zu_s

set_option maxHeartbeats 4000000 in
set_option maxRecDepth 100000 in
theorem c_X3_close (l : Launch) {E : zE} {S : zS} {I : Nat → Nat → Int32} {J : Nat → Nat → Int64} {R : Nat → Nat → Option Nat} {st pa ak : Nat} {rw : Nat → Nat} (hY : SY S R st pa ak rw) {k : Nat} (hn : I st 2 = nI k) (hk : k < 10) : zN l yX3_close wsX3_close rmX3_close E S [.ref st] (I, J, R) (zu (if I (rw k) 0 ≤ 4 then zu I st 4 (I st 4 ||| (1 : Int32) <<< (nI k &&& 31)) else zu I st 3 (I st 3 + 1)) st 2 (nI (k + 1)), J, R) := by
  refine z_metN (cc := cX3_close) (maxL := 1) (by decide) rfl (Nat.le_of_ble_eq_true rfl) (fun X h ret => ?_)
  show zV X E S 0 0 (I, J, R) 0 _ []
  obtain ⟨y1, y2, y3, y4, y5, y6, y7, y8⟩ := id hY
  obtain ⟨r1, r2⟩ := y6 k hk
  refine z_aload_n h dX3_close_0 rfl rfl ?_
  refine z_getI h (by assumption) rfl kw3 2 (by decide) rfl kf_RX3_20 dX3_close_1 ?_
  rw [hn]
  refine z_bipush (v := 10) h dX3_close_4 (by decide) ?_
  rw [show (10 : Int32) = nI 10 from rfl]
  refine z_icmp_lt h 10 dX3_close_6 (by decide) (fun c6 => ?_) (fun c6 => ?_)
  · refine z_aload_n h dX3_close_10 rfl rfl ?_
    refine z_getR h (by assumption) rfl kw3 0 (by decide) rfl (by assumption) kf_RX3_11 dX3_close_11 ?_
    refine z_aload_n h dX3_close_14 rfl rfl ?_
    refine z_getI h (by assumption) rfl kw3 2 (by decide) rfl kf_RX3_20 dX3_close_15 ?_
    rw [hn]
    refine z_aaldI h (by assumption) (zix_nI hk (by decide)) (r1) dX3_close_18 ?_
    refine z_iconst (v := 0) h dX3_close_19 (by decide) ?_
    refine z_iald h (by assumption) (zix_c 0 rfl (by decide) (by decide)) dX3_close_20 ?_
    refine z_iconst (v := 4) h dX3_close_21 (by decide) ?_
    refine z_icmp_gt h 43 dX3_close_22 (by decide) (fun c22 => ?_) (fun c22 => ?_)
    · rw [if_neg (Int32.not_le.mpr c22)] at ret
      refine z_aload_n h dX3_close_43 rfl rfl ?_
      refine z_dup h dX3_close_44 rfl ?_
      refine z_getI h (by assumption) rfl kw3 3 (by decide) rfl kf_RX3_24 dX3_close_45 ?_
      refine z_iconst (v := 1) h dX3_close_48 (by decide) ?_
      refine z_iadd h dX3_close_49 ?_
      refine z_putI h (by assumption) rfl kw3 3 (by decide) rfl rfl (rfl) (rfl) kf_RX3_24 dX3_close_50 ?_
      refine z_aload_n h dX3_close_53 rfl rfl ?_
      refine z_dup h dX3_close_54 rfl ?_
      refine z_getI h (by assumption) rfl kw3 2 (by decide) rfl kf_RX3_20 dX3_close_55 ?_
      rw [zu_k (by decide), hn]
      refine z_iconst (v := 1) h dX3_close_58 (by decide) ?_
      refine z_iadd h dX3_close_59 ?_
      rw [nI_1]
      refine z_putI h (by assumption) rfl kw3 2 (by decide) rfl rfl rfl rfl kf_RX3_20 dX3_close_60 ?_
      exact ret dX3_close_63
    · rw [if_pos (Int32.not_lt.mp c22)] at ret
      refine z_aload_n h dX3_close_25 rfl rfl ?_
      refine z_dup h dX3_close_26 rfl ?_
      refine z_getI h (by assumption) rfl kw3 4 (by decide) rfl kf_RX3_27 dX3_close_27 ?_
      refine z_iconst (v := 1) h dX3_close_30 (by decide) ?_
      refine z_aload_n h dX3_close_31 rfl rfl ?_
      refine z_getI h (by assumption) rfl kw3 2 (by decide) rfl kf_RX3_20 dX3_close_32 ?_
      rw [hn]
      refine z_ishl h dX3_close_35 ?_
      refine z_ior h dX3_close_36 ?_
      refine z_putI h (by assumption) rfl kw3 4 (by decide) rfl rfl (rfl) (rfl) kf_RX3_27 dX3_close_37 ?_
      refine z_goto h 53 dX3_close_40 (by decide) ?_
      refine z_aload_n h dX3_close_53 rfl rfl ?_
      refine z_dup h dX3_close_54 rfl ?_
      refine z_getI h (by assumption) rfl kw3 2 (by decide) rfl kf_RX3_20 dX3_close_55 ?_
      rw [zu_k (by decide), hn]
      refine z_iconst (v := 1) h dX3_close_58 (by decide) ?_
      refine z_iadd h dX3_close_59 ?_
      rw [nI_1]
      refine z_putI h (by assumption) rfl kw3 2 (by decide) rfl rfl rfl rfl kf_RX3_20 dX3_close_60 ?_
      exact ret dX3_close_63
  · exact absurd (nI_lt hk (by decide)) c6

set_option maxHeartbeats 4000000 in
set_option maxRecDepth 100000 in
theorem c_X3_ask (l : Launch) {E : zE} {S : zS} {I : Nat → Nat → Int32} {J : Nat → Nat → Int64} {R : Nat → Nat → Option Nat} {st pa ak : Nat} {rw : Nat → Nat} (hY : SY S R st pa ak rw) {a b c d : Int32} : zNP l yX3_ask wsX3_ask rmX3_ask E S [.ref st, .int a, .int b, .int c, .int d] (I, J, R) (fun ν => ∃ I', ν = (I', J, R) ∧ fr [ak, st] I I' ∧ I' ak 0 = a ∧ I' ak 1 = b ∧ I' ak 2 = c ∧ I' ak 3 = d ∧ I' ak 4 = (if a = 2 then 0 else I st 3) ∧ I' st 5 = 1 ∧ ∀ i, i ≠ 5 → I' st i = I st i) := by
  refine z_metNP (cc := cX3_ask) (maxL := 5) (by decide) rfl (Nat.le_of_ble_eq_true rfl) (fun X h ret => ?_)
  show zV X E S 0 0 (I, J, R) 0 _ []
  obtain ⟨y1, y2, y3, y4, y5, y6, y7, y8⟩ := id hY
  have n2 := hY.n2
  refine z_aload_n h dX3_ask_0 rfl rfl ?_
  refine z_getR h (by assumption) rfl kw3 1 (by decide) rfl (by assumption) kf_RX3_16 dX3_ask_1 ?_
  refine z_iconst (v := 0) h dX3_ask_4 (by decide) ?_
  refine z_iload_n h dX3_ask_5 rfl rfl ?_
  refine z_iast h (by assumption) (zix_c 0 rfl (by decide) (by decide)) dX3_ask_6 ?_
  refine z_aload_n h dX3_ask_7 rfl rfl ?_
  refine z_getR h (by assumption) rfl kw3 1 (by decide) rfl (by assumption) kf_RX3_16 dX3_ask_8 ?_
  refine z_iconst (v := 1) h dX3_ask_11 (by decide) ?_
  refine z_iload_n h dX3_ask_12 rfl rfl ?_
  refine z_iast h (by assumption) (zix_c 1 rfl (by decide) (by decide)) dX3_ask_13 ?_
  refine z_aload_n h dX3_ask_14 rfl rfl ?_
  refine z_getR h (by assumption) rfl kw3 1 (by decide) rfl (by assumption) kf_RX3_16 dX3_ask_15 ?_
  refine z_iconst (v := 2) h dX3_ask_18 (by decide) ?_
  refine z_iload_n h dX3_ask_19 rfl rfl ?_
  refine z_iast h (by assumption) (zix_c 2 rfl (by decide) (by decide)) dX3_ask_20 ?_
  refine z_aload_n h dX3_ask_21 rfl rfl ?_
  refine z_getR h (by assumption) rfl kw3 1 (by decide) rfl (by assumption) kf_RX3_16 dX3_ask_22 ?_
  refine z_iconst (v := 3) h dX3_ask_25 (by decide) ?_
  refine z_iload h dX3_ask_26 rfl ?_
  refine z_iast h (by assumption) (zix_c 3 rfl (by decide) (by decide)) dX3_ask_28 ?_
  refine z_aload_n h dX3_ask_29 rfl rfl ?_
  refine z_getR h (by assumption) rfl kw3 1 (by decide) rfl (by assumption) kf_RX3_16 dX3_ask_30 ?_
  refine z_iconst (v := 4) h dX3_ask_33 (by decide) ?_
  refine z_iload_n h dX3_ask_34 rfl rfl ?_
  refine z_iconst (v := 2) h dX3_ask_35 (by decide) ?_
  refine z_icmp_ne h 43 dX3_ask_36 (by decide) (fun c36 => ?_) (fun c36 => ?_)
  · refine z_aload_n h dX3_ask_43 rfl rfl ?_
    refine z_getI h (by assumption) rfl kw3 3 (by decide) rfl kf_RX3_24 dX3_ask_44 ?_
    refine z_iast h (by assumption) (zix_c 4 rfl (by decide) (by decide)) dX3_ask_47 ?_
    refine z_aload_n h dX3_ask_48 rfl rfl ?_
    refine z_iconst (v := 1) h dX3_ask_49 (by decide) ?_
    refine z_putI h (by assumption) rfl kw3 5 (by decide) rfl rfl (by decide) (by decide) kf_RX3_30 dX3_ask_50 ?_
    refine ret ⟨_, rfl, fr_zu (fr_zu (fr_zu (fr_zu (fr_zu (fr_zu fr_rf (by simp)) (by simp)) (by simp)) (by simp)) (by simp)) (by simp), ?_, ?_, ?_, ?_, ?_, zu_s, fun i hi => ?_⟩ dX3_ask_53
    · rw [zu_k (by decide), zu_k (by decide), zu_k (by decide), zu_k (by decide), zu_k (by decide)]; exact zu_s
    · rw [zu_k (by decide), zu_k (by decide), zu_k (by decide), zu_k (by decide)]; exact zu_s
    · rw [zu_k (by decide), zu_k (by decide), zu_k (by decide)]; exact zu_s
    · rw [zu_k (by decide), zu_k (by decide)]; exact zu_s
    · rw [zu_k (by decide), zu_s, if_neg c36, zu_a n2, zu_a n2, zu_a n2, zu_a n2]
    · rw [zu_k hi, zu_a n2, zu_a n2, zu_a n2, zu_a n2, zu_a n2]
  · refine z_iconst (v := 0) h dX3_ask_39 (by decide) ?_
    refine z_goto h 47 dX3_ask_40 (by decide) ?_
    refine z_iast h (by assumption) (zix_c 4 rfl (by decide) (by decide)) dX3_ask_47 ?_
    refine z_aload_n h dX3_ask_48 rfl rfl ?_
    refine z_iconst (v := 1) h dX3_ask_49 (by decide) ?_
    refine z_putI h (by assumption) rfl kw3 5 (by decide) rfl rfl (by decide) (by decide) kf_RX3_30 dX3_ask_50 ?_
    refine ret ⟨_, rfl, fr_zu (fr_zu (fr_zu (fr_zu (fr_zu (fr_zu fr_rf (by simp)) (by simp)) (by simp)) (by simp)) (by simp)) (by simp), ?_, ?_, ?_, ?_, ?_, zu_s, fun i hi => ?_⟩ dX3_ask_53
    · rw [zu_k (by decide), zu_k (by decide), zu_k (by decide), zu_k (by decide), zu_k (by decide)]; exact zu_s
    · rw [zu_k (by decide), zu_k (by decide), zu_k (by decide), zu_k (by decide)]; exact zu_s
    · rw [zu_k (by decide), zu_k (by decide), zu_k (by decide)]; exact zu_s
    · rw [zu_k (by decide), zu_k (by decide)]; exact zu_s
    · rw [zu_k (by decide), zu_s, if_pos c36]
    · rw [zu_k hi, zu_a n2, zu_a n2, zu_a n2, zu_a n2, zu_a n2]

set_option maxHeartbeats 4000000 in
set_option maxRecDepth 100000 in
theorem c_X3_has (l : Launch) {E : zE} {S : zS} {I : Nat → Nat → Int32} {J : Nat → Nat → Int64} {R : Nat → Nat → Option Nat} {st k : Nat} {x : Int32} (y1 : zO S st 3) (hn : I st 2 = nI k) (hk : k ≤ 10) : zI l yX3_has wsX3_has rmX3_has E S [.ref st, .int x] (I, J, R) (b2i (decide (0 ≤ x ∧ x < nI k))) (I, J, R) := by
  refine z_metI (cc := cX3_has) (maxL := 2) (ty := .boolean) (by decide) rfl (Nat.le_of_ble_eq_true rfl) (fun X h ret => ?_)
  show zV X E S 0 0 (I, J, R) 0 _ []
  have hf : (x < 0 ∨ ¬ x < nI k) → b2i (decide (0 ≤ x ∧ x < nI k)) = 0 := fun q => b2i_f (by
    rw [decide_eq_false_iff_not]
    rintro ⟨q1, q2⟩
    rcases q with q | q
    · exact absurd q (Int32.not_lt.mpr q1)
    · exact q q2)
  refine z_iload_n h dX3_has_0 rfl rfl ?_
  refine z_if_lt h 25 dX3_has_1 (by decide) (fun c1 => ?_) (fun c1 => ?_)
  · rw [hf (Or.inl c1)] at ret
    refine z_iconst (v := 0) h dX3_has_25 (by decide) ?_
    exact ret dX3_has_26 rfl
  · refine z_iload_n h dX3_has_4 rfl rfl ?_
    refine z_aload_n h dX3_has_5 rfl rfl ?_
    refine z_getI h (by assumption) rfl kw3 2 (by decide) rfl kf_RX3_20 dX3_has_6 ?_
    rw [hn]
    refine z_icmp_ge h 25 dX3_has_9 (by decide) (fun c9 => ?_) (fun c9 => ?_)
    · rw [hf (Or.inr (Int32.not_lt.mpr c9))] at ret
      refine z_iconst (v := 0) h dX3_has_25 (by decide) ?_
      exact ret dX3_has_26 rfl
    · refine z_aload_n h dX3_has_12 rfl rfl ?_
      refine z_getI h (by assumption) rfl kw3 2 (by decide) rfl kf_RX3_20 dX3_has_13 ?_
      rw [hn]
      refine z_bipush (v := 10) h dX3_has_16 (by decide) ?_
      rw [show (10 : Int32) = nI 10 from rfl]
      refine z_icmp_gt h 25 dX3_has_18 (by decide) (fun c18 => ?_) (fun c18 => ?_)
      · exact absurd (nlt (by decide) (by omega) c18) (by omega)
      · rw [b2i_t (b := decide (0 ≤ x ∧ x < nI k)) (decide_eq_true ⟨Int32.not_lt.mp c1, Int32.not_le.mp c9⟩)] at ret
        refine z_iconst (v := 1) h dX3_has_21 (by decide) ?_
        refine z_goto h 26 dX3_has_22 (by decide) ?_
        exact ret dX3_has_26 rfl

set_option maxHeartbeats 4000000 in
set_option maxRecDepth 100000 in
theorem c_X3_part (l : Launch) {E : zE} {S : zS} {I : Nat → Nat → Int32} {J : Nat → Nat → Int64} {R : Nat → Nat → Option Nat} {st pa ak : Nat} {rw : Nat → Nat} (hY : SY S R st pa ak rw) {k : Nat} {x w : Int32} (hn : I st 2 = nI k) (hk : k ≤ 10) : zI l yX3_part wsX3_part rmX3_part E S [.ref st, .int x, .int w] (I, J, R) (if 0 ≤ x ∧ x < nI k ∧ 0 ≤ w ∧ w < 7 then I (rw x.toNatClampNeg) w.toNatClampNeg else -1) (I, J, R) := by
  refine z_metI (cc := cX3_part) (maxL := 3) (ty := .int) (by decide) rfl (Nat.le_of_ble_eq_true rfl) (fun X h ret => ?_)
  show zV X E S 0 0 (I, J, R) 0 _ []
  obtain ⟨y1, y2, y3, y4, y5, y6, y7, y8⟩ := id hY
  refine z_aload_n h dX3_part_0 rfl rfl ?_
  refine z_iload_n h dX3_part_1 rfl rfl ?_
  refine z_callVI h (c_X3_has l y1 hn hk) (by assumption) rfl gm_RX3_38 rfl ⟨rfl, rfl⟩ 1 (by decide +kernel) ⟨by decide, by decide⟩ rfl rfl (Nat.le_of_ble_eq_true rfl) ⟨Nat.zero_le _, Nat.zero_le _⟩ dX3_part_2 ?_
  refine z_if_eq h 29 dX3_part_5 (by decide) (fun c5 => ?_) (fun c5 => ?_)
  · have hx : (if 0 ≤ x ∧ x < nI k ∧ 0 ≤ w ∧ w < 7 then I (rw x.toNatClampNeg) w.toNatClampNeg else -1) = -1 := if_neg (fun q => of_decide_eq_false (b2i_0.mp c5) ⟨q.1, q.2.1⟩)
    rw [hx] at ret
    refine z_iconst (v := -1) h dX3_part_29 (by decide) ?_
    exact ret dX3_part_30 rfl
  · have c5 := of_decide_eq_true (b2i_n0.mp c5)
    refine z_iload_n h dX3_part_8 rfl rfl ?_
    refine z_if_lt h 29 dX3_part_9 (by decide) (fun c9 => ?_) (fun c9 => ?_)
    · have hx : (if 0 ≤ x ∧ x < nI k ∧ 0 ≤ w ∧ w < 7 then I (rw x.toNatClampNeg) w.toNatClampNeg else -1) = -1 := if_neg (fun q => absurd c9 (Int32.not_lt.mpr q.2.2.1))
      rw [hx] at ret
      refine z_iconst (v := -1) h dX3_part_29 (by decide) ?_
      exact ret dX3_part_30 rfl
    · refine z_iload_n h dX3_part_12 rfl rfl ?_
      refine z_bipush (v := 7) h dX3_part_13 (by decide) ?_
      refine z_icmp_ge h 29 dX3_part_15 (by decide) (fun c15 => ?_) (fun c15 => ?_)
      · have hx : (if 0 ≤ x ∧ x < nI k ∧ 0 ≤ w ∧ w < 7 then I (rw x.toNatClampNeg) w.toNatClampNeg else -1) = -1 := if_neg (fun q => absurd q.2.2.2 (Int32.not_lt.mpr c15))
        rw [hx] at ret
        refine z_iconst (v := -1) h dX3_part_29 (by decide) ?_
        exact ret dX3_part_30 rfl
      · rw [if_pos ⟨c5.1, c5.2, Int32.not_lt.mp c9, Int32.not_le.mp c15⟩] at ret
        obtain ⟨i, hi, rfl⟩ := nI_of (Int32.not_lt.mpr c5.1)
        obtain ⟨j, hj, rfl⟩ := nI_of c9
        have hi2 := nlt hi (by omega) c5.2
        have hj2 := nlt hj (by decide) (show nI j < nI 7 from Int32.not_le.mp c15)
        rw [nI_clamp hi, nI_clamp hj] at ret
        obtain ⟨r1, r2⟩ := y6 i (by omega)
        refine z_aload_n h dX3_part_18 rfl rfl ?_
        refine z_getR h (by assumption) rfl kw3 0 (by decide) rfl (by assumption) kf_RX3_11 dX3_part_19 ?_
        refine z_iload_n h dX3_part_22 rfl rfl ?_
        refine z_aaldI h (by assumption) (zix_nI (by omega) (by decide)) (r1) dX3_part_23 ?_
        refine z_iload_n h dX3_part_24 rfl rfl ?_
        refine z_iald h (by assumption) (zix_nI hj2 (by decide)) dX3_part_25 ?_
        refine z_goto h 30 dX3_part_26 (by decide) ?_
        exact ret dX3_part_30 rfl

set_option maxHeartbeats 4000000 in
set_option maxRecDepth 100000 in
theorem c_X3_asked (l : Launch) {E : zE} {S : zS} {I : Nat → Nat → Int32} {J : Nat → Nat → Int64} {R : Nat → Nat → Option Nat} {st pa ak : Nat} {rw : Nat → Nat} (hY : SY S R st pa ak rw) {w : Int32} : zI l yX3_asked wsX3_asked rmX3_asked E S [.ref st, .int w] (I, J, R) (if I st 5 ≠ 0 ∧ 0 ≤ w ∧ w < 5 then I ak w.toNatClampNeg else -1) (I, J, R) := by
  refine z_metI (cc := cX3_asked) (maxL := 2) (ty := .int) (by decide) rfl (Nat.le_of_ble_eq_true rfl) (fun X h ret => ?_)
  show zV X E S 0 0 (I, J, R) 0 _ []
  obtain ⟨y1, y2, y3, y4, y5, y6, y7, y8⟩ := id hY
  refine z_aload_n h dX3_asked_0 rfl rfl ?_
  refine z_getI h (by assumption) rfl kw3 5 (by decide) rfl kf_RX3_30 dX3_asked_1 ?_
  refine z_if_eq h 25 dX3_asked_4 (by decide) (fun c4 => ?_) (fun c4 => ?_)
  · rw [if_neg (fun q => q.1 c4)] at ret
    refine z_iconst (v := -1) h dX3_asked_25 (by decide) ?_
    exact ret dX3_asked_26 rfl
  · refine z_iload_n h dX3_asked_7 rfl rfl ?_
    refine z_if_lt h 25 dX3_asked_8 (by decide) (fun c8 => ?_) (fun c8 => ?_)
    · rw [if_neg (fun q => absurd c8 (Int32.not_lt.mpr q.2.1))] at ret
      refine z_iconst (v := -1) h dX3_asked_25 (by decide) ?_
      exact ret dX3_asked_26 rfl
    · refine z_iload_n h dX3_asked_11 rfl rfl ?_
      refine z_iconst (v := 5) h dX3_asked_12 (by decide) ?_
      refine z_icmp_ge h 25 dX3_asked_13 (by decide) (fun c13 => ?_) (fun c13 => ?_)
      · rw [if_neg (fun q => absurd q.2.2 (Int32.not_lt.mpr c13))] at ret
        refine z_iconst (v := -1) h dX3_asked_25 (by decide) ?_
        exact ret dX3_asked_26 rfl
      · rw [if_pos ⟨c4, Int32.not_lt.mp c8, Int32.not_le.mp c13⟩] at ret
        obtain ⟨j, hj, rfl⟩ := nI_of c8
        have hj2 := nlt hj (by decide) (show nI j < nI 5 from Int32.not_le.mp c13)
        rw [nI_clamp hj] at ret
        refine z_aload_n h dX3_asked_16 rfl rfl ?_
        refine z_getR h (by assumption) rfl kw3 1 (by decide) rfl (by assumption) kf_RX3_16 dX3_asked_17 ?_
        refine z_iload_n h dX3_asked_20 rfl rfl ?_
        refine z_iald h (by assumption) (zix_nI hj2 (by decide)) dX3_asked_21 ?_
        refine z_goto h 26 dX3_asked_22 (by decide) ?_
        exact ret dX3_asked_26 rfl

set_option maxHeartbeats 4000000 in
set_option maxRecDepth 100000 in
theorem c_X3_setNumber (l : Launch) {E : zE} {S : zS} {I : Nat → Nat → Int32} {J : Nat → Nat → Int64} {R : Nat → Nat → Option Nat} {st pa ak : Nat} {rw : Nat → Nat} (hY : SY S R st pa ak rw) {k : Nat} {x v : Int32} (hn : I st 2 = nI k) (hk : k ≤ 10) : zN l yX3_setNumber wsX3_setNumber rmX3_setNumber E S [.ref st, .int x, .int v] (I, J, R) (if 0 ≤ x ∧ x < nI k then zu I (rw x.toNatClampNeg) 4 v else I, J, R) := by
  refine z_metN (cc := cX3_setNumber) (maxL := 3) (by decide) rfl (Nat.le_of_ble_eq_true rfl) (fun X h ret => ?_)
  show zV X E S 0 0 (I, J, R) 0 _ []
  obtain ⟨y1, y2, y3, y4, y5, y6, y7, y8⟩ := id hY
  refine z_aload_n h dX3_setNumber_0 rfl rfl ?_
  refine z_iload_n h dX3_setNumber_1 rfl rfl ?_
  refine z_callVI h (c_X3_has l y1 hn hk) (by assumption) rfl gm_RX3_38 rfl ⟨rfl, rfl⟩ 1 (by decide +kernel) ⟨by decide, by decide⟩ rfl rfl (Nat.le_of_ble_eq_true rfl) ⟨Nat.zero_le _, Nat.zero_le _⟩ dX3_setNumber_2 ?_
  refine z_if_eq h 17 dX3_setNumber_5 (by decide) (fun c5 => ?_) (fun c5 => ?_)
  · rw [if_neg (of_decide_eq_false (b2i_0.mp c5))] at ret
    exact ret dX3_setNumber_17
  · have c5 := of_decide_eq_true (b2i_n0.mp c5)
    rw [if_pos c5] at ret
    obtain ⟨i, hi, rfl⟩ := nI_of (Int32.not_lt.mpr c5.1)
    have hi2 := nlt hi (by omega) c5.2
    rw [nI_clamp hi] at ret
    obtain ⟨r1, r2⟩ := y6 i (by omega)
    refine z_aload_n h dX3_setNumber_8 rfl rfl ?_
    refine z_getR h (by assumption) rfl kw3 0 (by decide) rfl (by assumption) kf_RX3_11 dX3_setNumber_9 ?_
    refine z_iload_n h dX3_setNumber_12 rfl rfl ?_
    refine z_aaldI h (by assumption) (zix_nI (by omega) (by decide)) (r1) dX3_setNumber_13 ?_
    refine z_iconst (v := 4) h dX3_setNumber_14 (by decide) ?_
    refine z_iload_n h dX3_setNumber_15 rfl rfl ?_
    refine z_iast h (by assumption) (zix_c 4 rfl (by decide) (by decide)) dX3_setNumber_16 ?_
    exact ret dX3_setNumber_17

set_option maxHeartbeats 4000000 in
set_option maxRecDepth 100000 in
theorem c_X3_allows (l : Launch) {E : zE} {S : zS} {I : Nat → Nat → Int32} {J : Nat → Nat → Int64} {R : Nat → Nat → Option Nat} {st pa ak : Nat} {rw : Nat → Nat} (hY : SY S R st pa ak rw) {k : Nat} {x v : Int32} (hn : I st 2 = nI k) (hk : k ≤ 10) : zI l yX3_allows wsX3_allows rmX3_allows E S [.ref st, .int x, .int v] (I, J, R) (b2i (if (if 0 ≤ x ∧ x < nI k ∧ (0 : Int32) ≤ 0 ∧ (0 : Int32) < 7 then I (rw x.toNatClampNeg) (0 : Int32).toNatClampNeg else -1) = 3 then decide (2 ≤ v ∧ v ≤ 9) else decide ((0 ≤ x ∧ x < nI k) ∧ 0 ≤ v ∧ v ≤ 999))) (I, J, R) := by
  refine z_metI (cc := cX3_allows) (maxL := 3) (ty := .boolean) (by decide) rfl (Nat.le_of_ble_eq_true rfl) (fun X h ret => ?_)
  show zV X E S 0 0 (I, J, R) 0 _ []
  obtain ⟨y1, y2, y3, y4, y5, y6, y7, y8⟩ := id hY
  obtain ⟨so, hso⟩ : ∃ so, so = (if 0 ≤ x ∧ x < nI k ∧ (0 : Int32) ≤ 0 ∧ (0 : Int32) < 7 then I (rw x.toNatClampNeg) (0 : Int32).toNatClampNeg else -1) := ⟨_, rfl⟩
  refine z_aload_n h dX3_allows_0 rfl rfl ?_
  refine z_iload_n h dX3_allows_1 rfl rfl ?_
  refine z_iconst (v := 0) h dX3_allows_2 (by decide) ?_
  refine z_callVI h (c_X3_part l hY hn hk) (by assumption) rfl gm_RX3_42 rfl ⟨rfl, rfl⟩ 2 (by decide +kernel) ⟨by decide, by decide⟩ rfl rfl (Nat.le_of_ble_eq_true rfl) ⟨Nat.zero_le _, Nat.zero_le _⟩ dX3_allows_3 ?_
  rw [← hso]
  rw [← hso] at ret
  refine z_iconst (v := 3) h dX3_allows_6 (by decide) ?_
  refine z_icmp_ne h 27 dX3_allows_7 (by decide) (fun c7 => ?_) (fun c7 => ?_)
  · rw [if_neg c7] at ret
    refine z_aload_n h dX3_allows_27 rfl rfl ?_
    refine z_iload_n h dX3_allows_28 rfl rfl ?_
    refine z_callVI h (c_X3_has l y1 hn hk) (by assumption) rfl gm_RX3_38 rfl ⟨rfl, rfl⟩ 1 (by decide +kernel) ⟨by decide, by decide⟩ rfl rfl (Nat.le_of_ble_eq_true rfl) ⟨Nat.zero_le _, Nat.zero_le _⟩ dX3_allows_29 ?_
    refine z_if_eq h 50 dX3_allows_32 (by decide) (fun c32 => ?_) (fun c32 => ?_)
    · rw [b2i_f (show _ = false from decide_eq_false (fun q => of_decide_eq_false (b2i_0.mp c32) q.1))] at ret
      refine z_iconst (v := 0) h dX3_allows_50 (by decide) ?_
      exact ret dX3_allows_51 rfl
    · refine z_iload_n h dX3_allows_35 rfl rfl ?_
      refine z_if_lt h 50 dX3_allows_36 (by decide) (fun c36 => ?_) (fun c36 => ?_)
      · rw [b2i_f (show _ = false from decide_eq_false (fun q => absurd c36 (Int32.not_lt.mpr q.2.1)))] at ret
        refine z_iconst (v := 0) h dX3_allows_50 (by decide) ?_
        exact ret dX3_allows_51 rfl
      · refine z_iload_n h dX3_allows_39 rfl rfl ?_
        refine z_sipush (v := 999) h dX3_allows_40 (by decide) ?_
        refine z_icmp_gt h 50 dX3_allows_43 (by decide) (fun c43 => ?_) (fun c43 => ?_)
        · rw [b2i_f (show _ = false from decide_eq_false (fun q => absurd c43 (Int32.not_lt.mpr q.2.2)))] at ret
          refine z_iconst (v := 0) h dX3_allows_50 (by decide) ?_
          exact ret dX3_allows_51 rfl
        · rw [b2i_t (show _ = true from decide_eq_true ⟨of_decide_eq_true (b2i_n0.mp c32), Int32.not_lt.mp c36, Int32.not_lt.mp c43⟩)] at ret
          refine z_iconst (v := 1) h dX3_allows_46 (by decide) ?_
          refine z_goto h 51 dX3_allows_47 (by decide) ?_
          exact ret dX3_allows_51 rfl
  · rw [if_pos c7] at ret
    refine z_iload_n h dX3_allows_10 rfl rfl ?_
    refine z_iconst (v := 2) h dX3_allows_11 (by decide) ?_
    refine z_icmp_lt h 25 dX3_allows_12 (by decide) (fun c12 => ?_) (fun c12 => ?_)
    · rw [b2i_f (show _ = false from decide_eq_false (fun q => absurd c12 (Int32.not_lt.mpr q.1)))] at ret
      refine z_iconst (v := 0) h dX3_allows_25 (by decide) ?_
      exact ret dX3_allows_26 rfl
    · refine z_iload_n h dX3_allows_15 rfl rfl ?_
      refine z_bipush (v := 9) h dX3_allows_16 (by decide) ?_
      refine z_icmp_gt h 25 dX3_allows_18 (by decide) (fun c18 => ?_) (fun c18 => ?_)
      · rw [b2i_f (show _ = false from decide_eq_false (fun q => absurd c18 (Int32.not_lt.mpr q.2)))] at ret
        refine z_iconst (v := 0) h dX3_allows_25 (by decide) ?_
        exact ret dX3_allows_26 rfl
      · rw [b2i_t (show _ = true from decide_eq_true ⟨Int32.not_lt.mp c12, Int32.not_lt.mp c18⟩)] at ret
        refine z_iconst (v := 1) h dX3_allows_21 (by decide) ?_
        refine z_goto h 26 dX3_allows_22 (by decide) ?_
        exact ret dX3_allows_26 rfl

set_option maxHeartbeats 4000000 in
set_option maxRecDepth 100000 in
theorem c_X3_gainBy (l : Launch) {E : zE} {S : zS} {I : Nat → Nat → Int32} {J : Nat → Nat → Int64} {R : Nat → Nat → Option Nat} {a : Nat} {nm : Int32} (ha : zA S a 9 7) : zI l yX3_gainBy wsX3_gainBy rmX3_gainBy E S [.ref a, .int nm] (I, J, R) (gby (I a) nm) (I, J, R) := by
  refine z_metI (cc := cX3_gainBy) (maxL := 4) (ty := .int) (by decide) rfl (Nat.le_of_ble_eq_true rfl) (fun X h ret => ?_)
  show zV X E S 0 0 (I, J, R) 0 _ []
  have J16 : zV X E S 0 0 (I, J, R) 16 [(0, .ref a), (1, .int nm), (2, .int (I a 4))] [.int (b2i (decide (I a 1 = nm)))] := by
    refine z_istore_n h dX3_gainBy_16 rfl (by decide) ?_
    refine z_aload_n h dX3_gainBy_17 rfl rfl ?_
    refine z_iconst (v := 0) h dX3_gainBy_18 (by decide) ?_
    refine z_iald h (by assumption) (zix_c 0 rfl (by decide) (by decide)) dX3_gainBy_19 ?_
    by_cases s5 : I a 0 = 5
    · have e : gby (I a) nm = (if I a 1 = nm then -(I a 4) else if I a 2 = nm then I a 4 else 0) := if_pos s5
      rw [e] at ret
      rw [s5]
      refine z_tswI h 48 dX3_gainBy_20 (by decide) (by decide) (off := 28) (by decide) (by decide) ?_
      refine z_iload_n h dX3_gainBy_48 rfl rfl ?_
      refine z_if_eq h 55 dX3_gainBy_49 (by decide) (fun c49 => ?_) (fun c49 => ?_)
      · have c49 := of_decide_eq_false (b2i_0.mp c49)
        rw [if_neg c49] at ret
        refine z_aload_n h dX3_gainBy_55 rfl rfl ?_
        refine z_iconst (v := 2) h dX3_gainBy_56 (by decide) ?_
        refine z_iald h ha (zix_c 2 rfl (by decide) (by decide)) dX3_gainBy_57 ?_
        refine z_iload_n h dX3_gainBy_58 rfl rfl ?_
        refine z_icmp_ne h 66 dX3_gainBy_59 (by decide) (fun c59 => ?_) (fun c59 => ?_)
        · rw [if_neg c59] at ret
          refine z_iconst (v := 0) h dX3_gainBy_66 (by decide) ?_
          exact ret dX3_gainBy_67 rfl
        · rw [if_pos c59] at ret
          refine z_iload_n h dX3_gainBy_62 rfl rfl ?_
          refine z_goto h 67 dX3_gainBy_63 (by decide) ?_
          exact ret dX3_gainBy_67 rfl
      · have c49 := of_decide_eq_true (b2i_n0.mp c49)
        rw [if_pos c49] at ret
        refine z_iload_n h dX3_gainBy_52 rfl rfl ?_
        refine z_ineg h dX3_gainBy_53 ?_
        exact ret dX3_gainBy_54 rfl
    · by_cases s6 : I a 0 = 6
      · have e : gby (I a) nm = (if I a 1 = nm then I a 4 else 0) := by unfold gby; rw [if_neg s5, if_pos s6]
        rw [e] at ret
        rw [s6]
        refine z_tswI h 68 dX3_gainBy_20 (by decide) (by decide) (off := 48) (by decide) (by decide) ?_
        refine z_iload_n h dX3_gainBy_68 rfl rfl ?_
        refine z_if_eq h 76 dX3_gainBy_69 (by decide) (fun c69 => ?_) (fun c69 => ?_)
        · rw [if_neg (of_decide_eq_false (b2i_0.mp c69))] at ret
          refine z_iconst (v := 0) h dX3_gainBy_76 (by decide) ?_
          exact ret dX3_gainBy_77 rfl
        · rw [if_pos (of_decide_eq_true (b2i_n0.mp c69))] at ret
          refine z_iload_n h dX3_gainBy_72 rfl rfl ?_
          refine z_goto h 77 dX3_gainBy_73 (by decide) ?_
          exact ret dX3_gainBy_77 rfl
      · by_cases s7 : I a 0 = 7
        · have e : gby (I a) nm = (if I a 1 = nm then -(I a 4) else 0) := by unfold gby; rw [if_neg s5, if_neg s6, if_pos s7]
          rw [e] at ret
          rw [s7]
          refine z_tswI h 78 dX3_gainBy_20 (by decide) (by decide) (off := 58) (by decide) (by decide) ?_
          refine z_iload_n h dX3_gainBy_78 rfl rfl ?_
          refine z_if_eq h 87 dX3_gainBy_79 (by decide) (fun c79 => ?_) (fun c79 => ?_)
          · rw [if_neg (of_decide_eq_false (b2i_0.mp c79))] at ret
            refine z_iconst (v := 0) h dX3_gainBy_87 (by decide) ?_
            exact ret dX3_gainBy_88 rfl
          · rw [if_pos (of_decide_eq_true (b2i_n0.mp c79))] at ret
            refine z_iload_n h dX3_gainBy_82 rfl rfl ?_
            refine z_ineg h dX3_gainBy_83 ?_
            refine z_goto h 88 dX3_gainBy_84 (by decide) ?_
            exact ret dX3_gainBy_88 rfl
        · have e : gby (I a) nm = 0 := by unfold gby; rw [if_neg s5, if_neg s6, if_neg s7]
          rw [e] at ret
          refine z_tswO h 89 dX3_gainBy_20 ?_ (by decide) ?_
          · have q5 : (I a 0).toInt ≠ 5 := fun q => s5 (Int32.toInt_inj.mp q)
            have q6 : (I a 0).toInt ≠ 6 := fun q => s6 (Int32.toInt_inj.mp q)
            have q7 : (I a 0).toInt ≠ 7 := fun q => s7 (Int32.toInt_inj.mp q)
            show (I a 0).toInt < 5 ∨ 7 < (I a 0).toInt
            generalize (I a 0).toInt = w at q5 q6 q7 ⊢
            omega
          · refine z_iconst (v := 0) h dX3_gainBy_89 (by decide) ?_
            exact ret dX3_gainBy_90 rfl
  refine z_aload_n h dX3_gainBy_0 rfl rfl ?_
  refine z_iconst (v := 4) h dX3_gainBy_1 (by decide) ?_
  refine z_iald h (by assumption) (zix_c 4 rfl (by decide) (by decide)) dX3_gainBy_2 ?_
  refine z_istore_n h dX3_gainBy_3 rfl (by decide) ?_
  refine z_aload_n h dX3_gainBy_4 rfl rfl ?_
  refine z_iconst (v := 1) h dX3_gainBy_5 (by decide) ?_
  refine z_iald h (by assumption) (zix_c 1 rfl (by decide) (by decide)) dX3_gainBy_6 ?_
  refine z_iload_n h dX3_gainBy_7 rfl rfl ?_
  refine z_icmp_ne h 15 dX3_gainBy_8 (by decide) (fun c8 => ?_) (fun c8 => ?_)
  · rw [b2i_f (decide_eq_false c8)] at J16
    refine z_iconst (v := 0) h dX3_gainBy_15 (by decide) ?_
    exact z_lk J16 ⟨rfl, rfl, rfl, trivial⟩
  · rw [b2i_t (decide_eq_true c8)] at J16
    refine z_iconst (v := 1) h dX3_gainBy_11 (by decide) ?_
    refine z_goto h 16 dX3_gainBy_12 (by decide) ?_
    exact z_lk J16 ⟨rfl, rfl, rfl, trivial⟩

set_option maxHeartbeats 4000000 in
set_option maxRecDepth 100000 in
theorem c_X3_gain (l : Launch) {E : zE} {S : zS} {I : Nat → Nat → Int32} {J : Nat → Nat → Int64} {R : Nat → Nat → Option Nat} {st pa ak : Nat} {rw : Nat → Nat} (hY : SY S R st pa ak rw) {k : Nat} {nm un sg : Int32} (hn : I st 2 = nI k) (hk : k ≤ 10) : zL l yX3_gain wsX3_gain rmX3_gain E S [.ref st, .int nm, .int un, .int sg] (I, J, R) (gnC (fun i => I (rw i)) nm un sg k) (I, J, R) := by
  refine z_metL (cc := cX3_gain) (maxL := 8) (by decide) rfl (Nat.le_of_ble_eq_true rfl) (fun X h ret => ?_)
  show zV X E S 0 0 (I, J, R) 0 _ []
  obtain ⟨y1, y2, y3, y4, y5, y6, y7, y8⟩ := id hY
  have L6 : ∀ (d i : Nat), i + d = k → zV X E S 0 0 (I, J, R) 6 [(0, .ref st), (1, .int nm), (2, .int un), (3, .int sg), (4, .long (gnC (fun i => I (rw i)) nm un sg i)), (6, .int (nI i))] [] := by
    intro d
    induction d with
    | zero =>
      intro i hi
      have hik : i = k := by omega
      subst hik
      refine z_iload h dX3_gain_6 rfl ?_
      refine z_aload_n h dX3_gain_8 rfl rfl ?_
      refine z_getI h (by assumption) rfl kw3 2 (by decide) rfl kf_RX3_20 dX3_gain_9 ?_
      rw [hn]
      refine z_icmp_ge h 65 dX3_gain_12 (by decide) (fun c12 => ?_) (fun c12 => ?_)
      · refine z_lload h dX3_gain_65 rfl ?_
        exact ret dX3_gain_67
      · exact absurd (nI_le (by omega) (by omega)) c12
    | succ d ih =>
      intro i hi
      obtain ⟨r1, r2⟩ := y6 i (by omega)
      refine z_iload h dX3_gain_6 rfl ?_
      refine z_aload_n h dX3_gain_8 rfl rfl ?_
      refine z_getI h (by assumption) rfl kw3 2 (by decide) rfl kf_RX3_20 dX3_gain_9 ?_
      rw [hn]
      refine z_icmp_ge h 65 dX3_gain_12 (by decide) (fun c12 => ?_) (fun c12 => ?_)
      · exact absurd (nle (by omega) (by omega) c12) (by omega)
      · refine z_iload h dX3_gain_15 rfl ?_
        refine z_bipush (v := 10) h dX3_gain_17 (by decide) ?_
        rw [show (10 : Int32) = nI 10 from rfl]
        refine z_icmp_ge h 65 dX3_gain_19 (by decide) (fun c19 => ?_) (fun c19 => ?_)
        · exact absurd (nle (by decide) (by omega) c19) (by omega)
        · refine z_aload_n h dX3_gain_22 rfl rfl ?_
          refine z_getR h (by assumption) rfl kw3 0 (by decide) rfl (by assumption) kf_RX3_11 dX3_gain_23 ?_
          refine z_iload h dX3_gain_26 rfl ?_
          refine z_aaldI h (by assumption) (zix_nI (by omega) (by decide)) (r1) dX3_gain_28 ?_
          refine z_astore h dX3_gain_29 (by decide) ?_
          refine z_aload h dX3_gain_31 rfl ?_
          refine z_iconst (v := 3) h dX3_gain_33 (by decide) ?_
          refine z_iald h (by assumption) (zix_c 3 rfl (by decide) (by decide)) dX3_gain_34 ?_
          refine z_iload_n h dX3_gain_35 rfl rfl ?_
          refine z_icmp_ne h 59 dX3_gain_36 (by decide) (fun c36 => ?_) (fun c36 => ?_)
          · refine z_iinc h dX3_gain_59 rfl (nI_1 i) (by decide) ?_
            refine z_goto h 6 dX3_gain_62 (by decide) ?_
            have ih2 := ih (i + 1) (by omega)
            rw [show gnC (fun i => I (rw i)) nm un sg (i + 1) = gnC (fun i => I (rw i)) nm un sg i from if_neg (fun q => c36 q.1)] at ih2
            exact z_lk ih2 ⟨rfl, rfl, rfl, rfl, rfl, rfl, trivial⟩
          · refine z_aload h dX3_gain_39 rfl ?_
            refine z_iconst (v := 5) h dX3_gain_41 (by decide) ?_
            refine z_iald h (by assumption) (zix_c 5 rfl (by decide) (by decide)) dX3_gain_42 ?_
            refine z_iload_n h dX3_gain_43 rfl rfl ?_
            refine z_icmp_ge h 59 dX3_gain_44 (by decide) (fun c44 => ?_) (fun c44 => ?_)
            · refine z_iinc h dX3_gain_59 rfl (nI_1 i) (by decide) ?_
              refine z_goto h 6 dX3_gain_62 (by decide) ?_
              have ih2 := ih (i + 1) (by omega)
              rw [show gnC (fun i => I (rw i)) nm un sg (i + 1) = gnC (fun i => I (rw i)) nm un sg i from if_neg (fun q => absurd q.2 (Int32.not_lt.mpr c44))] at ih2
              exact z_lk ih2 ⟨rfl, rfl, rfl, rfl, rfl, rfl, trivial⟩
            · refine z_lload h dX3_gain_47 rfl ?_
              refine z_aload h dX3_gain_49 rfl ?_
              refine z_iload_n h dX3_gain_51 rfl rfl ?_
              refine z_callSI h (c_X3_gainBy l r2) (va_cwS 2 h.2.2.2.2.1 gm_RX3_46 rfl rfl rfl (by decide +kernel) ⟨by decide, by decide⟩) rfl rfl (Nat.le_of_ble_eq_true rfl) ⟨Nat.zero_le _, Nat.zero_le _⟩ dX3_gain_52 ?_
              refine z_i2l h dX3_gain_55 rfl ?_
              refine z_ladd h dX3_gain_56 ?_
              refine z_lstore h dX3_gain_57 (by decide) ?_
              refine z_iinc h dX3_gain_59 rfl (nI_1 i) (by decide) ?_
              refine z_goto h 6 dX3_gain_62 (by decide) ?_
              have ih2 := ih (i + 1) (by omega)
              rw [show gnC (fun i => I (rw i)) nm un sg (i + 1) = gnC (fun i => I (rw i)) nm un sg i + (gby (I (rw i)) nm).toInt64 from if_pos ⟨c36, Int32.not_le.mp c44⟩] at ih2
              exact z_lk ih2 ⟨rfl, rfl, rfl, rfl, rfl, rfl, trivial⟩
  refine z_lconst (v := 0) h dX3_gain_0 (by decide) ?_
  refine z_lstore h dX3_gain_1 (by decide) ?_
  refine z_iconst (v := 0) h dX3_gain_3 (by decide) ?_
  refine z_istore h dX3_gain_4 (by decide) ?_
  exact z_lk (L6 k 0 (by omega)) ⟨rfl, rfl, rfl, rfl, rfl, rfl, trivial⟩
end
