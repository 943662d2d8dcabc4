-- ===== PART A: goes FIRST, ahead of the names: the tables' words, and 'selects' of the private methods out of them =====
/-- a private method of a class that the tables say can be made, by its rows of tables_1 -/
def lw_okq (q : MethodName × Nat) : Prop := (q.1.cls ≠ "java/lang/invoke/MethodHandle" ∧ q.1.cls ≠ "java/lang/invoke/VarHandle") ∧ Cond.instantiable q.1.cls q.2 ∈ tables_1 ∧ Cond.privateMethod q.1 ∈ tables_1 ∧ Cond.instanceMethod q.1 ∈ tables_1
theorem lw_p0 : lw_okq (⟨"SleepRope", "refuse", "(I)V"⟩, 16) := ⟨⟨by decide +kernel, by decide +kernel⟩, List.mem_of_getElem? (i := 21) (by decide +kernel), List.mem_of_getElem? (i := 512) (by decide +kernel), List.mem_of_getElem? (i := 513) (by decide +kernel)⟩
theorem lw_p1 : lw_okq (⟨"SleepRope", "putOnTape", "(I)V"⟩, 16) := ⟨⟨by decide +kernel, by decide +kernel⟩, List.mem_of_getElem? (i := 21) (by decide +kernel), List.mem_of_getElem? (i := 516) (by decide +kernel), List.mem_of_getElem? (i := 517) (by decide +kernel)⟩
theorem lw_p2 : lw_okq (⟨"SleepRope$Reader", "scan", "([II)V"⟩, 11) := ⟨⟨by decide +kernel, by decide +kernel⟩, List.mem_of_getElem? (i := 29) (by decide +kernel), List.mem_of_getElem? (i := 543) (by decide +kernel), List.mem_of_getElem? (i := 544) (by decide +kernel)⟩
theorem lw_p3 : lw_okq (⟨"SleepRope$Reader", "lengthen", "(III)Z"⟩, 11) := ⟨⟨by decide +kernel, by decide +kernel⟩, List.mem_of_getElem? (i := 29) (by decide +kernel), List.mem_of_getElem? (i := 610) (by decide +kernel), List.mem_of_getElem? (i := 611) (by decide +kernel)⟩
theorem lw_p4 : lw_okq (⟨"SleepRope$Reader", "add", "(III)V"⟩, 11) := ⟨⟨by decide +kernel, by decide +kernel⟩, List.mem_of_getElem? (i := 29) (by decide +kernel), List.mem_of_getElem? (i := 614) (by decide +kernel), List.mem_of_getElem? (i := 615) (by decide +kernel)⟩
theorem lw_p5 : lw_okq (⟨"SleepRope$Reader", "fails", "(I)Z"⟩, 11) := ⟨⟨by decide +kernel, by decide +kernel⟩, List.mem_of_getElem? (i := 29) (by decide +kernel), List.mem_of_getElem? (i := 618) (by decide +kernel), List.mem_of_getElem? (i := 619) (by decide +kernel)⟩
theorem lw_p6 : lw_okq (⟨"SleepRope$Reader", "own", "()I"⟩, 11) := ⟨⟨by decide +kernel, by decide +kernel⟩, List.mem_of_getElem? (i := 29) (by decide +kernel), List.mem_of_getElem? (i := 622) (by decide +kernel), List.mem_of_getElem? (i := 623) (by decide +kernel)⟩
theorem lw_p7 : lw_okq (⟨"SleepRope$Reader", "readBoy", "()Z"⟩, 11) := ⟨⟨by decide +kernel, by decide +kernel⟩, List.mem_of_getElem? (i := 29) (by decide +kernel), List.mem_of_getElem? (i := 626) (by decide +kernel), List.mem_of_getElem? (i := 627) (by decide +kernel)⟩
theorem lw_p8 : lw_okq (⟨"SleepRope$Reader", "step", "()V"⟩, 11) := ⟨⟨by decide +kernel, by decide +kernel⟩, List.mem_of_getElem? (i := 29) (by decide +kernel), List.mem_of_getElem? (i := 630) (by decide +kernel), List.mem_of_getElem? (i := 631) (by decide +kernel)⟩
theorem lw_p9 : lw_okq (⟨"SleepRope$Reader", "needsName", "()Z"⟩, 11) := ⟨⟨by decide +kernel, by decide +kernel⟩, List.mem_of_getElem? (i := 29) (by decide +kernel), List.mem_of_getElem? (i := 634) (by decide +kernel), List.mem_of_getElem? (i := 635) (by decide +kernel)⟩
theorem lw_p10 : lw_okq (⟨"SleepRope$Reader", "needsOwn", "(I)Z"⟩, 11) := ⟨⟨by decide +kernel, by decide +kernel⟩, List.mem_of_getElem? (i := 29) (by decide +kernel), List.mem_of_getElem? (i := 642) (by decide +kernel), List.mem_of_getElem? (i := 643) (by decide +kernel)⟩
theorem lw_p11 : lw_okq (⟨"SleepRope$Reader", "needsNumber", "(II)Z"⟩, 11) := ⟨⟨by decide +kernel, by decide +kernel⟩, List.mem_of_getElem? (i := 29) (by decide +kernel), List.mem_of_getElem? (i := 646) (by decide +kernel), List.mem_of_getElem? (i := 647) (by decide +kernel)⟩
theorem lw_p12 : lw_okq (⟨"SleepRope$Reader", "readMarks", "(I)Z"⟩, 11) := ⟨⟨by decide +kernel, by decide +kernel⟩, List.mem_of_getElem? (i := 29) (by decide +kernel), List.mem_of_getElem? (i := 650) (by decide +kernel), List.mem_of_getElem? (i := 651) (by decide +kernel)⟩
theorem lw_p13 : lw_okq (⟨"SleepRope$Reader", "readSlack", "()Z"⟩, 11) := ⟨⟨by decide +kernel, by decide +kernel⟩, List.mem_of_getElem? (i := 29) (by decide +kernel), List.mem_of_getElem? (i := 654) (by decide +kernel), List.mem_of_getElem? (i := 655) (by decide +kernel)⟩
theorem lw_p14 : lw_okq (⟨"SleepRope$Reader", "readDream", "()Z"⟩, 11) := ⟨⟨by decide +kernel, by decide +kernel⟩, List.mem_of_getElem? (i := 29) (by decide +kernel), List.mem_of_getElem? (i := 658) (by decide +kernel), List.mem_of_getElem? (i := 659) (by decide +kernel)⟩
theorem lw_p15 : lw_okq (⟨"SleepRope$Reader", "readLaw", "(Z)Z"⟩, 11) := ⟨⟨by decide +kernel, by decide +kernel⟩, List.mem_of_getElem? (i := 29) (by decide +kernel), List.mem_of_getElem? (i := 662) (by decide +kernel), List.mem_of_getElem? (i := 663) (by decide +kernel)⟩
def lw_privs_1 : List (MethodName × Nat) := [(⟨"SleepRope", "refuse", "(I)V"⟩, 16), (⟨"SleepRope", "putOnTape", "(I)V"⟩, 16), (⟨"SleepRope$Reader", "scan", "([II)V"⟩, 11), (⟨"SleepRope$Reader", "lengthen", "(III)Z"⟩, 11), (⟨"SleepRope$Reader", "add", "(III)V"⟩, 11), (⟨"SleepRope$Reader", "fails", "(I)Z"⟩, 11), (⟨"SleepRope$Reader", "own", "()I"⟩, 11), (⟨"SleepRope$Reader", "readBoy", "()Z"⟩, 11), (⟨"SleepRope$Reader", "step", "()V"⟩, 11), (⟨"SleepRope$Reader", "needsName", "()Z"⟩, 11), (⟨"SleepRope$Reader", "needsOwn", "(I)Z"⟩, 11), (⟨"SleepRope$Reader", "needsNumber", "(II)Z"⟩, 11), (⟨"SleepRope$Reader", "readMarks", "(I)Z"⟩, 11), (⟨"SleepRope$Reader", "readSlack", "()Z"⟩, 11), (⟨"SleepRope$Reader", "readDream", "()Z"⟩, 11), (⟨"SleepRope$Reader", "readLaw", "(Z)Z"⟩, 11)]
theorem lw_r1 : ∀ q ∈ lw_privs_1, lw_okq q := List.forall_mem_cons.mpr ⟨lw_p0, List.forall_mem_cons.mpr ⟨lw_p1, List.forall_mem_cons.mpr ⟨lw_p2, List.forall_mem_cons.mpr ⟨lw_p3, List.forall_mem_cons.mpr ⟨lw_p4, List.forall_mem_cons.mpr ⟨lw_p5, List.forall_mem_cons.mpr ⟨lw_p6, List.forall_mem_cons.mpr ⟨lw_p7, List.forall_mem_cons.mpr ⟨lw_p8, List.forall_mem_cons.mpr ⟨lw_p9, List.forall_mem_cons.mpr ⟨lw_p10, List.forall_mem_cons.mpr ⟨lw_p11, List.forall_mem_cons.mpr ⟨lw_p12, List.forall_mem_cons.mpr ⟨lw_p13, List.forall_mem_cons.mpr ⟨lw_p14, List.forall_mem_cons.mpr ⟨lw_p15, fun _ h => absurd h List.not_mem_nil⟩⟩⟩⟩⟩⟩⟩⟩⟩⟩⟩⟩⟩⟩⟩⟩
theorem lw_p16 : lw_okq (⟨"SleepRope$Reader", "readSum", "(I)Z"⟩, 11) := ⟨⟨by decide +kernel, by decide +kernel⟩, List.mem_of_getElem? (i := 29) (by decide +kernel), List.mem_of_getElem? (i := 670) (by decide +kernel), List.mem_of_getElem? (i := 671) (by decide +kernel)⟩
theorem lw_p17 : lw_okq (⟨"SleepRope$Reader", "readPart", "(I)Z"⟩, 11) := ⟨⟨by decide +kernel, by decide +kernel⟩, List.mem_of_getElem? (i := 29) (by decide +kernel), List.mem_of_getElem? (i := 674) (by decide +kernel), List.mem_of_getElem? (i := 675) (by decide +kernel)⟩
theorem lw_p18 : lw_okq (⟨"SleepRope$Reader", "isSign", "(C)Z"⟩, 11) := ⟨⟨by decide +kernel, by decide +kernel⟩, List.mem_of_getElem? (i := 29) (by decide +kernel), List.mem_of_getElem? (i := 682) (by decide +kernel), List.mem_of_getElem? (i := 683) (by decide +kernel)⟩
theorem lw_p19 : lw_okq (⟨"SleepRope$Reader", "readTest", "(I)Z"⟩, 11) := ⟨⟨by decide +kernel, by decide +kernel⟩, List.mem_of_getElem? (i := 29) (by decide +kernel), List.mem_of_getElem? (i := 690) (by decide +kernel), List.mem_of_getElem? (i := 691) (by decide +kernel)⟩
theorem lw_p20 : lw_okq (⟨"SleepRope$Reader", "readFact", "(I)Z"⟩, 11) := ⟨⟨by decide +kernel, by decide +kernel⟩, List.mem_of_getElem? (i := 29) (by decide +kernel), List.mem_of_getElem? (i := 694) (by decide +kernel), List.mem_of_getElem? (i := 695) (by decide +kernel)⟩
theorem lw_p21 : lw_okq (⟨"SleepRope", "tiedKnots", "()I"⟩, 16) := ⟨⟨by decide +kernel, by decide +kernel⟩, List.mem_of_getElem? (i := 21) (by decide +kernel), List.mem_of_getElem? (i := 718) (by decide +kernel), List.mem_of_getElem? (i := 719) (by decide +kernel)⟩
theorem lw_p22 : lw_okq (⟨"SleepRope", "dreamers", "(I)I"⟩, 16) := ⟨⟨by decide +kernel, by decide +kernel⟩, List.mem_of_getElem? (i := 21) (by decide +kernel), List.mem_of_getElem? (i := 726) (by decide +kernel), List.mem_of_getElem? (i := 727) (by decide +kernel)⟩
theorem lw_p23 : lw_okq (⟨"SleepRope", "caughtOnes", "()I"⟩, 16) := ⟨⟨by decide +kernel, by decide +kernel⟩, List.mem_of_getElem? (i := 21) (by decide +kernel), List.mem_of_getElem? (i := 730) (by decide +kernel), List.mem_of_getElem? (i := 731) (by decide +kernel)⟩
theorem lw_p24 : lw_okq (⟨"SleepRope", "isBoy", "(I)Z"⟩, 16) := ⟨⟨by decide +kernel, by decide +kernel⟩, List.mem_of_getElem? (i := 21) (by decide +kernel), List.mem_of_getElem? (i := 743) (by decide +kernel), List.mem_of_getElem? (i := 744) (by decide +kernel)⟩
theorem lw_p25 : lw_okq (⟨"SleepRope", "isDream", "(I)Z"⟩, 16) := ⟨⟨by decide +kernel, by decide +kernel⟩, List.mem_of_getElem? (i := 21) (by decide +kernel), List.mem_of_getElem? (i := 750) (by decide +kernel), List.mem_of_getElem? (i := 751) (by decide +kernel)⟩
theorem lw_p26 : lw_okq (⟨"SleepRope", "isPlace", "(I)Z"⟩, 16) := ⟨⟨by decide +kernel, by decide +kernel⟩, List.mem_of_getElem? (i := 21) (by decide +kernel), List.mem_of_getElem? (i := 766) (by decide +kernel), List.mem_of_getElem? (i := 767) (by decide +kernel)⟩
theorem lw_p27 : lw_okq (⟨"SleepRope", "isKnot", "(I)Z"⟩, 16) := ⟨⟨by decide +kernel, by decide +kernel⟩, List.mem_of_getElem? (i := 21) (by decide +kernel), List.mem_of_getElem? (i := 774) (by decide +kernel), List.mem_of_getElem? (i := 775) (by decide +kernel)⟩
theorem lw_p28 : lw_okq (⟨"SleepRope", "strain", "(I)I"⟩, 16) := ⟨⟨by decide +kernel, by decide +kernel⟩, List.mem_of_getElem? (i := 21) (by decide +kernel), List.mem_of_getElem? (i := 778) (by decide +kernel), List.mem_of_getElem? (i := 779) (by decide +kernel)⟩
theorem lw_p29 : lw_okq (⟨"SleepRope$Laws", "run", "(II)I"⟩, 9) := ⟨⟨by decide +kernel, by decide +kernel⟩, List.mem_of_getElem? (i := 41) (by decide +kernel), List.mem_of_getElem? (i := 815) (by decide +kernel), List.mem_of_getElem? (i := 816) (by decide +kernel)⟩
theorem lw_p30 : lw_okq (⟨"SleepRope", "startAct", "()V"⟩, 16) := ⟨⟨by decide +kernel, by decide +kernel⟩, List.mem_of_getElem? (i := 21) (by decide +kernel), List.mem_of_getElem? (i := 836) (by decide +kernel), List.mem_of_getElem? (i := 837) (by decide +kernel)⟩
theorem lw_p31 : lw_okq (⟨"SleepRope$Tug", "passedOn", "(LSleepRope$Dorm;LSleepRope$Rope;II)I"⟩, 2) := ⟨⟨by decide +kernel, by decide +kernel⟩, List.mem_of_getElem? (i := 377) (by decide +kernel), List.mem_of_getElem? (i := 879) (by decide +kernel), List.mem_of_getElem? (i := 880) (by decide +kernel)⟩
def lw_privs_2 : List (MethodName × Nat) := [(⟨"SleepRope$Reader", "readSum", "(I)Z"⟩, 11), (⟨"SleepRope$Reader", "readPart", "(I)Z"⟩, 11), (⟨"SleepRope$Reader", "isSign", "(C)Z"⟩, 11), (⟨"SleepRope$Reader", "readTest", "(I)Z"⟩, 11), (⟨"SleepRope$Reader", "readFact", "(I)Z"⟩, 11), (⟨"SleepRope", "tiedKnots", "()I"⟩, 16), (⟨"SleepRope", "dreamers", "(I)I"⟩, 16), (⟨"SleepRope", "caughtOnes", "()I"⟩, 16), (⟨"SleepRope", "isBoy", "(I)Z"⟩, 16), (⟨"SleepRope", "isDream", "(I)Z"⟩, 16), (⟨"SleepRope", "isPlace", "(I)Z"⟩, 16), (⟨"SleepRope", "isKnot", "(I)Z"⟩, 16), (⟨"SleepRope", "strain", "(I)I"⟩, 16), (⟨"SleepRope$Laws", "run", "(II)I"⟩, 9), (⟨"SleepRope", "startAct", "()V"⟩, 16), (⟨"SleepRope$Tug", "passedOn", "(LSleepRope$Dorm;LSleepRope$Rope;II)I"⟩, 2)]
theorem lw_r2 : ∀ q ∈ lw_privs_2, lw_okq q := List.forall_mem_cons.mpr ⟨lw_p16, List.forall_mem_cons.mpr ⟨lw_p17, List.forall_mem_cons.mpr ⟨lw_p18, List.forall_mem_cons.mpr ⟨lw_p19, List.forall_mem_cons.mpr ⟨lw_p20, List.forall_mem_cons.mpr ⟨lw_p21, List.forall_mem_cons.mpr ⟨lw_p22, List.forall_mem_cons.mpr ⟨lw_p23, List.forall_mem_cons.mpr ⟨lw_p24, List.forall_mem_cons.mpr ⟨lw_p25, List.forall_mem_cons.mpr ⟨lw_p26, List.forall_mem_cons.mpr ⟨lw_p27, List.forall_mem_cons.mpr ⟨lw_p28, List.forall_mem_cons.mpr ⟨lw_p29, List.forall_mem_cons.mpr ⟨lw_p30, List.forall_mem_cons.mpr ⟨lw_p31, fun _ h => absurd h List.not_mem_nil⟩⟩⟩⟩⟩⟩⟩⟩⟩⟩⟩⟩⟩⟩⟩⟩
theorem lw_p32 : lw_okq (⟨"SleepRope$Night", "draw", "(I)I"⟩, 2) := ⟨⟨by decide +kernel, by decide +kernel⟩, List.mem_of_getElem? (i := 371) (by decide +kernel), List.mem_of_getElem? (i := 902) (by decide +kernel), List.mem_of_getElem? (i := 903) (by decide +kernel)⟩
theorem lw_p33 : lw_okq (⟨"SleepRope$Night", "drawnDream", "(LSleepRope$Dorm;)I"⟩, 2) := ⟨⟨by decide +kernel, by decide +kernel⟩, List.mem_of_getElem? (i := 371) (by decide +kernel), List.mem_of_getElem? (i := 909) (by decide +kernel), List.mem_of_getElem? (i := 910) (by decide +kernel)⟩
theorem lw_p34 : lw_okq (⟨"SleepRope$Orders", "begin", "(LSleepRope$Dorm;LSleepRope$Rope;)V"⟩, 12) := ⟨⟨by decide +kernel, by decide +kernel⟩, List.mem_of_getElem? (i := 405) (by decide +kernel), List.mem_of_getElem? (i := 973) (by decide +kernel), List.mem_of_getElem? (i := 974) (by decide +kernel)⟩
theorem lw_p35 : lw_okq (⟨"SleepRope$Orders", "badness", "(LSleepRope$Dorm;)I"⟩, 12) := ⟨⟨by decide +kernel, by decide +kernel⟩, List.mem_of_getElem? (i := 405) (by decide +kernel), List.mem_of_getElem? (i := 980) (by decide +kernel), List.mem_of_getElem? (i := 981) (by decide +kernel)⟩
theorem lw_p36 : lw_okq (⟨"SleepRope", "pairOnTape", "(I)I"⟩, 16) := ⟨⟨by decide +kernel, by decide +kernel⟩, List.mem_of_getElem? (i := 21) (by decide +kernel), List.mem_of_getElem? (i := 1025) (by decide +kernel), List.mem_of_getElem? (i := 1026) (by decide +kernel)⟩
theorem lw_p37 : lw_okq (⟨"SleepRope", "onTape", "(I)I"⟩, 16) := ⟨⟨by decide +kernel, by decide +kernel⟩, List.mem_of_getElem? (i := 21) (by decide +kernel), List.mem_of_getElem? (i := 1029) (by decide +kernel), List.mem_of_getElem? (i := 1030) (by decide +kernel)⟩
theorem lw_p38 : lw_okq (⟨"SleepRope", "oddsOfHaving", "(II)I"⟩, 16) := ⟨⟨by decide +kernel, by decide +kernel⟩, List.mem_of_getElem? (i := 21) (by decide +kernel), List.mem_of_getElem? (i := 1037) (by decide +kernel), List.mem_of_getElem? (i := 1038) (by decide +kernel)⟩
theorem lw_p39 : lw_okq (⟨"SleepRope", "areTied", "(I)Z"⟩, 16) := ⟨⟨by decide +kernel, by decide +kernel⟩, List.mem_of_getElem? (i := 21) (by decide +kernel), List.mem_of_getElem? (i := 1046) (by decide +kernel), List.mem_of_getElem? (i := 1047) (by decide +kernel)⟩
theorem lw_p40 : lw_okq (⟨"SleepRope", "heaviestPiece", "(I)I"⟩, 16) := ⟨⟨by decide +kernel, by decide +kernel⟩, List.mem_of_getElem? (i := 21) (by decide +kernel), List.mem_of_getElem? (i := 1053) (by decide +kernel), List.mem_of_getElem? (i := 1054) (by decide +kernel)⟩
theorem lw_p41 : lw_okq (⟨"SleepRope", "takenBy", "(II)I"⟩, 16) := ⟨⟨by decide +kernel, by decide +kernel⟩, List.mem_of_getElem? (i := 21) (by decide +kernel), List.mem_of_getElem? (i := 1064) (by decide +kernel), List.mem_of_getElem? (i := 1065) (by decide +kernel)⟩
theorem lw_p42 : lw_okq (⟨"SleepRope", "allAwake", "()Z"⟩, 16) := ⟨⟨by decide +kernel, by decide +kernel⟩, List.mem_of_getElem? (i := 21) (by decide +kernel), List.mem_of_getElem? (i := 1077) (by decide +kernel), List.mem_of_getElem? (i := 1078) (by decide +kernel)⟩
theorem lw_p43 : lw_okq (⟨"SleepRope", "putPair", "(I)V"⟩, 16) := ⟨⟨by decide +kernel, by decide +kernel⟩, List.mem_of_getElem? (i := 21) (by decide +kernel), List.mem_of_getElem? (i := 1085) (by decide +kernel), List.mem_of_getElem? (i := 1086) (by decide +kernel)⟩
theorem lw_p44 : lw_okq (⟨"SleepRope", "putOctet", "(I)V"⟩, 16) := ⟨⟨by decide +kernel, by decide +kernel⟩, List.mem_of_getElem? (i := 21) (by decide +kernel), List.mem_of_getElem? (i := 1089) (by decide +kernel), List.mem_of_getElem? (i := 1090) (by decide +kernel)⟩
theorem lw_p45 : lw_okq (⟨"SleepRope", "isImage", "(I)Z"⟩, 16) := ⟨⟨by decide +kernel, by decide +kernel⟩, List.mem_of_getElem? (i := 21) (by decide +kernel), List.mem_of_getElem? (i := 1105) (by decide +kernel), List.mem_of_getElem? (i := 1106) (by decide +kernel)⟩
theorem lw_p46 : lw_okq (⟨"SleepRope", "isImageOfBoy", "(II)Z"⟩, 16) := ⟨⟨by decide +kernel, by decide +kernel⟩, List.mem_of_getElem? (i := 21) (by decide +kernel), List.mem_of_getElem? (i := 1109) (by decide +kernel), List.mem_of_getElem? (i := 1110) (by decide +kernel)⟩
theorem lw_p47 : lw_okq (⟨"SleepRopeModel", "refuses", "(I)I"⟩, 82) := ⟨⟨by decide +kernel, by decide +kernel⟩, List.mem_of_getElem? (i := 1117) (by decide +kernel), List.mem_of_getElem? (i := 1375) (by decide +kernel), List.mem_of_getElem? (i := 1376) (by decide +kernel)⟩
def lw_privs_3 : List (MethodName × Nat) := [(⟨"SleepRope$Night", "draw", "(I)I"⟩, 2), (⟨"SleepRope$Night", "drawnDream", "(LSleepRope$Dorm;)I"⟩, 2), (⟨"SleepRope$Orders", "begin", "(LSleepRope$Dorm;LSleepRope$Rope;)V"⟩, 12), (⟨"SleepRope$Orders", "badness", "(LSleepRope$Dorm;)I"⟩, 12), (⟨"SleepRope", "pairOnTape", "(I)I"⟩, 16), (⟨"SleepRope", "onTape", "(I)I"⟩, 16), (⟨"SleepRope", "oddsOfHaving", "(II)I"⟩, 16), (⟨"SleepRope", "areTied", "(I)Z"⟩, 16), (⟨"SleepRope", "heaviestPiece", "(I)I"⟩, 16), (⟨"SleepRope", "takenBy", "(II)I"⟩, 16), (⟨"SleepRope", "allAwake", "()Z"⟩, 16), (⟨"SleepRope", "putPair", "(I)V"⟩, 16), (⟨"SleepRope", "putOctet", "(I)V"⟩, 16), (⟨"SleepRope", "isImage", "(I)Z"⟩, 16), (⟨"SleepRope", "isImageOfBoy", "(II)Z"⟩, 16), (⟨"SleepRopeModel", "refuses", "(I)I"⟩, 82)]
theorem lw_r3 : ∀ q ∈ lw_privs_3, lw_okq q := List.forall_mem_cons.mpr ⟨lw_p32, List.forall_mem_cons.mpr ⟨lw_p33, List.forall_mem_cons.mpr ⟨lw_p34, List.forall_mem_cons.mpr ⟨lw_p35, List.forall_mem_cons.mpr ⟨lw_p36, List.forall_mem_cons.mpr ⟨lw_p37, List.forall_mem_cons.mpr ⟨lw_p38, List.forall_mem_cons.mpr ⟨lw_p39, List.forall_mem_cons.mpr ⟨lw_p40, List.forall_mem_cons.mpr ⟨lw_p41, List.forall_mem_cons.mpr ⟨lw_p42, List.forall_mem_cons.mpr ⟨lw_p43, List.forall_mem_cons.mpr ⟨lw_p44, List.forall_mem_cons.mpr ⟨lw_p45, List.forall_mem_cons.mpr ⟨lw_p46, List.forall_mem_cons.mpr ⟨lw_p47, fun _ h => absurd h List.not_mem_nil⟩⟩⟩⟩⟩⟩⟩⟩⟩⟩⟩⟩⟩⟩⟩⟩
theorem lw_p48 : lw_okq (⟨"SleepRopeModel", "put", "(I)V"⟩, 82) := ⟨⟨by decide +kernel, by decide +kernel⟩, List.mem_of_getElem? (i := 1117) (by decide +kernel), List.mem_of_getElem? (i := 1379) (by decide +kernel), List.mem_of_getElem? (i := 1380) (by decide +kernel)⟩
theorem lw_p49 : lw_okq (⟨"SleepRopeModel", "ahead", "()V"⟩, 82) := ⟨⟨by decide +kernel, by decide +kernel⟩, List.mem_of_getElem? (i := 1117) (by decide +kernel), List.mem_of_getElem? (i := 1391) (by decide +kernel), List.mem_of_getElem? (i := 1392) (by decide +kernel)⟩
theorem lw_p50 : lw_okq (⟨"SleepRopeModel", "blame", "(II)V"⟩, 82) := ⟨⟨by decide +kernel, by decide +kernel⟩, List.mem_of_getElem? (i := 1117) (by decide +kernel), List.mem_of_getElem? (i := 1401) (by decide +kernel), List.mem_of_getElem? (i := 1402) (by decide +kernel)⟩
theorem lw_p51 : lw_okq (⟨"SleepRopeModel", "statement", "()V"⟩, 82) := ⟨⟨by decide +kernel, by decide +kernel⟩, List.mem_of_getElem? (i := 1117) (by decide +kernel), List.mem_of_getElem? (i := 1405) (by decide +kernel), List.mem_of_getElem? (i := 1406) (by decide +kernel)⟩
theorem lw_p52 : lw_okq (⟨"SleepRopeModel", "isWord", "(J)Z"⟩, 82) := ⟨⟨by decide +kernel, by decide +kernel⟩, List.mem_of_getElem? (i := 1117) (by decide +kernel), List.mem_of_getElem? (i := 1410) (by decide +kernel), List.mem_of_getElem? (i := 1411) (by decide +kernel)⟩
theorem lw_p53 : lw_okq (⟨"SleepRopeModel", "boying", "()V"⟩, 82) := ⟨⟨by decide +kernel, by decide +kernel⟩, List.mem_of_getElem? (i := 1117) (by decide +kernel), List.mem_of_getElem? (i := 1414) (by decide +kernel), List.mem_of_getElem? (i := 1415) (by decide +kernel)⟩
theorem lw_p54 : lw_okq (⟨"SleepRopeModel", "counts", "(Z)Z"⟩, 82) := ⟨⟨by decide +kernel, by decide +kernel⟩, List.mem_of_getElem? (i := 1117) (by decide +kernel), List.mem_of_getElem? (i := 1418) (by decide +kernel), List.mem_of_getElem? (i := 1419) (by decide +kernel)⟩
theorem lw_p55 : lw_okq (⟨"SleepRopeModel", "fresh", "()J"⟩, 82) := ⟨⟨by decide +kernel, by decide +kernel⟩, List.mem_of_getElem? (i := 1117) (by decide +kernel), List.mem_of_getElem? (i := 1422) (by decide +kernel), List.mem_of_getElem? (i := 1423) (by decide +kernel)⟩
theorem lw_p56 : lw_okq (⟨"SleepRopeModel", "isOwn", "(J)Z"⟩, 82) := ⟨⟨by decide +kernel, by decide +kernel⟩, List.mem_of_getElem? (i := 1117) (by decide +kernel), List.mem_of_getElem? (i := 1426) (by decide +kernel), List.mem_of_getElem? (i := 1427) (by decide +kernel)⟩
theorem lw_p57 : lw_okq (⟨"SleepRopeModel", "isThere", "(J)Z"⟩, 82) := ⟨⟨by decide +kernel, by decide +kernel⟩, List.mem_of_getElem? (i := 1117) (by decide +kernel), List.mem_of_getElem? (i := 1456) (by decide +kernel), List.mem_of_getElem? (i := 1457) (by decide +kernel)⟩
theorem lw_p58 : lw_okq (⟨"SleepRopeModel", "must", "(J)V"⟩, 82) := ⟨⟨by decide +kernel, by decide +kernel⟩, List.mem_of_getElem? (i := 1117) (by decide +kernel), List.mem_of_getElem? (i := 1460) (by decide +kernel), List.mem_of_getElem? (i := 1461) (by decide +kernel)⟩
theorem lw_p59 : lw_okq (⟨"SleepRopeModel", "number", "(II)I"⟩, 82) := ⟨⟨by decide +kernel, by decide +kernel⟩, List.mem_of_getElem? (i := 1117) (by decide +kernel), List.mem_of_getElem? (i := 1464) (by decide +kernel), List.mem_of_getElem? (i := 1465) (by decide +kernel)⟩
theorem lw_p60 : lw_okq (⟨"SleepRopeModel", "marking", "(I)V"⟩, 82) := ⟨⟨by decide +kernel, by decide +kernel⟩, List.mem_of_getElem? (i := 1117) (by decide +kernel), List.mem_of_getElem? (i := 1471) (by decide +kernel), List.mem_of_getElem? (i := 1472) (by decide +kernel)⟩
theorem lw_p61 : lw_okq (⟨"SleepRopeModel", "slacking", "()V"⟩, 82) := ⟨⟨by decide +kernel, by decide +kernel⟩, List.mem_of_getElem? (i := 1117) (by decide +kernel), List.mem_of_getElem? (i := 1475) (by decide +kernel), List.mem_of_getElem? (i := 1476) (by decide +kernel)⟩
theorem lw_p62 : lw_okq (⟨"SleepRopeModel", "dreaming", "()V"⟩, 82) := ⟨⟨by decide +kernel, by decide +kernel⟩, List.mem_of_getElem? (i := 1117) (by decide +kernel), List.mem_of_getElem? (i := 1479) (by decide +kernel), List.mem_of_getElem? (i := 1480) (by decide +kernel)⟩
theorem lw_p63 : lw_okq (⟨"SleepRopeModel", "lawing", "(I)V"⟩, 82) := ⟨⟨by decide +kernel, by decide +kernel⟩, List.mem_of_getElem? (i := 1117) (by decide +kernel), List.mem_of_getElem? (i := 1483) (by decide +kernel), List.mem_of_getElem? (i := 1484) (by decide +kernel)⟩
def lw_privs_4 : List (MethodName × Nat) := [(⟨"SleepRopeModel", "put", "(I)V"⟩, 82), (⟨"SleepRopeModel", "ahead", "()V"⟩, 82), (⟨"SleepRopeModel", "blame", "(II)V"⟩, 82), (⟨"SleepRopeModel", "statement", "()V"⟩, 82), (⟨"SleepRopeModel", "isWord", "(J)Z"⟩, 82), (⟨"SleepRopeModel", "boying", "()V"⟩, 82), (⟨"SleepRopeModel", "counts", "(Z)Z"⟩, 82), (⟨"SleepRopeModel", "fresh", "()J"⟩, 82), (⟨"SleepRopeModel", "isOwn", "(J)Z"⟩, 82), (⟨"SleepRopeModel", "isThere", "(J)Z"⟩, 82), (⟨"SleepRopeModel", "must", "(J)V"⟩, 82), (⟨"SleepRopeModel", "number", "(II)I"⟩, 82), (⟨"SleepRopeModel", "marking", "(I)V"⟩, 82), (⟨"SleepRopeModel", "slacking", "()V"⟩, 82), (⟨"SleepRopeModel", "dreaming", "()V"⟩, 82), (⟨"SleepRopeModel", "lawing", "(I)V"⟩, 82)]
theorem lw_r4 : ∀ q ∈ lw_privs_4, lw_okq q := List.forall_mem_cons.mpr ⟨lw_p48, List.forall_mem_cons.mpr ⟨lw_p49, List.forall_mem_cons.mpr ⟨lw_p50, List.forall_mem_cons.mpr ⟨lw_p51, List.forall_mem_cons.mpr ⟨lw_p52, List.forall_mem_cons.mpr ⟨lw_p53, List.forall_mem_cons.mpr ⟨lw_p54, List.forall_mem_cons.mpr ⟨lw_p55, List.forall_mem_cons.mpr ⟨lw_p56, List.forall_mem_cons.mpr ⟨lw_p57, List.forall_mem_cons.mpr ⟨lw_p58, List.forall_mem_cons.mpr ⟨lw_p59, List.forall_mem_cons.mpr ⟨lw_p60, List.forall_mem_cons.mpr ⟨lw_p61, List.forall_mem_cons.mpr ⟨lw_p62, List.forall_mem_cons.mpr ⟨lw_p63, fun _ h => absurd h List.not_mem_nil⟩⟩⟩⟩⟩⟩⟩⟩⟩⟩⟩⟩⟩⟩⟩⟩
theorem lw_p64 : lw_okq (⟨"SleepRopeModel", "reads", "(Z)V"⟩, 82) := ⟨⟨by decide +kernel, by decide +kernel⟩, List.mem_of_getElem? (i := 1117) (by decide +kernel), List.mem_of_getElem? (i := 1487) (by decide +kernel), List.mem_of_getElem? (i := 1488) (by decide +kernel)⟩
theorem lw_p65 : lw_okq (⟨"SleepRopeModel", "pushes", "(I)V"⟩, 82) := ⟨⟨by decide +kernel, by decide +kernel⟩, List.mem_of_getElem? (i := 1117) (by decide +kernel), List.mem_of_getElem? (i := 1491) (by decide +kernel), List.mem_of_getElem? (i := 1492) (by decide +kernel)⟩
theorem lw_p66 : lw_okq (⟨"SleepRopeModel", "operand", "()Z"⟩, 82) := ⟨⟨by decide +kernel, by decide +kernel⟩, List.mem_of_getElem? (i := 1117) (by decide +kernel), List.mem_of_getElem? (i := 1495) (by decide +kernel), List.mem_of_getElem? (i := 1496) (by decide +kernel)⟩
theorem lw_p67 : lw_okq (⟨"SleepRopeModel", "holdsBack", "(I)V"⟩, 82) := ⟨⟨by decide +kernel, by decide +kernel⟩, List.mem_of_getElem? (i := 1117) (by decide +kernel), List.mem_of_getElem? (i := 1502) (by decide +kernel), List.mem_of_getElem? (i := 1503) (by decide +kernel)⟩
theorem lw_p68 : lw_okq (⟨"SleepRopeModel", "isSign", "(I)Z"⟩, 82) := ⟨⟨by decide +kernel, by decide +kernel⟩, List.mem_of_getElem? (i := 1117) (by decide +kernel), List.mem_of_getElem? (i := 1506) (by decide +kernel), List.mem_of_getElem? (i := 1507) (by decide +kernel)⟩
theorem lw_p69 : lw_okq (⟨"SleepRopeModel", "opens", "(I)V"⟩, 82) := ⟨⟨by decide +kernel, by decide +kernel⟩, List.mem_of_getElem? (i := 1117) (by decide +kernel), List.mem_of_getElem? (i := 1510) (by decide +kernel), List.mem_of_getElem? (i := 1511) (by decide +kernel)⟩
theorem lw_p70 : lw_okq (⟨"SleepRopeModel", "add", "(II)V"⟩, 82) := ⟨⟨by decide +kernel, by decide +kernel⟩, List.mem_of_getElem? (i := 1117) (by decide +kernel), List.mem_of_getElem? (i := 1514) (by decide +kernel), List.mem_of_getElem? (i := 1515) (by decide +kernel)⟩
theorem lw_p71 : lw_okq (⟨"SleepRopeModel", "goesOn", "()Z"⟩, 82) := ⟨⟨by decide +kernel, by decide +kernel⟩, List.mem_of_getElem? (i := 1117) (by decide +kernel), List.mem_of_getElem? (i := 1518) (by decide +kernel), List.mem_of_getElem? (i := 1519) (by decide +kernel)⟩
theorem lw_p72 : lw_okq (⟨"SleepRopeModel", "joins", "(I)V"⟩, 82) := ⟨⟨by decide +kernel, by decide +kernel⟩, List.mem_of_getElem? (i := 1117) (by decide +kernel), List.mem_of_getElem? (i := 1522) (by decide +kernel), List.mem_of_getElem? (i := 1523) (by decide +kernel)⟩
theorem lw_p73 : lw_okq (⟨"SleepRopeModel", "ends", "(I)V"⟩, 82) := ⟨⟨by decide +kernel, by decide +kernel⟩, List.mem_of_getElem? (i := 1117) (by decide +kernel), List.mem_of_getElem? (i := 1529) (by decide +kernel), List.mem_of_getElem? (i := 1530) (by decide +kernel)⟩
theorem lw_p74 : lw_okq (⟨"SleepRopeModel", "must", "(I)V"⟩, 82) := ⟨⟨by decide +kernel, by decide +kernel⟩, List.mem_of_getElem? (i := 1117) (by decide +kernel), List.mem_of_getElem? (i := 1533) (by decide +kernel), List.mem_of_getElem? (i := 1534) (by decide +kernel)⟩
theorem lw_p75 : lw_okq (⟨"SleepRopeModel", "begins", "()V"⟩, 82) := ⟨⟨by decide +kernel, by decide +kernel⟩, List.mem_of_getElem? (i := 1117) (by decide +kernel), List.mem_of_getElem? (i := 1537) (by decide +kernel), List.mem_of_getElem? (i := 1538) (by decide +kernel)⟩
theorem lw_p76 : lw_okq (⟨"SleepRopeModel", "clears", "(I)V"⟩, 82) := ⟨⟨by decide +kernel, by decide +kernel⟩, List.mem_of_getElem? (i := 1117) (by decide +kernel), List.mem_of_getElem? (i := 1541) (by decide +kernel), List.mem_of_getElem? (i := 1542) (by decide +kernel)⟩
theorem lw_p77 : lw_okq (⟨"SleepRopeModel", "ring", "(I)I"⟩, 82) := ⟨⟨by decide +kernel, by decide +kernel⟩, List.mem_of_getElem? (i := 1117) (by decide +kernel), List.mem_of_getElem? (i := 1557) (by decide +kernel), List.mem_of_getElem? (i := 1558) (by decide +kernel)⟩
theorem lw_p78 : lw_okq (⟨"SleepRopeModel", "copies", "(II)V"⟩, 82) := ⟨⟨by decide +kernel, by decide +kernel⟩, List.mem_of_getElem? (i := 1117) (by decide +kernel), List.mem_of_getElem? (i := 1561) (by decide +kernel), List.mem_of_getElem? (i := 1562) (by decide +kernel)⟩
theorem lw_p79 : lw_okq (⟨"SleepRopeModel", "many", "()I"⟩, 82) := ⟨⟨by decide +kernel, by decide +kernel⟩, List.mem_of_getElem? (i := 1117) (by decide +kernel), List.mem_of_getElem? (i := 1569) (by decide +kernel), List.mem_of_getElem? (i := 1570) (by decide +kernel)⟩
def lw_privs_5 : List (MethodName × Nat) := [(⟨"SleepRopeModel", "reads", "(Z)V"⟩, 82), (⟨"SleepRopeModel", "pushes", "(I)V"⟩, 82), (⟨"SleepRopeModel", "operand", "()Z"⟩, 82), (⟨"SleepRopeModel", "holdsBack", "(I)V"⟩, 82), (⟨"SleepRopeModel", "isSign", "(I)Z"⟩, 82), (⟨"SleepRopeModel", "opens", "(I)V"⟩, 82), (⟨"SleepRopeModel", "add", "(II)V"⟩, 82), (⟨"SleepRopeModel", "goesOn", "()Z"⟩, 82), (⟨"SleepRopeModel", "joins", "(I)V"⟩, 82), (⟨"SleepRopeModel", "ends", "(I)V"⟩, 82), (⟨"SleepRopeModel", "must", "(I)V"⟩, 82), (⟨"SleepRopeModel", "begins", "()V"⟩, 82), (⟨"SleepRopeModel", "clears", "(I)V"⟩, 82), (⟨"SleepRopeModel", "ring", "(I)I"⟩, 82), (⟨"SleepRopeModel", "copies", "(II)V"⟩, 82), (⟨"SleepRopeModel", "many", "()I"⟩, 82)]
theorem lw_r5 : ∀ q ∈ lw_privs_5, lw_okq q := List.forall_mem_cons.mpr ⟨lw_p64, List.forall_mem_cons.mpr ⟨lw_p65, List.forall_mem_cons.mpr ⟨lw_p66, List.forall_mem_cons.mpr ⟨lw_p67, List.forall_mem_cons.mpr ⟨lw_p68, List.forall_mem_cons.mpr ⟨lw_p69, List.forall_mem_cons.mpr ⟨lw_p70, List.forall_mem_cons.mpr ⟨lw_p71, List.forall_mem_cons.mpr ⟨lw_p72, List.forall_mem_cons.mpr ⟨lw_p73, List.forall_mem_cons.mpr ⟨lw_p74, List.forall_mem_cons.mpr ⟨lw_p75, List.forall_mem_cons.mpr ⟨lw_p76, List.forall_mem_cons.mpr ⟨lw_p77, List.forall_mem_cons.mpr ⟨lw_p78, List.forall_mem_cons.mpr ⟨lw_p79, fun _ h => absurd h List.not_mem_nil⟩⟩⟩⟩⟩⟩⟩⟩⟩⟩⟩⟩⟩⟩⟩⟩
theorem lw_p80 : lw_okq (⟨"SleepRopeModel", "pieces", "()I"⟩, 82) := ⟨⟨by decide +kernel, by decide +kernel⟩, List.mem_of_getElem? (i := 1117) (by decide +kernel), List.mem_of_getElem? (i := 1573) (by decide +kernel), List.mem_of_getElem? (i := 1574) (by decide +kernel)⟩
theorem lw_p81 : lw_okq (⟨"SleepRopeModel", "isBoy", "(I)Z"⟩, 82) := ⟨⟨by decide +kernel, by decide +kernel⟩, List.mem_of_getElem? (i := 1117) (by decide +kernel), List.mem_of_getElem? (i := 1586) (by decide +kernel), List.mem_of_getElem? (i := 1587) (by decide +kernel)⟩
theorem lw_p82 : lw_okq (⟨"SleepRopeModel", "placeOf", "(II)I"⟩, 82) := ⟨⟨by decide +kernel, by decide +kernel⟩, List.mem_of_getElem? (i := 1117) (by decide +kernel), List.mem_of_getElem? (i := 1590) (by decide +kernel), List.mem_of_getElem? (i := 1591) (by decide +kernel)⟩
theorem lw_p83 : lw_okq (⟨"SleepRopeModel", "isKnot", "(I)Z"⟩, 82) := ⟨⟨by decide +kernel, by decide +kernel⟩, List.mem_of_getElem? (i := 1117) (by decide +kernel), List.mem_of_getElem? (i := 1602) (by decide +kernel), List.mem_of_getElem? (i := 1603) (by decide +kernel)⟩
theorem lw_p84 : lw_okq (⟨"SleepRopeModel", "strain", "(I)I"⟩, 82) := ⟨⟨by decide +kernel, by decide +kernel⟩, List.mem_of_getElem? (i := 1117) (by decide +kernel), List.mem_of_getElem? (i := 1606) (by decide +kernel), List.mem_of_getElem? (i := 1607) (by decide +kernel)⟩
theorem lw_p85 : lw_okq (⟨"SleepRopeModel", "isDream", "(I)Z"⟩, 82) := ⟨⟨by decide +kernel, by decide +kernel⟩, List.mem_of_getElem? (i := 1117) (by decide +kernel), List.mem_of_getElem? (i := 1614) (by decide +kernel), List.mem_of_getElem? (i := 1615) (by decide +kernel)⟩
theorem lw_p86 : lw_okq (⟨"SleepRopeModel", "rowNow", "(I)V"⟩, 82) := ⟨⟨by decide +kernel, by decide +kernel⟩, List.mem_of_getElem? (i := 1117) (by decide +kernel), List.mem_of_getElem? (i := 1626) (by decide +kernel), List.mem_of_getElem? (i := 1627) (by decide +kernel)⟩
theorem lw_p87 : lw_okq (⟨"SleepRopeModel", "passedOf", "(II)I"⟩, 82) := ⟨⟨by decide +kernel, by decide +kernel⟩, List.mem_of_getElem? (i := 1117) (by decide +kernel), List.mem_of_getElem? (i := 1630) (by decide +kernel), List.mem_of_getElem? (i := 1631) (by decide +kernel)⟩
theorem lw_p88 : lw_okq (⟨"SleepRopeModel", "isGhost", "(I)Z"⟩, 82) := ⟨⟨by decide +kernel, by decide +kernel⟩, List.mem_of_getElem? (i := 1117) (by decide +kernel), List.mem_of_getElem? (i := 1634) (by decide +kernel), List.mem_of_getElem? (i := 1635) (by decide +kernel)⟩
theorem lw_p89 : lw_okq (⟨"SleepRopeModel", "meets", "(II)V"⟩, 82) := ⟨⟨by decide +kernel, by decide +kernel⟩, List.mem_of_getElem? (i := 1117) (by decide +kernel), List.mem_of_getElem? (i := 1638) (by decide +kernel), List.mem_of_getElem? (i := 1639) (by decide +kernel)⟩
theorem lw_p90 : lw_okq (⟨"SleepRopeModel", "beside", "(I)I"⟩, 82) := ⟨⟨by decide +kernel, by decide +kernel⟩, List.mem_of_getElem? (i := 1117) (by decide +kernel), List.mem_of_getElem? (i := 1642) (by decide +kernel), List.mem_of_getElem? (i := 1643) (by decide +kernel)⟩
theorem lw_p91 : lw_okq (⟨"SleepRopeModel", "isTied", "(I)Z"⟩, 82) := ⟨⟨by decide +kernel, by decide +kernel⟩, List.mem_of_getElem? (i := 1117) (by decide +kernel), List.mem_of_getElem? (i := 1646) (by decide +kernel), List.mem_of_getElem? (i := 1647) (by decide +kernel)⟩
theorem lw_p92 : lw_okq (⟨"SleepRopeModel", "snores", "(I)Z"⟩, 82) := ⟨⟨by decide +kernel, by decide +kernel⟩, List.mem_of_getElem? (i := 1117) (by decide +kernel), List.mem_of_getElem? (i := 1650) (by decide +kernel), List.mem_of_getElem? (i := 1651) (by decide +kernel)⟩
theorem lw_p93 : lw_okq (⟨"SleepRopeModel", "lawOf", "(III)I"⟩, 82) := ⟨⟨by decide +kernel, by decide +kernel⟩, List.mem_of_getElem? (i := 1117) (by decide +kernel), List.mem_of_getElem? (i := 1654) (by decide +kernel), List.mem_of_getElem? (i := 1655) (by decide +kernel)⟩
theorem lw_p94 : lw_okq (⟨"SleepRopeModel", "reckons", "(II)J"⟩, 82) := ⟨⟨by decide +kernel, by decide +kernel⟩, List.mem_of_getElem? (i := 1117) (by decide +kernel), List.mem_of_getElem? (i := 1658) (by decide +kernel), List.mem_of_getElem? (i := 1659) (by decide +kernel)⟩
theorem lw_p95 : lw_okq (⟨"SleepRopeModel", "deepOf", "(II)I"⟩, 82) := ⟨⟨by decide +kernel, by decide +kernel⟩, List.mem_of_getElem? (i := 1117) (by decide +kernel), List.mem_of_getElem? (i := 1673) (by decide +kernel), List.mem_of_getElem? (i := 1674) (by decide +kernel)⟩
def lw_privs_6 : List (MethodName × Nat) := [(⟨"SleepRopeModel", "pieces", "()I"⟩, 82), (⟨"SleepRopeModel", "isBoy", "(I)Z"⟩, 82), (⟨"SleepRopeModel", "placeOf", "(II)I"⟩, 82), (⟨"SleepRopeModel", "isKnot", "(I)Z"⟩, 82), (⟨"SleepRopeModel", "strain", "(I)I"⟩, 82), (⟨"SleepRopeModel", "isDream", "(I)Z"⟩, 82), (⟨"SleepRopeModel", "rowNow", "(I)V"⟩, 82), (⟨"SleepRopeModel", "passedOf", "(II)I"⟩, 82), (⟨"SleepRopeModel", "isGhost", "(I)Z"⟩, 82), (⟨"SleepRopeModel", "meets", "(II)V"⟩, 82), (⟨"SleepRopeModel", "beside", "(I)I"⟩, 82), (⟨"SleepRopeModel", "isTied", "(I)Z"⟩, 82), (⟨"SleepRopeModel", "snores", "(I)Z"⟩, 82), (⟨"SleepRopeModel", "lawOf", "(III)I"⟩, 82), (⟨"SleepRopeModel", "reckons", "(II)J"⟩, 82), (⟨"SleepRopeModel", "deepOf", "(II)I"⟩, 82)]
theorem lw_r6 : ∀ q ∈ lw_privs_6, lw_okq q := List.forall_mem_cons.mpr ⟨lw_p80, List.forall_mem_cons.mpr ⟨lw_p81, List.forall_mem_cons.mpr ⟨lw_p82, List.forall_mem_cons.mpr ⟨lw_p83, List.forall_mem_cons.mpr ⟨lw_p84, List.forall_mem_cons.mpr ⟨lw_p85, List.forall_mem_cons.mpr ⟨lw_p86, List.forall_mem_cons.mpr ⟨lw_p87, List.forall_mem_cons.mpr ⟨lw_p88, List.forall_mem_cons.mpr ⟨lw_p89, List.forall_mem_cons.mpr ⟨lw_p90, List.forall_mem_cons.mpr ⟨lw_p91, List.forall_mem_cons.mpr ⟨lw_p92, List.forall_mem_cons.mpr ⟨lw_p93, List.forall_mem_cons.mpr ⟨lw_p94, List.forall_mem_cons.mpr ⟨lw_p95, fun _ h => absurd h List.not_mem_nil⟩⟩⟩⟩⟩⟩⟩⟩⟩⟩⟩⟩⟩⟩⟩⟩
theorem lw_p96 : lw_okq (⟨"SleepRopeModel", "keeps", "()V"⟩, 82) := ⟨⟨by decide +kernel, by decide +kernel⟩, List.mem_of_getElem? (i := 1117) (by decide +kernel), List.mem_of_getElem? (i := 1681) (by decide +kernel), List.mem_of_getElem? (i := 1682) (by decide +kernel)⟩
theorem lw_p97 : lw_okq (⟨"SleepRopeModel", "minuteGoes", "(I)V"⟩, 82) := ⟨⟨by decide +kernel, by decide +kernel⟩, List.mem_of_getElem? (i := 1117) (by decide +kernel), List.mem_of_getElem? (i := 1685) (by decide +kernel), List.mem_of_getElem? (i := 1686) (by decide +kernel)⟩
theorem lw_p98 : lw_okq (⟨"SleepRopeModel", "canDream", "(II)Z"⟩, 82) := ⟨⟨by decide +kernel, by decide +kernel⟩, List.mem_of_getElem? (i := 1117) (by decide +kernel), List.mem_of_getElem? (i := 1689) (by decide +kernel), List.mem_of_getElem? (i := 1690) (by decide +kernel)⟩
theorem lw_p99 : lw_okq (⟨"SleepRopeModel", "begin", "(IIIII)I"⟩, 82) := ⟨⟨by decide +kernel, by decide +kernel⟩, List.mem_of_getElem? (i := 1117) (by decide +kernel), List.mem_of_getElem? (i := 1693) (by decide +kernel), List.mem_of_getElem? (i := 1694) (by decide +kernel)⟩
theorem lw_p100 : lw_okq (⟨"SleepRopeModel", "tells", "(IIIII)V"⟩, 82) := ⟨⟨by decide +kernel, by decide +kernel⟩, List.mem_of_getElem? (i := 1117) (by decide +kernel), List.mem_of_getElem? (i := 1697) (by decide +kernel), List.mem_of_getElem? (i := 1698) (by decide +kernel)⟩
theorem lw_p101 : lw_okq (⟨"SleepRopeModel", "tugs", "(II)V"⟩, 82) := ⟨⟨by decide +kernel, by decide +kernel⟩, List.mem_of_getElem? (i := 1117) (by decide +kernel), List.mem_of_getElem? (i := 1701) (by decide +kernel), List.mem_of_getElem? (i := 1702) (by decide +kernel)⟩
theorem lw_p102 : lw_okq (⟨"SleepRopeModel", "slackAt", "(I)I"⟩, 82) := ⟨⟨by decide +kernel, by decide +kernel⟩, List.mem_of_getElem? (i := 1117) (by decide +kernel), List.mem_of_getElem? (i := 1705) (by decide +kernel), List.mem_of_getElem? (i := 1706) (by decide +kernel)⟩
theorem lw_p103 : lw_okq (⟨"SleepRopeModel", "comes", "(II)I"⟩, 82) := ⟨⟨by decide +kernel, by decide +kernel⟩, List.mem_of_getElem? (i := 1117) (by decide +kernel), List.mem_of_getElem? (i := 1709) (by decide +kernel), List.mem_of_getElem? (i := 1710) (by decide +kernel)⟩
theorem lw_p104 : lw_okq (⟨"SleepRopeModel", "isFelt", "(IIIII)V"⟩, 82) := ⟨⟨by decide +kernel, by decide +kernel⟩, List.mem_of_getElem? (i := 1117) (by decide +kernel), List.mem_of_getElem? (i := 1716) (by decide +kernel), List.mem_of_getElem? (i := 1717) (by decide +kernel)⟩
theorem lw_p105 : lw_okq (⟨"SleepRopeModel", "wakesUp", "(II)V"⟩, 82) := ⟨⟨by decide +kernel, by decide +kernel⟩, List.mem_of_getElem? (i := 1117) (by decide +kernel), List.mem_of_getElem? (i := 1721) (by decide +kernel), List.mem_of_getElem? (i := 1722) (by decide +kernel)⟩
theorem lw_p106 : lw_okq (⟨"SleepRopeModel", "draw", "(I)I"⟩, 82) := ⟨⟨by decide +kernel, by decide +kernel⟩, List.mem_of_getElem? (i := 1117) (by decide +kernel), List.mem_of_getElem? (i := 1725) (by decide +kernel), List.mem_of_getElem? (i := 1726) (by decide +kernel)⟩
theorem lw_p107 : lw_okq (⟨"SleepRopeModel", "drawn", "()I"⟩, 82) := ⟨⟨by decide +kernel, by decide +kernel⟩, List.mem_of_getElem? (i := 1117) (by decide +kernel), List.mem_of_getElem? (i := 1733) (by decide +kernel), List.mem_of_getElem? (i := 1734) (by decide +kernel)⟩
theorem lw_p108 : lw_okq (⟨"SleepRopeModel", "oddsAll", "()I"⟩, 82) := ⟨⟨by decide +kernel, by decide +kernel⟩, List.mem_of_getElem? (i := 1117) (by decide +kernel), List.mem_of_getElem? (i := 1737) (by decide +kernel), List.mem_of_getElem? (i := 1738) (by decide +kernel)⟩
theorem lw_p109 : lw_okq (⟨"SleepRopeModel", "badness", "()I"⟩, 82) := ⟨⟨by decide +kernel, by decide +kernel⟩, List.mem_of_getElem? (i := 1117) (by decide +kernel), List.mem_of_getElem? (i := 1781) (by decide +kernel), List.mem_of_getElem? (i := 1782) (by decide +kernel)⟩
theorem lw_p110 : lw_okq (⟨"SleepRopeModel", "nextRow", "()Z"⟩, 82) := ⟨⟨by decide +kernel, by decide +kernel⟩, List.mem_of_getElem? (i := 1117) (by decide +kernel), List.mem_of_getElem? (i := 1789) (by decide +kernel), List.mem_of_getElem? (i := 1790) (by decide +kernel)⟩
theorem lw_p111 : lw_okq (⟨"SleepRopeModel", "changes", "(II)V"⟩, 82) := ⟨⟨by decide +kernel, by decide +kernel⟩, List.mem_of_getElem? (i := 1117) (by decide +kernel), List.mem_of_getElem? (i := 1793) (by decide +kernel), List.mem_of_getElem? (i := 1794) (by decide +kernel)⟩
def lw_privs_7 : List (MethodName × Nat) := [(⟨"SleepRopeModel", "keeps", "()V"⟩, 82), (⟨"SleepRopeModel", "minuteGoes", "(I)V"⟩, 82), (⟨"SleepRopeModel", "canDream", "(II)Z"⟩, 82), (⟨"SleepRopeModel", "begin", "(IIIII)I"⟩, 82), (⟨"SleepRopeModel", "tells", "(IIIII)V"⟩, 82), (⟨"SleepRopeModel", "tugs", "(II)V"⟩, 82), (⟨"SleepRopeModel", "slackAt", "(I)I"⟩, 82), (⟨"SleepRopeModel", "comes", "(II)I"⟩, 82), (⟨"SleepRopeModel", "isFelt", "(IIIII)V"⟩, 82), (⟨"SleepRopeModel", "wakesUp", "(II)V"⟩, 82), (⟨"SleepRopeModel", "draw", "(I)I"⟩, 82), (⟨"SleepRopeModel", "drawn", "()I"⟩, 82), (⟨"SleepRopeModel", "oddsAll", "()I"⟩, 82), (⟨"SleepRopeModel", "badness", "()I"⟩, 82), (⟨"SleepRopeModel", "nextRow", "()Z"⟩, 82), (⟨"SleepRopeModel", "changes", "(II)V"⟩, 82)]
theorem lw_r7 : ∀ q ∈ lw_privs_7, lw_okq q := List.forall_mem_cons.mpr ⟨lw_p96, List.forall_mem_cons.mpr ⟨lw_p97, List.forall_mem_cons.mpr ⟨lw_p98, List.forall_mem_cons.mpr ⟨lw_p99, List.forall_mem_cons.mpr ⟨lw_p100, List.forall_mem_cons.mpr ⟨lw_p101, List.forall_mem_cons.mpr ⟨lw_p102, List.forall_mem_cons.mpr ⟨lw_p103, List.forall_mem_cons.mpr ⟨lw_p104, List.forall_mem_cons.mpr ⟨lw_p105, List.forall_mem_cons.mpr ⟨lw_p106, List.forall_mem_cons.mpr ⟨lw_p107, List.forall_mem_cons.mpr ⟨lw_p108, List.forall_mem_cons.mpr ⟨lw_p109, List.forall_mem_cons.mpr ⟨lw_p110, List.forall_mem_cons.mpr ⟨lw_p111, fun _ h => absurd h List.not_mem_nil⟩⟩⟩⟩⟩⟩⟩⟩⟩⟩⟩⟩⟩⟩⟩⟩
theorem lw_p112 : lw_okq (⟨"SleepRopeModel", "exchanged", "()I"⟩, 82) := ⟨⟨by decide +kernel, by decide +kernel⟩, List.mem_of_getElem? (i := 1117) (by decide +kernel), List.mem_of_getElem? (i := 1801) (by decide +kernel), List.mem_of_getElem? (i := 1802) (by decide +kernel)⟩
theorem lw_p113 : lw_okq (⟨"SleepRopeModel", "ropeOf", "(I)I"⟩, 82) := ⟨⟨by decide +kernel, by decide +kernel⟩, List.mem_of_getElem? (i := 1117) (by decide +kernel), List.mem_of_getElem? (i := 1813) (by decide +kernel), List.mem_of_getElem? (i := 1814) (by decide +kernel)⟩
theorem lw_p114 : lw_okq (⟨"SleepRopeModel", "allOdds", "()I"⟩, 82) := ⟨⟨by decide +kernel, by decide +kernel⟩, List.mem_of_getElem? (i := 1117) (by decide +kernel), List.mem_of_getElem? (i := 1825) (by decide +kernel), List.mem_of_getElem? (i := 1826) (by decide +kernel)⟩
theorem lw_p115 : lw_okq (⟨"SleepRopeModel", "oddsIf", "(II)I"⟩, 82) := ⟨⟨by decide +kernel, by decide +kernel⟩, List.mem_of_getElem? (i := 1117) (by decide +kernel), List.mem_of_getElem? (i := 1829) (by decide +kernel), List.mem_of_getElem? (i := 1830) (by decide +kernel)⟩
theorem lw_p116 : lw_okq (⟨"SleepRopeModel", "firstCuts", "(I)Z"⟩, 82) := ⟨⟨by decide +kernel, by decide +kernel⟩, List.mem_of_getElem? (i := 1117) (by decide +kernel), List.mem_of_getElem? (i := 1837) (by decide +kernel), List.mem_of_getElem? (i := 1838) (by decide +kernel)⟩
theorem lw_p117 : lw_okq (⟨"SleepRopeModel", "nextTied", "(I)I"⟩, 82) := ⟨⟨by decide +kernel, by decide +kernel⟩, List.mem_of_getElem? (i := 1117) (by decide +kernel), List.mem_of_getElem? (i := 1841) (by decide +kernel), List.mem_of_getElem? (i := 1842) (by decide +kernel)⟩
theorem lw_p118 : lw_okq (⟨"SleepRopeModel", "heaviest", "(I)I"⟩, 82) := ⟨⟨by decide +kernel, by decide +kernel⟩, List.mem_of_getElem? (i := 1117) (by decide +kernel), List.mem_of_getElem? (i := 1845) (by decide +kernel), List.mem_of_getElem? (i := 1846) (by decide +kernel)⟩
theorem lw_p119 : lw_okq (⟨"SleepRopeModel", "isCut", "(II)Z"⟩, 82) := ⟨⟨by decide +kernel, by decide +kernel⟩, List.mem_of_getElem? (i := 1117) (by decide +kernel), List.mem_of_getElem? (i := 1849) (by decide +kernel), List.mem_of_getElem? (i := 1850) (by decide +kernel)⟩
theorem lw_p120 : lw_okq (⟨"SleepRopeModel", "nextCuts", "(I)Z"⟩, 82) := ⟨⟨by decide +kernel, by decide +kernel⟩, List.mem_of_getElem? (i := 1117) (by decide +kernel), List.mem_of_getElem? (i := 1853) (by decide +kernel), List.mem_of_getElem? (i := 1854) (by decide +kernel)⟩
theorem lw_p121 : lw_okq (⟨"SleepRopeModel", "writes", "(I)V"⟩, 82) := ⟨⟨by decide +kernel, by decide +kernel⟩, List.mem_of_getElem? (i := 1117) (by decide +kernel), List.mem_of_getElem? (i := 1873) (by decide +kernel), List.mem_of_getElem? (i := 1874) (by decide +kernel)⟩
theorem lw_p122 : lw_okq (⟨"SleepRopeModel", "isImage", "(I)Z"⟩, 82) := ⟨⟨by decide +kernel, by decide +kernel⟩, List.mem_of_getElem? (i := 1117) (by decide +kernel), List.mem_of_getElem? (i := 1885) (by decide +kernel), List.mem_of_getElem? (i := 1886) (by decide +kernel)⟩
theorem lw_p123 : lw_okq (⟨"SleepRopeModel", "knotsMany", "()I"⟩, 82) := ⟨⟨by decide +kernel, by decide +kernel⟩, List.mem_of_getElem? (i := 1117) (by decide +kernel), List.mem_of_getElem? (i := 1889) (by decide +kernel), List.mem_of_getElem? (i := 1890) (by decide +kernel)⟩
theorem lw_p124 : lw_okq (⟨"SleepRopeModel", "isBoyOn", "(I)Z"⟩, 82) := ⟨⟨by decide +kernel, by decide +kernel⟩, List.mem_of_getElem? (i := 1117) (by decide +kernel), List.mem_of_getElem? (i := 1893) (by decide +kernel), List.mem_of_getElem? (i := 1894) (by decide +kernel)⟩
def lw_privs_8 : List (MethodName × Nat) := [(⟨"SleepRopeModel", "exchanged", "()I"⟩, 82), (⟨"SleepRopeModel", "ropeOf", "(I)I"⟩, 82), (⟨"SleepRopeModel", "allOdds", "()I"⟩, 82), (⟨"SleepRopeModel", "oddsIf", "(II)I"⟩, 82), (⟨"SleepRopeModel", "firstCuts", "(I)Z"⟩, 82), (⟨"SleepRopeModel", "nextTied", "(I)I"⟩, 82), (⟨"SleepRopeModel", "heaviest", "(I)I"⟩, 82), (⟨"SleepRopeModel", "isCut", "(II)Z"⟩, 82), (⟨"SleepRopeModel", "nextCuts", "(I)Z"⟩, 82), (⟨"SleepRopeModel", "writes", "(I)V"⟩, 82), (⟨"SleepRopeModel", "isImage", "(I)Z"⟩, 82), (⟨"SleepRopeModel", "knotsMany", "()I"⟩, 82), (⟨"SleepRopeModel", "isBoyOn", "(I)Z"⟩, 82)]
theorem lw_r8 : ∀ q ∈ lw_privs_8, lw_okq q := List.forall_mem_cons.mpr ⟨lw_p112, List.forall_mem_cons.mpr ⟨lw_p113, List.forall_mem_cons.mpr ⟨lw_p114, List.forall_mem_cons.mpr ⟨lw_p115, List.forall_mem_cons.mpr ⟨lw_p116, List.forall_mem_cons.mpr ⟨lw_p117, List.forall_mem_cons.mpr ⟨lw_p118, List.forall_mem_cons.mpr ⟨lw_p119, List.forall_mem_cons.mpr ⟨lw_p120, List.forall_mem_cons.mpr ⟨lw_p121, List.forall_mem_cons.mpr ⟨lw_p122, List.forall_mem_cons.mpr ⟨lw_p123, List.forall_mem_cons.mpr ⟨lw_p124, fun _ h => absurd h List.not_mem_nil⟩⟩⟩⟩⟩⟩⟩⟩⟩⟩⟩⟩⟩
def lw_privs : List (MethodName × Nat) := lw_privs_1 ++ (lw_privs_2 ++ (lw_privs_3 ++ (lw_privs_4 ++ (lw_privs_5 ++ (lw_privs_6 ++ (lw_privs_7 ++ (lw_privs_8)))))))
def lw_tbl : List Cond := k2_sels lw_privs ++ tables_1
theorem lw_privs_ok : ∀ q ∈ lw_privs, lw_okq q := by
  show ∀ q ∈ lw_privs_1 ++ (lw_privs_2 ++ (lw_privs_3 ++ (lw_privs_4 ++ (lw_privs_5 ++ (lw_privs_6 ++ (lw_privs_7 ++ (lw_privs_8))))))), lw_okq q
  exact List.forall_mem_append.mpr ⟨lw_r1, List.forall_mem_append.mpr ⟨lw_r2, List.forall_mem_append.mpr ⟨lw_r3, List.forall_mem_append.mpr ⟨lw_r4, List.forall_mem_append.mpr ⟨lw_r5, List.forall_mem_append.mpr ⟨lw_r6, List.forall_mem_append.mpr ⟨lw_r7, lw_r8⟩⟩⟩⟩⟩⟩⟩
-- ===== end of PART A; then your names; then what follows =====
def RX0 : String := "SleepRope$Acts"
def TX0 : u_T := fun k => match k with
  | 0 => ("SleepRope$Acts", "held", "I", false)
  | 1 => ("SleepRope$Acts", "next", "I", false)
  | _ => ("SleepRope$Acts", "ropes", "[LSleepRope$Rope;", true)
def tyX0 : Nat → FieldType := fun k => match k with
  | 0 => .int
  | 1 => .int
  | _ => .array (.object "SleepRope$Rope")
theorem nmX0 : ∀ a, a < 3 → ∀ b, b < 3 → a ≠ b → (TX0 a).2.1 ≠ (TX0 b).2.1 := by decide +kernel
theorem tyX0_ok : ∀ k, k < 3 → parseFieldDescriptor (TX0 k).2.2.1 = some (tyX0 k) := by decide +kernel
abbrev cX0_init : ByteArray := prog_2_method_1_code
def yX0_init : MethodName := ⟨RX0, "<init>", "()V"⟩
abbrev cX0_forget : ByteArray := prog_2_method_2_code
def yX0_forget : MethodName := ⟨RX0, "forget", "()V"⟩
abbrev cX0_keep : ByteArray := prog_2_method_3_code
def yX0_keep : MethodName := ⟨RX0, "keep", "(LSleepRope$Rope;)V"⟩
abbrev cX0_takeBack : ByteArray := prog_2_method_4_code
def yX0_takeBack : MethodName := ⟨RX0, "takeBack", "(LSleepRope$Rope;)Z"⟩
def RX1 : String := "SleepRope$Dorm"
def TX1 : u_T := fun k => match k with
  | 0 => ("SleepRope$Dorm", "statements", "I", false)
  | 1 => ("SleepRope$Dorm", "boys", "I", false)
  | 2 => ("SleepRope$Dorm", "dreams", "I", false)
  | 3 => ("SleepRope$Dorm", "boyName", "[I", true)
  | 4 => ("SleepRope$Dorm", "weight", "[I", true)
  | 5 => ("SleepRope$Dorm", "depth", "[I", true)
  | 6 => ("SleepRope$Dorm", "odds", "[I", true)
  | 7 => ("SleepRope$Dorm", "pulls", "[I", true)
  | 8 => ("SleepRope$Dorm", "marks", "[I", true)
  | 9 => ("SleepRope$Dorm", "dreamName", "[I", true)
  | 10 => ("SleepRope$Dorm", "tug", "[I", true)
  | 11 => ("SleepRope$Dorm", "lasts", "[I", true)
  | 12 => ("SleepRope$Dorm", "passes", "[I", true)
  | 13 => ("SleepRope$Dorm", "dreamOdds", "[I", true)
  | 14 => ("SleepRope$Dorm", "slack", "[I", true)
  | _ => ("SleepRope$Dorm", "laws", "LSleepRope$Laws;", true)
def tyX1 : Nat → FieldType := fun k => match k with
  | 0 => .int
  | 1 => .int
  | 2 => .int
  | 3 => .array .int
  | 4 => .array .int
  | 5 => .array .int
  | 6 => .array .int
  | 7 => .array .int
  | 8 => .array .int
  | 9 => .array .int
  | 10 => .array .int
  | 11 => .array .int
  | 12 => .array .int
  | 13 => .array .int
  | 14 => .array .int
  | _ => .object "SleepRope$Laws"
theorem nmX1 : ∀ a, a < 16 → ∀ b, b < 16 → a ≠ b → (TX1 a).2.1 ≠ (TX1 b).2.1 := by decide +kernel
theorem tyX1_ok : ∀ k, k < 16 → parseFieldDescriptor (TX1 k).2.2.1 = some (tyX1 k) := by decide +kernel
abbrev cX1_init : ByteArray := prog_3_method_1_code
def yX1_init : MethodName := ⟨RX1, "<init>", "()V"⟩
abbrev cX1_empty : ByteArray := prog_3_method_2_code
def yX1_empty : MethodName := ⟨RX1, "empty", "()V"⟩
abbrev cX1_isGhost : ByteArray := prog_3_method_3_code
def yX1_isGhost : MethodName := ⟨RX1, "isGhost", "(I)Z"⟩
abbrev cX1_isSnorer : ByteArray := prog_3_method_4_code
def yX1_isSnorer : MethodName := ⟨RX1, "isSnorer", "(I)Z"⟩
abbrev cX1_isTaken : ByteArray := prog_3_method_5_code
def yX1_isTaken : MethodName := ⟨RX1, "isTaken", "(I)Z"⟩
def RX2 : String := "SleepRope$Laws"
def TX2 : u_T := fun k => match k with
  | 0 => ("SleepRope$Laws", "count", "I", false)
  | 1 => ("SleepRope$Laws", "length", "I", false)
  | 2 => ("SleepRope$Laws", "code", "[I", true)
  | 3 => ("SleepRope$Laws", "isDeep", "[Z", true)
  | 4 => ("SleepRope$Laws", "sumAt", "[I", true)
  | 5 => ("SleepRope$Laws", "testAt", "[I", true)
  | 6 => ("SleepRope$Laws", "endAt", "[I", true)
  | 7 => ("SleepRope$Laws", "stack", "[I", true)
  | _ => ("SleepRope$Laws", "asked", "[I", true)
def tyX2 : Nat → FieldType := fun k => match k with
  | 0 => .int
  | 1 => .int
  | 2 => .array .int
  | 3 => .array .boolean
  | 4 => .array .int
  | 5 => .array .int
  | 6 => .array .int
  | 7 => .array .int
  | _ => .array .int
theorem nmX2 : ∀ a, a < 9 → ∀ b, b < 9 → a ≠ b → (TX2 a).2.1 ≠ (TX2 b).2.1 := by decide +kernel
theorem tyX2_ok : ∀ k, k < 9 → parseFieldDescriptor (TX2 k).2.2.1 = some (tyX2 k) := by decide +kernel
abbrev cX2_init : ByteArray := prog_4_method_1_code
def yX2_init : MethodName := ⟨RX2, "<init>", "()V"⟩
abbrev cX2_empty : ByteArray := prog_4_method_2_code
def yX2_empty : MethodName := ⟨RX2, "empty", "()V"⟩
abbrev cX2_put : ByteArray := prog_4_method_3_code
def yX2_put : MethodName := ⟨RX2, "put", "(I)V"⟩
abbrev cX2_beginSum : ByteArray := prog_4_method_4_code
def yX2_beginSum : MethodName := ⟨RX2, "beginSum", "(Z)V"⟩
abbrev cX2_beginTest : ByteArray := prog_4_method_5_code
def yX2_beginTest : MethodName := ⟨RX2, "beginTest", "()V"⟩
abbrev cX2_close : ByteArray := prog_4_method_6_code
def yX2_close : MethodName := ⟨RX2, "close", "()V"⟩
abbrev cX2_first : ByteArray := prog_4_method_7_code
def yX2_first : MethodName := ⟨RX2, "first", "(ZII)I"⟩
abbrev cX2_run : ByteArray := prog_4_method_8_code
def yX2_run : MethodName := ⟨RX2, "run", "(II)I"⟩
abbrev cX2_joined : ByteArray := prog_4_method_9_code
def yX2_joined : MethodName := ⟨RX2, "joined", "(III)I"⟩
def RX3 : String := "SleepRope$Night"
def TX3 : u_T := fun k => match k with
  | 0 => ("SleepRope$Night", "seed", "I", false)
  | _ => ("SleepRope$Night", "tug", "LSleepRope$Tug;", true)
def tyX3 : Nat → FieldType := fun k => match k with
  | 0 => .int
  | _ => .object "SleepRope$Tug"
theorem nmX3 : ∀ a, a < 2 → ∀ b, b < 2 → a ≠ b → (TX3 a).2.1 ≠ (TX3 b).2.1 := by decide +kernel
theorem tyX3_ok : ∀ k, k < 2 → parseFieldDescriptor (TX3 k).2.2.1 = some (tyX3 k) := by decide +kernel
abbrev cX3_init : ByteArray := prog_5_method_1_code
def yX3_init : MethodName := ⟨RX3, "<init>", "()V"⟩
abbrev cX3_canBegin : ByteArray := prog_5_method_2_code
def yX3_canBegin : MethodName := ⟨RX3, "canBegin", "(LSleepRope$Dorm;LSleepRope$Rope;I)Z"⟩
abbrev cX3_begins : ByteArray := prog_5_method_3_code
def yX3_begins : MethodName := ⟨RX3, "begins", "(LSleepRope$Dorm;LSleepRope$Rope;IIZ)I"⟩
abbrev cX3_minute : ByteArray := prog_5_method_4_code
def yX3_minute : MethodName := ⟨RX3, "minute", "(LSleepRope$Dorm;LSleepRope$Rope;)V"⟩
abbrev cX3_drawnDream : ByteArray := prog_5_method_5_code
def yX3_drawnDream : MethodName := ⟨RX3, "drawnDream", "(LSleepRope$Dorm;)I"⟩
abbrev cX3_draw : ByteArray := prog_5_method_6_code
def yX3_draw : MethodName := ⟨RX3, "draw", "(I)I"⟩
def RX4 : String := "SleepRope$Orders"
def TX4 : u_T := fun k => match k with
  | 0 => ("SleepRope$Orders", "bestBad", "I", false)
  | 1 => ("SleepRope$Orders", "best", "[I", true)
  | 2 => ("SleepRope$Orders", "exchangedBad", "I", false)
  | 3 => ("SleepRope$Orders", "exchanges", "I", false)
  | 4 => ("SleepRope$Orders", "exchanged", "[I", true)
  | 5 => ("SleepRope$Orders", "twoBad", "I", false)
  | 6 => ("SleepRope$Orders", "twoBits", "I", false)
  | 7 => ("SleepRope$Orders", "bestOf", "I", false)
  | 8 => ("SleepRope$Orders", "exchangedOf", "I", false)
  | 9 => ("SleepRope$Orders", "twoOf", "I", false)
  | 10 => ("SleepRope$Orders", "bare", "LSleepRope$Rope;", true)
  | _ => ("SleepRope$Orders", "tug", "LSleepRope$Tug;", true)
def tyX4 : Nat → FieldType := fun k => match k with
  | 0 => .int
  | 1 => .array .int
  | 2 => .int
  | 3 => .int
  | 4 => .array .int
  | 5 => .int
  | 6 => .int
  | 7 => .int
  | 8 => .int
  | 9 => .int
  | 10 => .object "SleepRope$Rope"
  | _ => .object "SleepRope$Tug"
theorem nmX4 : ∀ a, a < 12 → ∀ b, b < 12 → a ≠ b → (TX4 a).2.1 ≠ (TX4 b).2.1 := by decide +kernel
theorem tyX4_ok : ∀ k, k < 12 → parseFieldDescriptor (TX4 k).2.2.1 = some (tyX4 k) := by decide +kernel
abbrev cX4_init : ByteArray := prog_6_method_1_code
def yX4_init : MethodName := ⟨RX4, "<init>", "()V"⟩
abbrev cX4_begin : ByteArray := prog_6_method_2_code
def yX4_begin : MethodName := ⟨RX4, "begin", "(LSleepRope$Dorm;LSleepRope$Rope;)V"⟩
abbrev cX4_badness : ByteArray := prog_6_method_3_code
def yX4_badness : MethodName := ⟨RX4, "badness", "(LSleepRope$Dorm;)I"⟩
abbrev cX4_badAsItIs : ByteArray := prog_6_method_4_code
def yX4_badAsItIs : MethodName := ⟨RX4, "badAsItIs", "(LSleepRope$Dorm;LSleepRope$Rope;)I"⟩
abbrev cX4_findBest : ByteArray := prog_6_method_5_code
def yX4_findBest : MethodName := ⟨RX4, "findBest", "(LSleepRope$Dorm;LSleepRope$Rope;I)V"⟩
abbrev cX4_nextOrder : ByteArray := prog_6_method_6_code
def yX4_nextOrder : MethodName := ⟨RX4, "nextOrder", "([II)Z"⟩
abbrev cX4_findExchanges : ByteArray := prog_6_method_7_code
def yX4_findExchanges : MethodName := ⟨RX4, "findExchanges", "(LSleepRope$Dorm;LSleepRope$Rope;I)V"⟩
abbrev cX4_findTwo : ByteArray := prog_6_method_8_code
def yX4_findTwo : MethodName := ⟨RX4, "findTwo", "(LSleepRope$Dorm;LSleepRope$Rope;I)V"⟩
def RX5 : String := "SleepRope$Reader"
def TX5 : u_T := fun k => match k with
  | 0 => ("SleepRope$Reader", "fault", "I", false)
  | 1 => ("SleepRope$Reader", "faultAt", "I", false)
  | 2 => ("SleepRope$Reader", "ownWords", "[I", true)
  | 3 => ("SleepRope$Reader", "kinds", "[I", true)
  | 4 => ("SleepRope$Reader", "values", "[I", true)
  | 5 => ("SleepRope$Reader", "starts", "[I", true)
  | 6 => ("SleepRope$Reader", "count", "I", false)
  | 7 => ("SleepRope$Reader", "at", "I", false)
  | 8 => ("SleepRope$Reader", "dorm", "LSleepRope$Dorm;", false)
  | 9 => ("SleepRope$Reader", "name", "I", false)
  | _ => ("SleepRope$Reader", "number", "I", false)
def tyX5 : Nat → FieldType := fun k => match k with
  | 0 => .int
  | 1 => .int
  | 2 => .array .int
  | 3 => .array .int
  | 4 => .array .int
  | 5 => .array .int
  | 6 => .int
  | 7 => .int
  | 8 => .object "SleepRope$Dorm"
  | 9 => .int
  | _ => .int
theorem nmX5 : ∀ a, a < 11 → ∀ b, b < 11 → a ≠ b → (TX5 a).2.1 ≠ (TX5 b).2.1 := by decide +kernel
theorem tyX5_ok : ∀ k, k < 11 → parseFieldDescriptor (TX5 k).2.2.1 = some (tyX5 k) := by decide +kernel
abbrev cX5_init : ByteArray := prog_7_method_1_code
def yX5_init : MethodName := ⟨RX5, "<init>", "()V"⟩
abbrev cX5_read : ByteArray := prog_7_method_2_code
def yX5_read : MethodName := ⟨RX5, "read", "([II)Z"⟩
abbrev cX5_scan : ByteArray := prog_7_method_3_code
def yX5_scan : MethodName := ⟨RX5, "scan", "([II)V"⟩
abbrev cX5_kindOf : ByteArray := prog_7_method_4_code
def yX5_kindOf : MethodName := ⟨RX5, "kindOf", "(I)I"⟩
abbrev cX5_add : ByteArray := prog_7_method_5_code
def yX5_add : MethodName := ⟨RX5, "add", "(III)V"⟩
abbrev cX5_lengthen : ByteArray := prog_7_method_6_code
def yX5_lengthen : MethodName := ⟨RX5, "lengthen", "(III)Z"⟩
abbrev cX5_own : ByteArray := prog_7_method_7_code
def yX5_own : MethodName := ⟨RX5, "own", "()I"⟩
abbrev cX5_isSign : ByteArray := prog_7_method_8_code
def yX5_isSign : MethodName := ⟨RX5, "isSign", "(C)Z"⟩
abbrev cX5_step : ByteArray := prog_7_method_9_code
def yX5_step : MethodName := ⟨RX5, "step", "()V"⟩
abbrev cX5_fails : ByteArray := prog_7_method_10_code
def yX5_fails : MethodName := ⟨RX5, "fails", "(I)Z"⟩
abbrev cX5_needsOwn : ByteArray := prog_7_method_11_code
def yX5_needsOwn : MethodName := ⟨RX5, "needsOwn", "(I)Z"⟩
abbrev cX5_needsNumber : ByteArray := prog_7_method_12_code
def yX5_needsNumber : MethodName := ⟨RX5, "needsNumber", "(II)Z"⟩
abbrev cX5_needsName : ByteArray := prog_7_method_13_code
def yX5_needsName : MethodName := ⟨RX5, "needsName", "()Z"⟩
abbrev cX5_readBoy : ByteArray := prog_7_method_14_code
def yX5_readBoy : MethodName := ⟨RX5, "readBoy", "()Z"⟩
abbrev cX5_readMarks : ByteArray := prog_7_method_15_code
def yX5_readMarks : MethodName := ⟨RX5, "readMarks", "(I)Z"⟩
abbrev cX5_readSlack : ByteArray := prog_7_method_16_code
def yX5_readSlack : MethodName := ⟨RX5, "readSlack", "()Z"⟩
abbrev cX5_readDream : ByteArray := prog_7_method_17_code
def yX5_readDream : MethodName := ⟨RX5, "readDream", "()Z"⟩
abbrev cX5_readLaw : ByteArray := prog_7_method_18_code
def yX5_readLaw : MethodName := ⟨RX5, "readLaw", "(Z)Z"⟩
abbrev cX5_readTest : ByteArray := prog_7_method_19_code
def yX5_readTest : MethodName := ⟨RX5, "readTest", "(I)Z"⟩
abbrev cX5_readFact : ByteArray := prog_7_method_20_code
def yX5_readFact : MethodName := ⟨RX5, "readFact", "(I)Z"⟩
abbrev cX5_readSum : ByteArray := prog_7_method_21_code
def yX5_readSum : MethodName := ⟨RX5, "readSum", "(I)Z"⟩
abbrev cX5_readPart : ByteArray := prog_7_method_22_code
def yX5_readPart : MethodName := ⟨RX5, "readPart", "(I)Z"⟩
def RX6 : String := "SleepRope$Rope"
def TX6 : u_T := fun k => match k with
  | 0 => ("SleepRope$Rope", "count", "I", false)
  | 1 => ("SleepRope$Rope", "minute", "I", false)
  | 2 => ("SleepRope$Rope", "who", "[I", true)
  | 3 => ("SleepRope$Rope", "asleep", "[Z", true)
  | 4 => ("SleepRope$Rope", "dream", "[I", true)
  | 5 => ("SleepRope$Rope", "left", "[I", true)
  | 6 => ("SleepRope$Rope", "caught", "[I", true)
  | 7 => ("SleepRope$Rope", "rootMinute", "[I", true)
  | 8 => ("SleepRope$Rope", "rootBoy", "[I", true)
  | 9 => ("SleepRope$Rope", "felt", "[I", true)
  | 10 => ("SleepRope$Rope", "greatest", "[I", true)
  | 11 => ("SleepRope$Rope", "together", "[I", true)
  | 12 => ("SleepRope$Rope", "tied", "[Z", true)
  | 13 => ("SleepRope$Rope", "slack", "[I", true)
  | 14 => ("SleepRope$Rope", "tugs", "I", false)
  | _ => ("SleepRope$Rope", "ring", "[I", true)
def tyX6 : Nat → FieldType := fun k => match k with
  | 0 => .int
  | 1 => .int
  | 2 => .array .int
  | 3 => .array .boolean
  | 4 => .array .int
  | 5 => .array .int
  | 6 => .array .int
  | 7 => .array .int
  | 8 => .array .int
  | 9 => .array .int
  | 10 => .array .int
  | 11 => .array .int
  | 12 => .array .boolean
  | 13 => .array .int
  | 14 => .int
  | _ => .array .int
theorem nmX6 : ∀ a, a < 16 → ∀ b, b < 16 → a ≠ b → (TX6 a).2.1 ≠ (TX6 b).2.1 := by decide +kernel
theorem tyX6_ok : ∀ k, k < 16 → parseFieldDescriptor (TX6 k).2.2.1 = some (tyX6 k) := by decide +kernel
abbrev cX6_init : ByteArray := prog_8_method_1_code
def yX6_init : MethodName := ⟨RX6, "<init>", "()V"⟩
abbrev cX6_begin : ByteArray := prog_8_method_2_code
def yX6_begin : MethodName := ⟨RX6, "begin", "(LSleepRope$Dorm;)V"⟩
abbrev cX6_take : ByteArray := prog_8_method_3_code
def yX6_take : MethodName := ⟨RX6, "take", "(LSleepRope$Rope;)V"⟩
abbrev cX6_takeKnots : ByteArray := prog_8_method_4_code
def yX6_takeKnots : MethodName := ⟨RX6, "takeKnots", "(LSleepRope$Rope;)V"⟩
abbrev cX6_placeOf : ByteArray := prog_8_method_5_code
def yX6_placeOf : MethodName := ⟨RX6, "placeOf", "(I)I"⟩
abbrev cX6_awake : ByteArray := prog_8_method_6_code
def yX6_awake : MethodName := ⟨RX6, "awake", "()I"⟩
abbrev cX6_change : ByteArray := prog_8_method_7_code
def yX6_change : MethodName := ⟨RX6, "change", "(II)V"⟩
abbrev cX6_getsUp : ByteArray := prog_8_method_8_code
def yX6_getsUp : MethodName := ⟨RX6, "getsUp", "(I)V"⟩
abbrev cX6_feelsForce : ByteArray := prog_8_method_9_code
def yX6_feelsForce : MethodName := ⟨RX6, "feelsForce", "(II)V"⟩
abbrev cX6_told : ByteArray := prog_8_method_10_code
def yX6_told : MethodName := ⟨RX6, "told", "()I"⟩
abbrev cX6_toldTug : ByteArray := prog_8_method_11_code
def yX6_toldTug : MethodName := ⟨RX6, "toldTug", "(I)I"⟩
abbrev cX6_tell : ByteArray := prog_8_method_12_code
def yX6_tell : MethodName := ⟨RX6, "tell", "(IIII)V"⟩
def RX7 : String := "SleepRope$Tug"
def TX7 : u_T := fun k => match k with
  | 0 => ("SleepRope$Tug", "came", "[I", true)
  | _ => ("SleepRope$Tug", "woken", "I", false)
def tyX7 : Nat → FieldType := fun k => match k with
  | 0 => .array .int
  | _ => .int
theorem nmX7 : ∀ a, a < 2 → ∀ b, b < 2 → a ≠ b → (TX7 a).2.1 ≠ (TX7 b).2.1 := by decide +kernel
theorem tyX7_ok : ∀ k, k < 2 → parseFieldDescriptor (TX7 k).2.2.1 = some (tyX7 k) := by decide +kernel
abbrev cX7_init : ByteArray := prog_9_method_1_code
def yX7_init : MethodName := ⟨RX7, "<init>", "()V"⟩
abbrev cX7_goes : ByteArray := prog_9_method_2_code
def yX7_goes : MethodName := ⟨RX7, "goes", "(LSleepRope$Dorm;LSleepRope$Rope;II)V"⟩
abbrev cX7_passedOn : ByteArray := prog_9_method_3_code
def yX7_passedOn : MethodName := ⟨RX7, "passedOn", "(LSleepRope$Dorm;LSleepRope$Rope;II)I"⟩
abbrev cX7_look : ByteArray := prog_9_method_4_code
def yX7_look : MethodName := ⟨RX7, "look", "(LSleepRope$Dorm;LSleepRope$Rope;II)V"⟩
def RX8 : String := "SleepRope"
def TX8 : u_T := fun k => match k with
  | 0 => ("SleepRope", "tape", "[I", true)
  | 1 => ("SleepRope", "length", "I", false)
  | 2 => ("SleepRope", "reader", "LSleepRope$Reader;", true)
  | 3 => ("SleepRope", "dorm", "LSleepRope$Dorm;", false)
  | 4 => ("SleepRope", "rope", "LSleepRope$Rope;", true)
  | 5 => ("SleepRope", "evening", "LSleepRope$Rope;", true)
  | 6 => ("SleepRope", "acts", "LSleepRope$Acts;", true)
  | 7 => ("SleepRope", "night", "LSleepRope$Night;", true)
  | 8 => ("SleepRope", "trial", "LSleepRope$Tug;", true)
  | 9 => ("SleepRope", "orders", "LSleepRope$Orders;", true)
  | 10 => ("SleepRope", "heard", "[I", true)
  | 11 => ("SleepRope", "isHeard", "Z", false)
  | 12 => ("SleepRope", "octets", "[I", true)
  | 13 => ("SleepRope", "octetCount", "I", false)
  | 14 => ("SleepRope", "refusals", "[I", true)
  | _ => ("SleepRope", "changes", "I", false)
def tyX8 : Nat → FieldType := fun k => match k with
  | 0 => .array .int
  | 1 => .int
  | 2 => .object "SleepRope$Reader"
  | 3 => .object "SleepRope$Dorm"
  | 4 => .object "SleepRope$Rope"
  | 5 => .object "SleepRope$Rope"
  | 6 => .object "SleepRope$Acts"
  | 7 => .object "SleepRope$Night"
  | 8 => .object "SleepRope$Tug"
  | 9 => .object "SleepRope$Orders"
  | 10 => .array .int
  | 11 => .boolean
  | 12 => .array .int
  | 13 => .int
  | 14 => .array .int
  | _ => .int
theorem nmX8 : ∀ a, a < 16 → ∀ b, b < 16 → a ≠ b → (TX8 a).2.1 ≠ (TX8 b).2.1 := by decide +kernel
theorem tyX8_ok : ∀ k, k < 16 → parseFieldDescriptor (TX8 k).2.2.1 = some (tyX8 k) := by decide +kernel
abbrev cX8_init : ByteArray := prog_1_method_1_code
def yX8_init : MethodName := ⟨RX8, "<init>", "()V"⟩
abbrev cX8_feed : ByteArray := prog_1_method_2_code
def yX8_feed : MethodName := ⟨RX8, "feed", "(IIIII)I"⟩
abbrev cX8_end : ByteArray := prog_1_method_3_code
def yX8_end : MethodName := ⟨RX8, "end", "(I)Z"⟩
abbrev cX8_dorm : ByteArray := prog_1_method_4_code
def yX8_dorm : MethodName := ⟨RX8, "dorm", "()I"⟩
abbrev cX8_fault : ByteArray := prog_1_method_5_code
def yX8_fault : MethodName := ⟨RX8, "fault", "(I)I"⟩
abbrev cX8_has : ByteArray := prog_1_method_6_code
def yX8_has : MethodName := ⟨RX8, "has", "(I)I"⟩
abbrev cX8_letter : ByteArray := prog_1_method_7_code
def yX8_letter : MethodName := ⟨RX8, "letter", "(III)I"⟩
abbrev cX8_boy : ByteArray := prog_1_method_8_code
def yX8_boy : MethodName := ⟨RX8, "boy", "(II)I"⟩
abbrev cX8_at : ByteArray := prog_1_method_9_code
def yX8_at : MethodName := ⟨RX8, "at", "(I)I"⟩
abbrev cX8_knot : ByteArray := prog_1_method_10_code
def yX8_knot : MethodName := ⟨RX8, "knot", "(II)I"⟩
abbrev cX8_dream : ByteArray := prog_1_method_11_code
def yX8_dream : MethodName := ⟨RX8, "dream", "(II)I"⟩
abbrev cX8_tug : ByteArray := prog_1_method_12_code
def yX8_tug : MethodName := ⟨RX8, "tug", "(II)I"⟩
abbrev cX8_law : ByteArray := prog_1_method_13_code
def yX8_law : MethodName := ⟨RX8, "law", "(IIZ)I"⟩
abbrev cX8_go : ByteArray := prog_1_method_14_code
def yX8_go : MethodName := ⟨RX8, "go", "(I)I"⟩
abbrev cX8_dreams : ByteArray := prog_1_method_15_code
def yX8_dreams : MethodName := ⟨RX8, "dreams", "(II)I"⟩
abbrev cX8_wake : ByteArray := prog_1_method_16_code
def yX8_wake : MethodName := ⟨RX8, "wake", "(IZ)Z"⟩
abbrev cX8_tie : ByteArray := prog_1_method_17_code
def yX8_tie : MethodName := ⟨RX8, "tie", "(IZ)Z"⟩
abbrev cX8_slack : ByteArray := prog_1_method_18_code
def yX8_slack : MethodName := ⟨RX8, "slack", "(II)I"⟩
abbrev cX8_swap : ByteArray := prog_1_method_19_code
def yX8_swap : MethodName := ⟨RX8, "swap", "(II)Z"⟩
abbrev cX8_undo : ByteArray := prog_1_method_20_code
def yX8_undo : MethodName := ⟨RX8, "undo", "()Z"⟩
abbrev cX8_seed : ByteArray := prog_1_method_21_code
def yX8_seed : MethodName := ⟨RX8, "seed", "(I)Z"⟩
abbrev cX8_feels : ByteArray := prog_1_method_22_code
def yX8_feels : MethodName := ⟨RX8, "feels", "(III)I"⟩
abbrev cX8_wakes : ByteArray := prog_1_method_23_code
def yX8_wakes : MethodName := ⟨RX8, "wakes", "(II)I"⟩
abbrev cX8_least : ByteArray := prog_1_method_24_code
def yX8_least : MethodName := ⟨RX8, "least", "(II)I"⟩
abbrev cX8_bad : ByteArray := prog_1_method_25_code
def yX8_bad : MethodName := ⟨RX8, "bad", "()I"⟩
abbrev cX8_best : ByteArray := prog_1_method_26_code
def yX8_best : MethodName := ⟨RX8, "best", "(I)I"⟩
abbrev cX8_exchange : ByteArray := prog_1_method_27_code
def yX8_exchange : MethodName := ⟨RX8, "exchange", "(I)I"⟩
abbrev cX8_lay : ByteArray := prog_1_method_28_code
def yX8_lay : MethodName := ⟨RX8, "lay", "()I"⟩
abbrev cX8_two : ByteArray := prog_1_method_29_code
def yX8_two : MethodName := ⟨RX8, "two", "(I)I"⟩
abbrev cX8_hear : ByteArray := prog_1_method_30_code
def yX8_hear : MethodName := ⟨RX8, "hear", "()Z"⟩
abbrev cX8_pulled : ByteArray := prog_1_method_31_code
def yX8_pulled : MethodName := ⟨RX8, "pulled", "(II)I"⟩
abbrev cX8_cut : ByteArray := prog_1_method_32_code
def yX8_cut : MethodName := ⟨RX8, "cut", "(II)I"⟩
abbrev cX8_walk : ByteArray := prog_1_method_33_code
def yX8_walk : MethodName := ⟨RX8, "walk", "(I)I"⟩
abbrev cX8_beds : ByteArray := prog_1_method_34_code
def yX8_beds : MethodName := ⟨RX8, "beds", "(II)I"⟩
abbrev cX8_nights : ByteArray := prog_1_method_35_code
def yX8_nights : MethodName := ⟨RX8, "nights", "(III)I"⟩
abbrev cX8_image : ByteArray := prog_1_method_36_code
def yX8_image : MethodName := ⟨RX8, "image", "()I"⟩
abbrev cX8_octet : ByteArray := prog_1_method_37_code
def yX8_octet : MethodName := ⟨RX8, "octet", "(I)I"⟩
abbrev cX8_on : ByteArray := prog_1_method_38_code
def yX8_on : MethodName := ⟨RX8, "on", "()Z"⟩
abbrev cX8_status : ByteArray := prog_1_method_39_code
def yX8_status : MethodName := ⟨RX8, "status", "(I)I"⟩
abbrev cX8_refuse : ByteArray := prog_1_method_40_code
def yX8_refuse : MethodName := ⟨RX8, "refuse", "(I)V"⟩
abbrev cX8_startAct : ByteArray := prog_1_method_41_code
def yX8_startAct : MethodName := ⟨RX8, "startAct", "()V"⟩
abbrev cX8_putOnTape : ByteArray := prog_1_method_42_code
def yX8_putOnTape : MethodName := ⟨RX8, "putOnTape", "(I)V"⟩
abbrev cX8_onTape : ByteArray := prog_1_method_43_code
def yX8_onTape : MethodName := ⟨RX8, "onTape", "(I)I"⟩
abbrev cX8_pairOnTape : ByteArray := prog_1_method_44_code
def yX8_pairOnTape : MethodName := ⟨RX8, "pairOnTape", "(I)I"⟩
abbrev cX8_putOctet : ByteArray := prog_1_method_45_code
def yX8_putOctet : MethodName := ⟨RX8, "putOctet", "(I)V"⟩
abbrev cX8_putPair : ByteArray := prog_1_method_46_code
def yX8_putPair : MethodName := ⟨RX8, "putPair", "(I)V"⟩
abbrev cX8_sealOf : ByteArray := prog_1_method_47_code
def yX8_sealOf : MethodName := ⟨RX8, "sealOf", "([II)I"⟩
abbrev cX8_letterOf : ByteArray := prog_1_method_48_code
def yX8_letterOf : MethodName := ⟨RX8, "letterOf", "(II)I"⟩
abbrev cX8_isBoy : ByteArray := prog_1_method_49_code
def yX8_isBoy : MethodName := ⟨RX8, "isBoy", "(I)Z"⟩
abbrev cX8_isPlace : ByteArray := prog_1_method_50_code
def yX8_isPlace : MethodName := ⟨RX8, "isPlace", "(I)Z"⟩
abbrev cX8_isKnot : ByteArray := prog_1_method_51_code
def yX8_isKnot : MethodName := ⟨RX8, "isKnot", "(I)Z"⟩
abbrev cX8_isDream : ByteArray := prog_1_method_52_code
def yX8_isDream : MethodName := ⟨RX8, "isDream", "(I)Z"⟩
abbrev cX8_isForce : ByteArray := prog_1_method_53_code
def yX8_isForce : MethodName := ⟨RX8, "isForce", "(I)Z"⟩
abbrev cX8_tiedKnots : ByteArray := prog_1_method_54_code
def yX8_tiedKnots : MethodName := ⟨RX8, "tiedKnots", "()I"⟩
abbrev cX8_dreamers : ByteArray := prog_1_method_55_code
def yX8_dreamers : MethodName := ⟨RX8, "dreamers", "(I)I"⟩
abbrev cX8_caughtOnes : ByteArray := prog_1_method_56_code
def yX8_caughtOnes : MethodName := ⟨RX8, "caughtOnes", "()I"⟩
abbrev cX8_allAwake : ByteArray := prog_1_method_57_code
def yX8_allAwake : MethodName := ⟨RX8, "allAwake", "()Z"⟩
abbrev cX8_strain : ByteArray := prog_1_method_58_code
def yX8_strain : MethodName := ⟨RX8, "strain", "(I)I"⟩
abbrev cX8_oddsOfHaving : ByteArray := prog_1_method_59_code
def yX8_oddsOfHaving : MethodName := ⟨RX8, "oddsOfHaving", "(II)I"⟩
abbrev cX8_inSet : ByteArray := prog_1_method_60_code
def yX8_inSet : MethodName := ⟨RX8, "inSet", "(II)Z"⟩
abbrev cX8_areTied : ByteArray := prog_1_method_61_code
def yX8_areTied : MethodName := ⟨RX8, "areTied", "(I)Z"⟩
abbrev cX8_heaviestPiece : ByteArray := prog_1_method_62_code
def yX8_heaviestPiece : MethodName := ⟨RX8, "heaviestPiece", "(I)I"⟩
abbrev cX8_knotOfSet : ByteArray := prog_1_method_63_code
def yX8_knotOfSet : MethodName := ⟨RX8, "knotOfSet", "(II)I"⟩
abbrev cX8_takenBy : ByteArray := prog_1_method_64_code
def yX8_takenBy : MethodName := ⟨RX8, "takenBy", "(II)I"⟩
abbrev cX8_isImage : ByteArray := prog_1_method_65_code
def yX8_isImage : MethodName := ⟨RX8, "isImage", "(I)Z"⟩
abbrev cX8_isImageOfBoy : ByteArray := prog_1_method_66_code
def yX8_isImageOfBoy : MethodName := ⟨RX8, "isImageOfBoy", "(II)Z"⟩
def RX9 : String := "SleepRopeModel"
def TX9 : u_T := fun k => match k with
  | 0 => ("SleepRopeModel", "tape", "[I", true)
  | 1 => ("SleepRopeModel", "taped", "I", false)
  | 2 => ("SleepRopeModel", "size", "I", false)
  | 3 => ("SleepRopeModel", "sign", "I", false)
  | 4 => ("SleepRopeModel", "signAt", "I", false)
  | 5 => ("SleepRopeModel", "signEnd", "I", false)
  | 6 => ("SleepRopeModel", "value", "I", false)
  | 7 => ("SleepRopeModel", "word", "J", false)
  | 8 => ("SleepRopeModel", "faultKind", "I", false)
  | 9 => ("SleepRopeModel", "faultPlace", "I", false)
  | 10 => ("SleepRopeModel", "toldKind", "I", false)
  | 11 => ("SleepRopeModel", "toldPlace", "I", false)
  | 12 => ("SleepRopeModel", "bank", "I", false)
  | 13 => ("SleepRopeModel", "boys", "[I", true)
  | 14 => ("SleepRopeModel", "boyName", "[J", true)
  | 15 => ("SleepRopeModel", "weight", "[I", true)
  | 16 => ("SleepRopeModel", "depth", "[I", true)
  | 17 => ("SleepRopeModel", "oddsOf", "[I", true)
  | 18 => ("SleepRopeModel", "pullsOf", "[I", true)
  | 19 => ("SleepRopeModel", "marks", "[I", true)
  | 20 => ("SleepRopeModel", "slackTold", "[I", true)
  | 21 => ("SleepRopeModel", "dreamMany", "[I", true)
  | 22 => ("SleepRopeModel", "dreamName", "[J", true)
  | 23 => ("SleepRopeModel", "force", "[I", true)
  | 24 => ("SleepRopeModel", "lasts", "[I", true)
  | 25 => ("SleepRopeModel", "passing", "[I", true)
  | 26 => ("SleepRopeModel", "dreamOdds", "[I", true)
  | 27 => ("SleepRopeModel", "laws", "[I", true)
  | 28 => ("SleepRopeModel", "lawSort", "[I", true)
  | 29 => ("SleepRopeModel", "sumFrom", "[I", true)
  | 30 => ("SleepRopeModel", "sumTo", "[I", true)
  | 31 => ("SleepRopeModel", "testTo", "[I", true)
  | 32 => ("SleepRopeModel", "codeSort", "[I", true)
  | 33 => ("SleepRopeModel", "codeValue", "[I", true)
  | 34 => ("SleepRopeModel", "codes", "I", false)
  | 35 => ("SleepRopeModel", "in", "I", false)
  | 36 => ("SleepRopeModel", "frame", "[I", true)
  | 37 => ("SleepRopeModel", "phase", "[I", true)
  | 38 => ("SleepRopeModel", "begins", "[Z", true)
  | 39 => ("SleepRopeModel", "pair", "[I", true)
  | 40 => ("SleepRopeModel", "base", "[I", true)
  | 41 => ("SleepRopeModel", "deep", "I", false)
  | 42 => ("SleepRopeModel", "open", "I", false)
  | 43 => ("SleepRopeModel", "ops", "[I", true)
  | 44 => ("SleepRopeModel", "opMany", "I", false)
  | 45 => ("SleepRopeModel", "operand", "Z", false)
  | 46 => ("SleepRopeModel", "refused", "[I", true)
  | 47 => ("SleepRopeModel", "heap", "[J", true)
  | 48 => ("SleepRopeModel", "moment", "[I", true)
  | 49 => ("SleepRopeModel", "minute", "[I", true)
  | 50 => ("SleepRopeModel", "boyIn", "[I", true)
  | 51 => ("SleepRopeModel", "asleep", "[I", true)
  | 52 => ("SleepRopeModel", "dreamOf", "[I", true)
  | 53 => ("SleepRopeModel", "left", "[I", true)
  | 54 => ("SleepRopeModel", "caught", "[I", true)
  | 55 => ("SleepRopeModel", "rootMinute", "[I", true)
  | 56 => ("SleepRopeModel", "rootBoy", "[I", true)
  | 57 => ("SleepRopeModel", "felt", "[I", true)
  | 58 => ("SleepRopeModel", "greatest", "[I", true)
  | 59 => ("SleepRopeModel", "together", "[I", true)
  | 60 => ("SleepRopeModel", "tied", "[I", true)
  | 61 => ("SleepRopeModel", "slackOf", "[I", true)
  | 62 => ("SleepRopeModel", "tugMany", "[I", true)
  | 63 => ("SleepRopeModel", "tugRow", "[I", true)
  | 64 => ("SleepRopeModel", "undoFirst", "I", false)
  | 65 => ("SleepRopeModel", "undos", "I", false)
  | 66 => ("SleepRopeModel", "seeds", "J", false)
  | 67 => ("SleepRopeModel", "heard", "[I", true)
  | 68 => ("SleepRopeModel", "isHeard", "Z", false)
  | 69 => ("SleepRopeModel", "row", "[I", true)
  | 70 => ("SleepRopeModel", "rowMany", "I", false)
  | 71 => ("SleepRopeModel", "isFirst", "Z", false)
  | 72 => ("SleepRopeModel", "layer", "I", false)
  | 73 => ("SleepRopeModel", "feel", "[I", true)
  | 74 => ("SleepRopeModel", "woken", "I", false)
  | 75 => ("SleepRopeModel", "tugged", "I", false)
  | 76 => ("SleepRopeModel", "bestRow", "[I", true)
  | 77 => ("SleepRopeModel", "exchanges", "I", false)
  | 78 => ("SleepRopeModel", "cutAt", "[I", true)
  | 79 => ("SleepRopeModel", "bestCut", "[I", true)
  | 80 => ("SleepRopeModel", "out", "[I", true)
  | _ => ("SleepRopeModel", "outs", "I", false)
def tyX9 : Nat → FieldType := fun k => match k with
  | 0 => .array .int
  | 1 => .int
  | 2 => .int
  | 3 => .int
  | 4 => .int
  | 5 => .int
  | 6 => .int
  | 7 => .long
  | 8 => .int
  | 9 => .int
  | 10 => .int
  | 11 => .int
  | 12 => .int
  | 13 => .array .int
  | 14 => .array .long
  | 15 => .array .int
  | 16 => .array .int
  | 17 => .array .int
  | 18 => .array .int
  | 19 => .array .int
  | 20 => .array .int
  | 21 => .array .int
  | 22 => .array .long
  | 23 => .array .int
  | 24 => .array .int
  | 25 => .array .int
  | 26 => .array .int
  | 27 => .array .int
  | 28 => .array .int
  | 29 => .array .int
  | 30 => .array .int
  | 31 => .array .int
  | 32 => .array .int
  | 33 => .array .int
  | 34 => .int
  | 35 => .int
  | 36 => .array .int
  | 37 => .array .int
  | 38 => .array .boolean
  | 39 => .array .int
  | 40 => .array .int
  | 41 => .int
  | 42 => .int
  | 43 => .array .int
  | 44 => .int
  | 45 => .boolean
  | 46 => .array .int
  | 47 => .array .long
  | 48 => .array .int
  | 49 => .array .int
  | 50 => .array .int
  | 51 => .array .int
  | 52 => .array .int
  | 53 => .array .int
  | 54 => .array .int
  | 55 => .array .int
  | 56 => .array .int
  | 57 => .array .int
  | 58 => .array .int
  | 59 => .array .int
  | 60 => .array .int
  | 61 => .array .int
  | 62 => .array .int
  | 63 => .array .int
  | 64 => .int
  | 65 => .int
  | 66 => .long
  | 67 => .array .int
  | 68 => .boolean
  | 69 => .array .int
  | 70 => .int
  | 71 => .boolean
  | 72 => .int
  | 73 => .array .int
  | 74 => .int
  | 75 => .int
  | 76 => .array .int
  | 77 => .int
  | 78 => .array .int
  | 79 => .array .int
  | 80 => .array .int
  | _ => .int
theorem nmX9 : ∀ a, a < 82 → ∀ b, b < 82 → a ≠ b → (TX9 a).2.1 ≠ (TX9 b).2.1 := by decide +kernel
theorem tyX9_ok : ∀ k, k < 82 → parseFieldDescriptor (TX9 k).2.2.1 = some (tyX9 k) := by decide +kernel
abbrev cX9_init : ByteArray := prog_11_method_1_code
def yX9_init : MethodName := ⟨RX9, "<init>", "()V"⟩
abbrev cX9_is : ByteArray := prog_11_method_2_code
def yX9_is : MethodName := ⟨RX9, "is", "(III)Z"⟩
abbrev cX9_put : ByteArray := prog_11_method_3_code
def yX9_put : MethodName := ⟨RX9, "put", "(I)V"⟩
abbrev cX9_feed : ByteArray := prog_11_method_4_code
def yX9_feed : MethodName := ⟨RX9, "feed", "(IIIII)I"⟩
abbrev cX9_end : ByteArray := prog_11_method_5_code
def yX9_end : MethodName := ⟨RX9, "end", "(I)Z"⟩
abbrev cX9_blame : ByteArray := prog_11_method_6_code
def yX9_blame : MethodName := ⟨RX9, "blame", "(II)V"⟩
abbrev cX9_isLetter : ByteArray := prog_11_method_7_code
def yX9_isLetter : MethodName := ⟨RX9, "isLetter", "(I)Z"⟩
abbrev cX9_isDigit : ByteArray := prog_11_method_8_code
def yX9_isDigit : MethodName := ⟨RX9, "isDigit", "(I)Z"⟩
abbrev cX9_ahead : ByteArray := prog_11_method_9_code
def yX9_ahead : MethodName := ⟨RX9, "ahead", "()V"⟩
abbrev cX9_isSign : ByteArray := prog_11_method_10_code
def yX9_isSign : MethodName := ⟨RX9, "isSign", "(I)Z"⟩
abbrev cX9_isWord : ByteArray := prog_11_method_11_code
def yX9_isWord : MethodName := ⟨RX9, "isWord", "(J)Z"⟩
abbrev cX9_must : ByteArray := prog_11_method_12_code
def yX9_must : MethodName := ⟨RX9, "must", "(I)V"⟩
abbrev cX9_isOwn : ByteArray := prog_11_method_13_code
def yX9_isOwn : MethodName := ⟨RX9, "isOwn", "(J)Z"⟩
abbrev cX9_number : ByteArray := prog_11_method_14_code
def yX9_number : MethodName := ⟨RX9, "number", "(II)I"⟩
abbrev cX9_add : ByteArray := prog_11_method_15_code
def yX9_add : MethodName := ⟨RX9, "add", "(II)V"⟩
abbrev cX9_rank : ByteArray := prog_11_method_16_code
def yX9_rank : MethodName := ⟨RX9, "rank", "(I)I"⟩
abbrev cX9_joins : ByteArray := prog_11_method_17_code
def yX9_joins : MethodName := ⟨RX9, "joins", "(I)V"⟩
abbrev cX9_holdsBack : ByteArray := prog_11_method_18_code
def yX9_holdsBack : MethodName := ⟨RX9, "holdsBack", "(I)V"⟩
abbrev cX9_pushes : ByteArray := prog_11_method_19_code
def yX9_pushes : MethodName := ⟨RX9, "pushes", "(I)V"⟩
abbrev cX9_opens : ByteArray := prog_11_method_20_code
def yX9_opens : MethodName := ⟨RX9, "opens", "(I)V"⟩
abbrev cX9_isTest : ByteArray := prog_11_method_21_code
def yX9_isTest : MethodName := ⟨RX9, "isTest", "(I)Z"⟩
abbrev cX9_operand : ByteArray := prog_11_method_22_code
def yX9_operand : MethodName := ⟨RX9, "operand", "()Z"⟩
abbrev cX9_goesOn : ByteArray := prog_11_method_23_code
def yX9_goesOn : MethodName := ⟨RX9, "goesOn", "()Z"⟩
abbrev cX9_reads : ByteArray := prog_11_method_24_code
def yX9_reads : MethodName := ⟨RX9, "reads", "(Z)V"⟩
abbrev cX9_counts : ByteArray := prog_11_method_25_code
def yX9_counts : MethodName := ⟨RX9, "counts", "(Z)Z"⟩
abbrev cX9_must_ : ByteArray := prog_11_method_26_code
def yX9_must_ : MethodName := ⟨RX9, "must", "(J)V"⟩
abbrev cX9_isThere : ByteArray := prog_11_method_27_code
def yX9_isThere : MethodName := ⟨RX9, "isThere", "(J)Z"⟩
abbrev cX9_fresh : ByteArray := prog_11_method_28_code
def yX9_fresh : MethodName := ⟨RX9, "fresh", "()J"⟩
abbrev cX9_marking : ByteArray := prog_11_method_29_code
def yX9_marking : MethodName := ⟨RX9, "marking", "(I)V"⟩
abbrev cX9_boying : ByteArray := prog_11_method_30_code
def yX9_boying : MethodName := ⟨RX9, "boying", "()V"⟩
abbrev cX9_slacking : ByteArray := prog_11_method_31_code
def yX9_slacking : MethodName := ⟨RX9, "slacking", "()V"⟩
abbrev cX9_dreaming : ByteArray := prog_11_method_32_code
def yX9_dreaming : MethodName := ⟨RX9, "dreaming", "()V"⟩
abbrev cX9_lawing : ByteArray := prog_11_method_33_code
def yX9_lawing : MethodName := ⟨RX9, "lawing", "(I)V"⟩
abbrev cX9_statement : ByteArray := prog_11_method_34_code
def yX9_statement : MethodName := ⟨RX9, "statement", "()V"⟩
abbrev cX9_ends : ByteArray := prog_11_method_35_code
def yX9_ends : MethodName := ⟨RX9, "ends", "(I)V"⟩
abbrev cX9_dorm : ByteArray := prog_11_method_36_code
def yX9_dorm : MethodName := ⟨RX9, "dorm", "()I"⟩
abbrev cX9_fault : ByteArray := prog_11_method_37_code
def yX9_fault : MethodName := ⟨RX9, "fault", "(I)I"⟩
abbrev cX9_refuses : ByteArray := prog_11_method_38_code
def yX9_refuses : MethodName := ⟨RX9, "refuses", "(I)I"⟩
abbrev cX9_status : ByteArray := prog_11_method_39_code
def yX9_status : MethodName := ⟨RX9, "status", "(I)I"⟩
abbrev cX9_bounded : ByteArray := prog_11_method_40_code
def yX9_bounded : MethodName := ⟨RX9, "bounded", "(J)J"⟩
abbrev cX9_over : ByteArray := prog_11_method_41_code
def yX9_over : MethodName := ⟨RX9, "over", "(JJ)J"⟩
abbrev cX9_made : ByteArray := prog_11_method_42_code
def yX9_made : MethodName := ⟨RX9, "made", "(IJJ)J"⟩
abbrev cX9_reckons : ByteArray := prog_11_method_43_code
def yX9_reckons : MethodName := ⟨RX9, "reckons", "(II)J"⟩
abbrev cX9_many : ByteArray := prog_11_method_44_code
def yX9_many : MethodName := ⟨RX9, "many", "()I"⟩
abbrev cX9_isBoy : ByteArray := prog_11_method_45_code
def yX9_isBoy : MethodName := ⟨RX9, "isBoy", "(I)Z"⟩
abbrev cX9_isDream : ByteArray := prog_11_method_46_code
def yX9_isDream : MethodName := ⟨RX9, "isDream", "(I)Z"⟩
abbrev cX9_isKnot : ByteArray := prog_11_method_47_code
def yX9_isKnot : MethodName := ⟨RX9, "isKnot", "(I)Z"⟩
abbrev cX9_isGhost : ByteArray := prog_11_method_48_code
def yX9_isGhost : MethodName := ⟨RX9, "isGhost", "(I)Z"⟩
abbrev cX9_snores : ByteArray := prog_11_method_49_code
def yX9_snores : MethodName := ⟨RX9, "snores", "(I)Z"⟩
abbrev cX9_copies : ByteArray := prog_11_method_50_code
def yX9_copies : MethodName := ⟨RX9, "copies", "(II)V"⟩
abbrev cX9_clears : ByteArray := prog_11_method_51_code
def yX9_clears : MethodName := ⟨RX9, "clears", "(I)V"⟩
abbrev cX9_begins : ByteArray := prog_11_method_52_code
def yX9_begins : MethodName := ⟨RX9, "begins", "()V"⟩
abbrev cX9_placeOf : ByteArray := prog_11_method_53_code
def yX9_placeOf : MethodName := ⟨RX9, "placeOf", "(II)I"⟩
abbrev cX9_ring : ByteArray := prog_11_method_54_code
def yX9_ring : MethodName := ⟨RX9, "ring", "(I)I"⟩
abbrev cX9_keeps : ByteArray := prog_11_method_55_code
def yX9_keeps : MethodName := ⟨RX9, "keeps", "()V"⟩
abbrev cX9_undo : ByteArray := prog_11_method_56_code
def yX9_undo : MethodName := ⟨RX9, "undo", "()Z"⟩
abbrev cX9_rowNow : ByteArray := prog_11_method_57_code
def yX9_rowNow : MethodName := ⟨RX9, "rowNow", "(I)V"⟩
abbrev cX9_isTied : ByteArray := prog_11_method_58_code
def yX9_isTied : MethodName := ⟨RX9, "isTied", "(I)Z"⟩
abbrev cX9_slackAt : ByteArray := prog_11_method_59_code
def yX9_slackAt : MethodName := ⟨RX9, "slackAt", "(I)I"⟩
abbrev cX9_beside : ByteArray := prog_11_method_60_code
def yX9_beside : MethodName := ⟨RX9, "beside", "(I)I"⟩
abbrev cX9_meets : ByteArray := prog_11_method_61_code
def yX9_meets : MethodName := ⟨RX9, "meets", "(II)V"⟩
abbrev cX9_lawOf : ByteArray := prog_11_method_62_code
def yX9_lawOf : MethodName := ⟨RX9, "lawOf", "(III)I"⟩
abbrev cX9_deepOf : ByteArray := prog_11_method_63_code
def yX9_deepOf : MethodName := ⟨RX9, "deepOf", "(II)I"⟩
abbrev cX9_passedOf : ByteArray := prog_11_method_64_code
def yX9_passedOf : MethodName := ⟨RX9, "passedOf", "(II)I"⟩
abbrev cX9_comes : ByteArray := prog_11_method_65_code
def yX9_comes : MethodName := ⟨RX9, "comes", "(II)I"⟩
abbrev cX9_tugs : ByteArray := prog_11_method_66_code
def yX9_tugs : MethodName := ⟨RX9, "tugs", "(II)V"⟩
abbrev cX9_bits : ByteArray := prog_11_method_67_code
def yX9_bits : MethodName := ⟨RX9, "bits", "(I)I"⟩
abbrev cX9_canDream : ByteArray := prog_11_method_68_code
def yX9_canDream : MethodName := ⟨RX9, "canDream", "(II)Z"⟩
abbrev cX9_tells : ByteArray := prog_11_method_69_code
def yX9_tells : MethodName := ⟨RX9, "tells", "(IIIII)V"⟩
abbrev cX9_wakesUp : ByteArray := prog_11_method_70_code
def yX9_wakesUp : MethodName := ⟨RX9, "wakesUp", "(II)V"⟩
abbrev cX9_isFelt : ByteArray := prog_11_method_71_code
def yX9_isFelt : MethodName := ⟨RX9, "isFelt", "(IIIII)V"⟩
abbrev cX9_begin : ByteArray := prog_11_method_72_code
def yX9_begin : MethodName := ⟨RX9, "begin", "(IIIII)I"⟩
abbrev cX9_draw : ByteArray := prog_11_method_73_code
def yX9_draw : MethodName := ⟨RX9, "draw", "(I)I"⟩
abbrev cX9_oddsAll : ByteArray := prog_11_method_74_code
def yX9_oddsAll : MethodName := ⟨RX9, "oddsAll", "()I"⟩
abbrev cX9_drawn : ByteArray := prog_11_method_75_code
def yX9_drawn : MethodName := ⟨RX9, "drawn", "()I"⟩
abbrev cX9_minuteGoes : ByteArray := prog_11_method_76_code
def yX9_minuteGoes : MethodName := ⟨RX9, "minuteGoes", "(I)V"⟩
abbrev cX9_pieces : ByteArray := prog_11_method_77_code
def yX9_pieces : MethodName := ⟨RX9, "pieces", "()I"⟩
abbrev cX9_has : ByteArray := prog_11_method_78_code
def yX9_has : MethodName := ⟨RX9, "has", "(I)I"⟩
abbrev cX9_letter : ByteArray := prog_11_method_79_code
def yX9_letter : MethodName := ⟨RX9, "letter", "(III)I"⟩
abbrev cX9_boy : ByteArray := prog_11_method_80_code
def yX9_boy : MethodName := ⟨RX9, "boy", "(II)I"⟩
abbrev cX9_at : ByteArray := prog_11_method_81_code
def yX9_at : MethodName := ⟨RX9, "at", "(I)I"⟩
abbrev cX9_strain : ByteArray := prog_11_method_82_code
def yX9_strain : MethodName := ⟨RX9, "strain", "(I)I"⟩
abbrev cX9_knot : ByteArray := prog_11_method_83_code
def yX9_knot : MethodName := ⟨RX9, "knot", "(II)I"⟩
abbrev cX9_dream : ByteArray := prog_11_method_84_code
def yX9_dream : MethodName := ⟨RX9, "dream", "(II)I"⟩
abbrev cX9_tug : ByteArray := prog_11_method_85_code
def yX9_tug : MethodName := ⟨RX9, "tug", "(II)I"⟩
abbrev cX9_law : ByteArray := prog_11_method_86_code
def yX9_law : MethodName := ⟨RX9, "law", "(IIZ)I"⟩
abbrev cX9_go : ByteArray := prog_11_method_87_code
def yX9_go : MethodName := ⟨RX9, "go", "(I)I"⟩
abbrev cX9_dreams : ByteArray := prog_11_method_88_code
def yX9_dreams : MethodName := ⟨RX9, "dreams", "(II)I"⟩
abbrev cX9_wake : ByteArray := prog_11_method_89_code
def yX9_wake : MethodName := ⟨RX9, "wake", "(IZ)Z"⟩
abbrev cX9_tie : ByteArray := prog_11_method_90_code
def yX9_tie : MethodName := ⟨RX9, "tie", "(IZ)Z"⟩
abbrev cX9_slack : ByteArray := prog_11_method_91_code
def yX9_slack : MethodName := ⟨RX9, "slack", "(II)I"⟩
abbrev cX9_swap : ByteArray := prog_11_method_92_code
def yX9_swap : MethodName := ⟨RX9, "swap", "(II)Z"⟩
abbrev cX9_seed : ByteArray := prog_11_method_93_code
def yX9_seed : MethodName := ⟨RX9, "seed", "(I)Z"⟩
abbrev cX9_feels : ByteArray := prog_11_method_94_code
def yX9_feels : MethodName := ⟨RX9, "feels", "(III)I"⟩
abbrev cX9_wakes : ByteArray := prog_11_method_95_code
def yX9_wakes : MethodName := ⟨RX9, "wakes", "(II)I"⟩
abbrev cX9_least : ByteArray := prog_11_method_96_code
def yX9_least : MethodName := ⟨RX9, "least", "(II)I"⟩
abbrev cX9_badness : ByteArray := prog_11_method_97_code
def yX9_badness : MethodName := ⟨RX9, "badness", "()I"⟩
abbrev cX9_bad : ByteArray := prog_11_method_98_code
def yX9_bad : MethodName := ⟨RX9, "bad", "()I"⟩
abbrev cX9_nextRow : ByteArray := prog_11_method_99_code
def yX9_nextRow : MethodName := ⟨RX9, "nextRow", "()Z"⟩
abbrev cX9_changes : ByteArray := prog_11_method_100_code
def yX9_changes : MethodName := ⟨RX9, "changes", "(II)V"⟩
abbrev cX9_best : ByteArray := prog_11_method_101_code
def yX9_best : MethodName := ⟨RX9, "best", "(I)I"⟩
abbrev cX9_exchanged : ByteArray := prog_11_method_102_code
def yX9_exchanged : MethodName := ⟨RX9, "exchanged", "()I"⟩
abbrev cX9_exchange : ByteArray := prog_11_method_103_code
def yX9_exchange : MethodName := ⟨RX9, "exchange", "(I)I"⟩
abbrev cX9_lay : ByteArray := prog_11_method_104_code
def yX9_lay : MethodName := ⟨RX9, "lay", "()I"⟩
abbrev cX9_ropeOf : ByteArray := prog_11_method_105_code
def yX9_ropeOf : MethodName := ⟨RX9, "ropeOf", "(I)I"⟩
abbrev cX9_two : ByteArray := prog_11_method_106_code
def yX9_two : MethodName := ⟨RX9, "two", "(I)I"⟩
abbrev cX9_hear : ByteArray := prog_11_method_107_code
def yX9_hear : MethodName := ⟨RX9, "hear", "()Z"⟩
abbrev cX9_oddsIf : ByteArray := prog_11_method_108_code
def yX9_oddsIf : MethodName := ⟨RX9, "oddsIf", "(II)I"⟩
abbrev cX9_allOdds : ByteArray := prog_11_method_109_code
def yX9_allOdds : MethodName := ⟨RX9, "allOdds", "()I"⟩
abbrev cX9_pulled : ByteArray := prog_11_method_110_code
def yX9_pulled : MethodName := ⟨RX9, "pulled", "(II)I"⟩
abbrev cX9_isCut : ByteArray := prog_11_method_111_code
def yX9_isCut : MethodName := ⟨RX9, "isCut", "(II)Z"⟩
abbrev cX9_heaviest : ByteArray := prog_11_method_112_code
def yX9_heaviest : MethodName := ⟨RX9, "heaviest", "(I)I"⟩
abbrev cX9_nextTied : ByteArray := prog_11_method_113_code
def yX9_nextTied : MethodName := ⟨RX9, "nextTied", "(I)I"⟩
abbrev cX9_firstCuts : ByteArray := prog_11_method_114_code
def yX9_firstCuts : MethodName := ⟨RX9, "firstCuts", "(I)Z"⟩
abbrev cX9_nextCuts : ByteArray := prog_11_method_115_code
def yX9_nextCuts : MethodName := ⟨RX9, "nextCuts", "(I)Z"⟩
abbrev cX9_cut : ByteArray := prog_11_method_116_code
def yX9_cut : MethodName := ⟨RX9, "cut", "(II)I"⟩
abbrev cX9_walk : ByteArray := prog_11_method_117_code
def yX9_walk : MethodName := ⟨RX9, "walk", "(I)I"⟩
abbrev cX9_beds : ByteArray := prog_11_method_118_code
def yX9_beds : MethodName := ⟨RX9, "beds", "(II)I"⟩
abbrev cX9_nights : ByteArray := prog_11_method_119_code
def yX9_nights : MethodName := ⟨RX9, "nights", "(III)I"⟩
abbrev cX9_writes : ByteArray := prog_11_method_120_code
def yX9_writes : MethodName := ⟨RX9, "writes", "(I)V"⟩
abbrev cX9_image : ByteArray := prog_11_method_121_code
def yX9_image : MethodName := ⟨RX9, "image", "()I"⟩
abbrev cX9_octet : ByteArray := prog_11_method_122_code
def yX9_octet : MethodName := ⟨RX9, "octet", "(I)I"⟩
abbrev cX9_knotsMany : ByteArray := prog_11_method_123_code
def yX9_knotsMany : MethodName := ⟨RX9, "knotsMany", "()I"⟩
abbrev cX9_isBoyOn : ByteArray := prog_11_method_124_code
def yX9_isBoyOn : MethodName := ⟨RX9, "isBoyOn", "(I)Z"⟩
abbrev cX9_isImage : ByteArray := prog_11_method_125_code
def yX9_isImage : MethodName := ⟨RX9, "isImage", "(I)Z"⟩
abbrev cX9_on : ByteArray := prog_11_method_126_code
def yX9_on : MethodName := ⟨RX9, "on", "()Z"⟩
def RJx145de : String := "java/io/Serializable"
def RJx9f9b0 : String := "java/lang/CharSequence"
def RJ11 : String := "java/lang/Character"
abbrev cJ11_isValidCodePoint_9a6ad : ByteArray := prog_12_method_11_code
def yJ11_isValidCodePoint_9a6ad : MethodName := ⟨RJ11, "isValidCodePoint", "(I)Z"⟩
abbrev cJ11_highSurrogate_5068e : ByteArray := prog_12_method_28_code
def yJ11_highSurrogate_5068e : MethodName := ⟨RJ11, "highSurrogate", "(I)C"⟩
abbrev cJ11_lowSurrogate_5068e : ByteArray := prog_12_method_29_code
def yJ11_lowSurrogate_5068e : MethodName := ⟨RJ11, "lowSurrogate", "(I)C"⟩
def RJxb160c : String := "java/lang/Comparable"
def RJ6 : String := "java/lang/Integer"
abbrev cJ6_bitCount_0f7a4 : ByteArray := prog_13_method_49_code
def yJ6_bitCount_0f7a4 : MethodName := ⟨RJ6, "bitCount", "(I)I"⟩
def RJ9 : String := "java/lang/Math"
abbrev cJ9_max_7cf53 : ByteArray := prog_14_method_65_code
def yJ9_max_7cf53 : MethodName := ⟨RJ9, "max", "(II)I"⟩
abbrev cJ9_min_7cf53 : ByteArray := prog_14_method_69_code
def yJ9_min_7cf53 : MethodName := ⟨RJ9, "min", "(II)I"⟩
def RJ0 : String := "java/lang/String"
abbrev cJ0_length_8abf5 : ByteArray := prog_15_method_54_code
def yJ0_length_8abf5 : MethodName := ⟨RJ0, "length", "()I"⟩
abbrev cJ0_charAt_5068e : ByteArray := prog_15_method_56_code
def yJ0_charAt_5068e : MethodName := ⟨RJ0, "charAt", "(I)C"⟩
abbrev cJ0_indexOf_0f7a4 : ByteArray := prog_15_method_79_code
def yJ0_indexOf_0f7a4 : MethodName := ⟨RJ0, "indexOf", "(I)I"⟩
abbrev cJ0_indexOf_7cf53 : ByteArray := prog_15_method_80_code
def yJ0_indexOf_7cf53 : MethodName := ⟨RJ0, "indexOf", "(II)I"⟩
abbrev cJ0_coder_7d493 : ByteArray := prog_15_method_152_code
def yJ0_coder_7d493 : MethodName := ⟨RJ0, "coder", "()B"⟩
abbrev cJ0_isLatin1_aae02 : ByteArray := prog_15_method_154_code
def yJ0_isLatin1_aae02 : MethodName := ⟨RJ0, "isLatin1", "()Z"⟩
abbrev cJ0_checkIndex_df160 : ByteArray := prog_15_method_155_code
def yJ0_checkIndex_df160 : MethodName := ⟨RJ0, "checkIndex", "(II)V"⟩
abbrev cJ0_checkBoundsBeginEnd_23922 : ByteArray := prog_15_method_158_code
def yJ0_checkBoundsBeginEnd_23922 : MethodName := ⟨RJ0, "checkBoundsBeginEnd", "(III)V"⟩
def RJ1 : String := "java/lang/StringLatin1"
abbrev cJ1_charAt_3b067 : ByteArray := prog_16_method_2_code
def yJ1_charAt_3b067 : MethodName := ⟨RJ1, "charAt", "([BI)C"⟩
abbrev cJ1_canEncode_9a6ad : ByteArray := prog_16_method_4_code
def yJ1_canEncode_9a6ad : MethodName := ⟨RJ1, "canEncode", "(I)Z"⟩
abbrev cJ1_indexOf_4cfef : ByteArray := prog_16_method_22_code
def yJ1_indexOf_4cfef : MethodName := ⟨RJ1, "indexOf", "([BIII)I"⟩
abbrev cJ1_indexOfChar_4cfef : ByteArray := prog_16_method_23_code
def yJ1_indexOfChar_4cfef : MethodName := ⟨RJ1, "indexOfChar", "([BIII)I"⟩
def RJ2 : String := "java/lang/StringUTF16"
abbrev cJ2_getChar_3b067 : ByteArray := prog_17_method_5_code
def yJ2_getChar_3b067 : MethodName := ⟨RJ2, "getChar", "([BI)C"⟩
abbrev cJ2_length_9d52b : ByteArray := prog_17_method_6_code
def yJ2_length_9d52b : MethodName := ⟨RJ2, "length", "([B)I"⟩
abbrev cJ2_indexOf_4cfef : ByteArray := prog_17_method_40_code
def yJ2_indexOf_4cfef : MethodName := ⟨RJ2, "indexOf", "([BIII)I"⟩
abbrev cJ2_indexOfChar_4cfef : ByteArray := prog_17_method_47_code
def yJ2_indexOfChar_4cfef : MethodName := ⟨RJ2, "indexOfChar", "([BIII)I"⟩
abbrev cJ2_indexOfCharUnsafe_4cfef : ByteArray := prog_17_method_48_code
def yJ2_indexOfCharUnsafe_4cfef : MethodName := ⟨RJ2, "indexOfCharUnsafe", "([BIII)I"⟩
abbrev cJ2_indexOfSupplementary_4cfef : ByteArray := prog_17_method_49_code
def yJ2_indexOfSupplementary_4cfef : MethodName := ⟨RJ2, "indexOfSupplementary", "([BIII)I"⟩
abbrev cJ2_charAt_3b067 : ByteArray := prog_17_method_83_code
def yJ2_charAt_3b067 : MethodName := ⟨RJ2, "charAt", "([BI)C"⟩
abbrev cJ2_checkIndex_2214a : ByteArray := prog_17_method_91_code
def yJ2_checkIndex_2214a : MethodName := ⟨RJ2, "checkIndex", "(I[B)V"⟩
abbrev cJ2_checkBoundsBeginEnd_d044e : ByteArray := prog_17_method_93_code
def yJ2_checkBoundsBeginEnd_d044e : MethodName := ⟨RJ2, "checkBoundsBeginEnd", "(II[B)V"⟩
def RJ10 : String := "java/lang/System"
def RJxfd54e : String := "java/lang/constant/Constable"
def RJx3cf43 : String := "java/lang/constant/ConstantDesc"
def RJ7 : String := "java/util/Arrays"
abbrev cJ7_fill_53178 : ByteArray := prog_19_method_103_code
def yJ7_fill_53178 : MethodName := ⟨RJ7, "fill", "([II)V"⟩
def RJ3 : String := "jdk/internal/util/Preconditions"
abbrev cJ3_checkIndex_8e157 : ByteArray := prog_20_method_11_code
def yJ3_checkIndex_8e157 : MethodName := ⟨RJ3, "checkIndex", "(IILjava/util/function/BiFunction;)I"⟩
abbrev cJ3_checkFromToIndex_8c36e : ByteArray := prog_20_method_12_code
def yJ3_checkFromToIndex_8c36e : MethodName := ⟨RJ3, "checkFromToIndex", "(IIILjava/util/function/BiFunction;)I"⟩
def RL : String := "SleepRopeLaw"
abbrev cL_law : ByteArray := code
def yL_law : MethodName := ⟨RL, "law", "([I)Z"⟩
abbrev vwCl : List vw_C := [(RX0, TX0, 3), (RX1, TX1, 16), (RX2, TX2, 9), (RX3, TX3, 2), (RX4, TX4, 12), (RX5, TX5, 11), (RX6, TX6, 16), (RX7, TX7, 2), (RX8, TX8, 16), (RX9, TX9, 82)]
