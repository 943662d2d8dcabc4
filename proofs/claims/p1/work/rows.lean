section
-- ===== PART A: goes FIRST, ahead of the names: the tables' words, and 'selects' of the private methods out of them =====
/-- a private method of a class that the tables say can be made, by its rows of tables_1 -/
def lw_okq (q : MethodName × Nat) : Prop := (q.1.cls ≠ "java/lang/invoke/MethodHandle" ∧ q.1.cls ≠ "java/lang/invoke/VarHandle") ∧ Cond.instantiable q.1.cls q.2 ∈ tables_1 ∧ Cond.privateMethod q.1 ∈ tables_1 ∧ Cond.instanceMethod q.1 ∈ tables_1
theorem lw_p0 : lw_okq (⟨"SleepRope", "refuse", "(I)V"⟩, 16) := ⟨⟨by decide +kernel, by decide +kernel⟩, List.mem_of_getElem? (i := 21) (by decide +kernel), List.mem_of_getElem? (i := 512) (by decide +kernel), List.mem_of_getElem? (i := 513) (by decide +kernel)⟩
theorem lw_p1 : lw_okq (⟨"SleepRope", "putOnTape", "(I)V"⟩, 16) := ⟨⟨by decide +kernel, by decide +kernel⟩, List.mem_of_getElem? (i := 21) (by decide +kernel), List.mem_of_getElem? (i := 516) (by decide +kernel), List.mem_of_getElem? (i := 517) (by decide +kernel)⟩
theorem lw_p2 : lw_okq (⟨"SleepRope$Reader", "scan", "([II)V"⟩, 11) := ⟨⟨by decide +kernel, by decide +kernel⟩, List.mem_of_getElem? (i := 29) (by decide +kernel), List.mem_of_getElem? (i := 543) (by decide +kernel), List.mem_of_getElem? (i := 544) (by decide +kernel)⟩
theorem lw_p3 : lw_okq (⟨"SleepRope$Reader", "lengthen", "(III)Z"⟩, 11) := ⟨⟨by decide +kernel, by decide +kernel⟩, List.mem_of_getElem? (i := 29) (by decide +kernel), List.mem_of_getElem? (i := 610) (by decide +kernel), List.mem_of_getElem? (i := 611) (by decide +kernel)⟩
theorem lw_p4 : lw_okq (⟨"SleepRope$Reader", "add", "(III)V"⟩, 11) := ⟨⟨by decide +kernel, by decide +kernel⟩, List.mem_of_getElem? (i := 29) (by decide +kernel), List.mem_of_getElem? (i := 614) (by decide +kernel), List.mem_of_getElem? (i := 615) (by decide +kernel)⟩
theorem lw_p5 : lw_okq (⟨"SleepRope$Reader", "fails", "(I)Z"⟩, 11) := ⟨⟨by decide +kernel, by decide +kernel⟩, List.mem_of_getElem? (i := 29) (by decide +kernel), List.mem_of_getElem? (i := 618) (by decide +kernel), List.mem_of_getElem? (i := 619) (by decide +kernel)⟩
theorem lw_p6 : lw_okq (⟨"SleepRope$Reader", "own", "()I"⟩, 11) := ⟨⟨by decide +kernel, by decide +kernel⟩, List.mem_of_getElem? (i := 29) (by decide +kernel), List.mem_of_getElem? (i := 622) (by decide +kernel), List.mem_of_getElem? (i := 623) (by decide +kernel)⟩
theorem lw_p7 : lw_okq (⟨"SleepRope$Reader", "readBoy", "()Z"⟩, 11) := ⟨⟨by decide +kernel, by decide +kernel⟩, List.mem_of_getElem? (i := 29) (by decide +kernel), List.mem_of_getElem? (i := 626) (by decide +kernel), List.mem_of_getElem? (i := 627) (by decide +kernel)⟩
theorem lw_p8 : lw_okq (⟨"SleepRope$Reader", "step", "()V"⟩, 11) := ⟨⟨by decide +kernel, by decide +kernel⟩, List.mem_of_getElem? (i := 29) (by decide +kernel), List.mem_of_getElem? (i := 630) (by decide +kernel), List.mem_of_getElem? (i := 631) (by decide +kernel)⟩
theorem lw_p9 : lw_okq (⟨"SleepRope$Reader", "needsName", "()Z"⟩, 11) := ⟨⟨by decide +kernel, by decide +kernel⟩, List.mem_of_getElem? (i := 29) (by decide +kernel), List.mem_of_getElem? (i := 634) (by decide +kernel), List.mem_of_getElem? (i := 635) (by decide +kernel)⟩
theorem lw_p10 : lw_okq (⟨"SleepRope$Reader", "needsOwn", "(I)Z"⟩, 11) := ⟨⟨by decide +kernel, by decide +kernel⟩, List.mem_of_getElem? (i := 29) (by decide +kernel), List.mem_of_getElem? (i := 642) (by decide +kernel), List.mem_of_getElem? (i := 643) (by decide +kernel)⟩
theorem lw_p11 : lw_okq (⟨"SleepRope$Reader", "needsNumber", "(II)Z"⟩, 11) := ⟨⟨by decide +kernel, by decide +kernel⟩, List.mem_of_getElem? (i := 29) (by decide +kernel), List.mem_of_getElem? (i := 646) (by decide +kernel), List.mem_of_getElem? (i := 647) (by decide +kernel)⟩
theorem lw_p12 : lw_okq (⟨"SleepRope$Reader", "readMarks", "(I)Z"⟩, 11) := ⟨⟨by decide +kernel, by decide +kernel⟩, List.mem_of_getElem? (i := 29) (by decide +kernel), List.mem_of_getElem? (i := 650) (by decide +kernel), List.mem_of_getElem? (i := 651) (by decide +kernel)⟩
theorem lw_p13 : lw_okq (⟨"SleepRope$Reader", "readSlack", "()Z"⟩, 11) := ⟨⟨by decide +kernel, by decide +kernel⟩, List.mem_of_getElem? (i := 29) (by decide +kernel), List.mem_of_getElem? (i := 654) (by decide +kernel), List.mem_of_getElem? (i := 655) (by decide +kernel)⟩
theorem lw_p14 : lw_okq (⟨"SleepRope$Reader", "readDream", "()Z"⟩, 11) := ⟨⟨by decide +kernel, by decide +kernel⟩, List.mem_of_getElem? (i := 29) (by decide +kernel), List.mem_of_getElem? (i := 658) (by decide +kernel), List.mem_of_getElem? (i := 659) (by decide +kernel)⟩
theorem lw_p15 : lw_okq (⟨"SleepRope$Reader", "readLaw", "(Z)Z"⟩, 11) := ⟨⟨by decide +kernel, by decide +kernel⟩, List.mem_of_getElem? (i := 29) (by decide +kernel), List.mem_of_getElem? (i := 662) (by decide +kernel), List.mem_of_getElem? (i := 663) (by decide +kernel)⟩
def lw_privs_1 : List (MethodName × Nat) := [(⟨"SleepRope", "refuse", "(I)V"⟩, 16), (⟨"SleepRope", "putOnTape", "(I)V"⟩, 16), (⟨"SleepRope$Reader", "scan", "([II)V"⟩, 11), (⟨"SleepRope$Reader", "lengthen", "(III)Z"⟩, 11), (⟨"SleepRope$Reader", "add", "(III)V"⟩, 11), (⟨"SleepRope$Reader", "fails", "(I)Z"⟩, 11), (⟨"SleepRope$Reader", "own", "()I"⟩, 11), (⟨"SleepRope$Reader", "readBoy", "()Z"⟩, 11), (⟨"SleepRope$Reader", "step", "()V"⟩, 11), (⟨"SleepRope$Reader", "needsName", "()Z"⟩, 11), (⟨"SleepRope$Reader", "needsOwn", "(I)Z"⟩, 11), (⟨"SleepRope$Reader", "needsNumber", "(II)Z"⟩, 11), (⟨"SleepRope$Reader", "readMarks", "(I)Z"⟩, 11), (⟨"SleepRope$Reader", "readSlack", "()Z"⟩, 11), (⟨"SleepRope$Reader", "readDream", "()Z"⟩, 11), (⟨"SleepRope$Reader", "readLaw", "(Z)Z"⟩, 11)]
theorem lw_r1 : ∀ q ∈ lw_privs_1, lw_okq q := List.forall_mem_cons.mpr ⟨lw_p0, List.forall_mem_cons.mpr ⟨lw_p1, List.forall_mem_cons.mpr ⟨lw_p2, List.forall_mem_cons.mpr ⟨lw_p3, List.forall_mem_cons.mpr ⟨lw_p4, List.forall_mem_cons.mpr ⟨lw_p5, List.forall_mem_cons.mpr ⟨lw_p6, List.forall_mem_cons.mpr ⟨lw_p7, List.forall_mem_cons.mpr ⟨lw_p8, List.forall_mem_cons.mpr ⟨lw_p9, List.forall_mem_cons.mpr ⟨lw_p10, List.forall_mem_cons.mpr ⟨lw_p11, List.forall_mem_cons.mpr ⟨lw_p12, List.forall_mem_cons.mpr ⟨lw_p13, List.forall_mem_cons.mpr ⟨lw_p14, List.forall_mem_cons.mpr ⟨lw_p15, fun _ h => absurd h List.not_mem_nil⟩⟩⟩⟩⟩⟩⟩⟩⟩⟩⟩⟩⟩⟩⟩⟩
theorem lw_p16 : lw_okq (⟨"SleepRope$Reader", "readSum", "(I)Z"⟩, 11) := ⟨⟨by decide +kernel, by decide +kernel⟩, List.mem_of_getElem? (i := 29) (by decide +kernel), List.mem_of_getElem? (i := 670) (by decide +kernel), List.mem_of_getElem? (i := 671) (by decide +kernel)⟩
theorem lw_p17 : lw_okq (⟨"SleepRope$Reader", "readPart", "(I)Z"⟩, 11) := ⟨⟨by decide +kernel, by decide +kernel⟩, List.mem_of_getElem? (i := 29) (by decide +kernel), List.mem_of_getElem? (i := 674) (by decide +kernel), List.mem_of_getElem? (i := 675) (by decide +kernel)⟩
theorem lw_p18 : lw_okq (⟨"SleepRope$Reader", "isSign", "(C)Z"⟩, 11) := ⟨⟨by decide +kernel, by decide +kernel⟩, List.mem_of_getElem? (i := 29) (by decide +kernel), List.mem_of_getElem? (i := 682) (by decide +kernel), List.mem_of_getElem? (i := 683) (by decide +kernel)⟩
theorem lw_p19 : lw_okq (⟨"SleepRope$Reader", "readTest", "(I)Z"⟩, 11) := ⟨⟨by decide +kernel, by decide +kernel⟩, List.mem_of_getElem? (i := 29) (by decide +kernel), List.mem_of_getElem? (i := 690) (by decide +kernel), List.mem_of_getElem? (i := 691) (by decide +kernel)⟩
theorem lw_p20 : lw_okq (⟨"SleepRope$Reader", "readFact", "(I)Z"⟩, 11) := ⟨⟨by decide +kernel, by decide +kernel⟩, List.mem_of_getElem? (i := 29) (by decide +kernel), List.mem_of_getElem? (i := 694) (by decide +kernel), List.mem_of_getElem? (i := 695) (by decide +kernel)⟩
theorem lw_p21 : lw_okq (⟨"SleepRope", "tiedKnots", "()I"⟩, 16) := ⟨⟨by decide +kernel, by decide +kernel⟩, List.mem_of_getElem? (i := 21) (by decide +kernel), List.mem_of_getElem? (i := 718) (by decide +kernel), List.mem_of_getElem? (i := 719) (by decide +kernel)⟩
theorem lw_p22 : lw_okq (⟨"SleepRope", "dreamers", "(I)I"⟩, 16) := ⟨⟨by decide +kernel, by decide +kernel⟩, List.mem_of_getElem? (i := 21) (by decide +kernel), List.mem_of_getElem? (i := 726) (by decide +kernel), List.mem_of_getElem? (i := 727) (by decide +kernel)⟩
theorem lw_p23 : lw_okq (⟨"SleepRope", "caughtOnes", "()I"⟩, 16) := ⟨⟨by decide +kernel, by decide +kernel⟩, List.mem_of_getElem? (i := 21) (by decide +kernel), List.mem_of_getElem? (i := 730) (by decide +kernel), List.mem_of_getElem? (i := 731) (by decide +kernel)⟩
theorem lw_p24 : lw_okq (⟨"SleepRope", "isBoy", "(I)Z"⟩, 16) := ⟨⟨by decide +kernel, by decide +kernel⟩, List.mem_of_getElem? (i := 21) (by decide +kernel), List.mem_of_getElem? (i := 743) (by decide +kernel), List.mem_of_getElem? (i := 744) (by decide +kernel)⟩
theorem lw_p25 : lw_okq (⟨"SleepRope", "isDream", "(I)Z"⟩, 16) := ⟨⟨by decide +kernel, by decide +kernel⟩, List.mem_of_getElem? (i := 21) (by decide +kernel), List.mem_of_getElem? (i := 750) (by decide +kernel), List.mem_of_getElem? (i := 751) (by decide +kernel)⟩
theorem lw_p26 : lw_okq (⟨"SleepRope", "isPlace", "(I)Z"⟩, 16) := ⟨⟨by decide +kernel, by decide +kernel⟩, List.mem_of_getElem? (i := 21) (by decide +kernel), List.mem_of_getElem? (i := 766) (by decide +kernel), List.mem_of_getElem? (i := 767) (by decide +kernel)⟩
theorem lw_p27 : lw_okq (⟨"SleepRope", "isKnot", "(I)Z"⟩, 16) := ⟨⟨by decide +kernel, by decide +kernel⟩, List.mem_of_getElem? (i := 21) (by decide +kernel), List.mem_of_getElem? (i := 774) (by decide +kernel), List.mem_of_getElem? (i := 775) (by decide +kernel)⟩
theorem lw_p28 : lw_okq (⟨"SleepRope", "strain", "(I)I"⟩, 16) := ⟨⟨by decide +kernel, by decide +kernel⟩, List.mem_of_getElem? (i := 21) (by decide +kernel), List.mem_of_getElem? (i := 778) (by decide +kernel), List.mem_of_getElem? (i := 779) (by decide +kernel)⟩
theorem lw_p29 : lw_okq (⟨"SleepRope$Laws", "run", "(II)I"⟩, 9) := ⟨⟨by decide +kernel, by decide +kernel⟩, List.mem_of_getElem? (i := 41) (by decide +kernel), List.mem_of_getElem? (i := 815) (by decide +kernel), List.mem_of_getElem? (i := 816) (by decide +kernel)⟩
theorem lw_p30 : lw_okq (⟨"SleepRope", "startAct", "()V"⟩, 16) := ⟨⟨by decide +kernel, by decide +kernel⟩, List.mem_of_getElem? (i := 21) (by decide +kernel), List.mem_of_getElem? (i := 836) (by decide +kernel), List.mem_of_getElem? (i := 837) (by decide +kernel)⟩
theorem lw_p31 : lw_okq (⟨"SleepRope$Tug", "passedOn", "(LSleepRope$Dorm;LSleepRope$Rope;II)I"⟩, 2) := ⟨⟨by decide +kernel, by decide +kernel⟩, List.mem_of_getElem? (i := 377) (by decide +kernel), List.mem_of_getElem? (i := 879) (by decide +kernel), List.mem_of_getElem? (i := 880) (by decide +kernel)⟩
def lw_privs_2 : List (MethodName × Nat) := [(⟨"SleepRope$Reader", "readSum", "(I)Z"⟩, 11), (⟨"SleepRope$Reader", "readPart", "(I)Z"⟩, 11), (⟨"SleepRope$Reader", "isSign", "(C)Z"⟩, 11), (⟨"SleepRope$Reader", "readTest", "(I)Z"⟩, 11), (⟨"SleepRope$Reader", "readFact", "(I)Z"⟩, 11), (⟨"SleepRope", "tiedKnots", "()I"⟩, 16), (⟨"SleepRope", "dreamers", "(I)I"⟩, 16), (⟨"SleepRope", "caughtOnes", "()I"⟩, 16), (⟨"SleepRope", "isBoy", "(I)Z"⟩, 16), (⟨"SleepRope", "isDream", "(I)Z"⟩, 16), (⟨"SleepRope", "isPlace", "(I)Z"⟩, 16), (⟨"SleepRope", "isKnot", "(I)Z"⟩, 16), (⟨"SleepRope", "strain", "(I)I"⟩, 16), (⟨"SleepRope$Laws", "run", "(II)I"⟩, 9), (⟨"SleepRope", "startAct", "()V"⟩, 16), (⟨"SleepRope$Tug", "passedOn", "(LSleepRope$Dorm;LSleepRope$Rope;II)I"⟩, 2)]
theorem lw_r2 : ∀ q ∈ lw_privs_2, lw_okq q := List.forall_mem_cons.mpr ⟨lw_p16, List.forall_mem_cons.mpr ⟨lw_p17, List.forall_mem_cons.mpr ⟨lw_p18, List.forall_mem_cons.mpr ⟨lw_p19, List.forall_mem_cons.mpr ⟨lw_p20, List.forall_mem_cons.mpr ⟨lw_p21, List.forall_mem_cons.mpr ⟨lw_p22, List.forall_mem_cons.mpr ⟨lw_p23, List.forall_mem_cons.mpr ⟨lw_p24, List.forall_mem_cons.mpr ⟨lw_p25, List.forall_mem_cons.mpr ⟨lw_p26, List.forall_mem_cons.mpr ⟨lw_p27, List.forall_mem_cons.mpr ⟨lw_p28, List.forall_mem_cons.mpr ⟨lw_p29, List.forall_mem_cons.mpr ⟨lw_p30, List.forall_mem_cons.mpr ⟨lw_p31, fun _ h => absurd h List.not_mem_nil⟩⟩⟩⟩⟩⟩⟩⟩⟩⟩⟩⟩⟩⟩⟩⟩
theorem lw_p32 : lw_okq (⟨"SleepRope$Night", "draw", "(I)I"⟩, 2) := ⟨⟨by decide +kernel, by decide +kernel⟩, List.mem_of_getElem? (i := 371) (by decide +kernel), List.mem_of_getElem? (i := 902) (by decide +kernel), List.mem_of_getElem? (i := 903) (by decide +kernel)⟩
theorem lw_p33 : lw_okq (⟨"SleepRope$Night", "drawnDream", "(LSleepRope$Dorm;)I"⟩, 2) := ⟨⟨by decide +kernel, by decide +kernel⟩, List.mem_of_getElem? (i := 371) (by decide +kernel), List.mem_of_getElem? (i := 909) (by decide +kernel), List.mem_of_getElem? (i := 910) (by decide +kernel)⟩
theorem lw_p34 : lw_okq (⟨"SleepRope$Orders", "begin", "(LSleepRope$Dorm;LSleepRope$Rope;)V"⟩, 12) := ⟨⟨by decide +kernel, by decide +kernel⟩, List.mem_of_getElem? (i := 405) (by decide +kernel), List.mem_of_getElem? (i := 973) (by decide +kernel), List.mem_of_getElem? (i := 974) (by decide +kernel)⟩
theorem lw_p35 : lw_okq (⟨"SleepRope$Orders", "badness", "(LSleepRope$Dorm;)I"⟩, 12) := ⟨⟨by decide +kernel, by decide +kernel⟩, List.mem_of_getElem? (i := 405) (by decide +kernel), List.mem_of_getElem? (i := 980) (by decide +kernel), List.mem_of_getElem? (i := 981) (by decide +kernel)⟩
theorem lw_p36 : lw_okq (⟨"SleepRope", "pairOnTape", "(I)I"⟩, 16) := ⟨⟨by decide +kernel, by decide +kernel⟩, List.mem_of_getElem? (i := 21) (by decide +kernel), List.mem_of_getElem? (i := 1025) (by decide +kernel), List.mem_of_getElem? (i := 1026) (by decide +kernel)⟩
theorem lw_p37 : lw_okq (⟨"SleepRope", "onTape", "(I)I"⟩, 16) := ⟨⟨by decide +kernel, by decide +kernel⟩, List.mem_of_getElem? (i := 21) (by decide +kernel), List.mem_of_getElem? (i := 1029) (by decide +kernel), List.mem_of_getElem? (i := 1030) (by decide +kernel)⟩
theorem lw_p38 : lw_okq (⟨"SleepRope", "oddsOfHaving", "(II)I"⟩, 16) := ⟨⟨by decide +kernel, by decide +kernel⟩, List.mem_of_getElem? (i := 21) (by decide +kernel), List.mem_of_getElem? (i := 1037) (by decide +kernel), List.mem_of_getElem? (i := 1038) (by decide +kernel)⟩
theorem lw_p39 : lw_okq (⟨"SleepRope", "areTied", "(I)Z"⟩, 16) := ⟨⟨by decide +kernel, by decide +kernel⟩, List.mem_of_getElem? (i := 21) (by decide +kernel), List.mem_of_getElem? (i := 1046) (by decide +kernel), List.mem_of_getElem? (i := 1047) (by decide +kernel)⟩
theorem lw_p40 : lw_okq (⟨"SleepRope", "heaviestPiece", "(I)I"⟩, 16) := ⟨⟨by decide +kernel, by decide +kernel⟩, List.mem_of_getElem? (i := 21) (by decide +kernel), List.mem_of_getElem? (i := 1053) (by decide +kernel), List.mem_of_getElem? (i := 1054) (by decide +kernel)⟩
theorem lw_p41 : lw_okq (⟨"SleepRope", "takenBy", "(II)I"⟩, 16) := ⟨⟨by decide +kernel, by decide +kernel⟩, List.mem_of_getElem? (i := 21) (by decide +kernel), List.mem_of_getElem? (i := 1064) (by decide +kernel), List.mem_of_getElem? (i := 1065) (by decide +kernel)⟩
theorem lw_p42 : lw_okq (⟨"SleepRope", "allAwake", "()Z"⟩, 16) := ⟨⟨by decide +kernel, by decide +kernel⟩, List.mem_of_getElem? (i := 21) (by decide +kernel), List.mem_of_getElem? (i := 1077) (by decide +kernel), List.mem_of_getElem? (i := 1078) (by decide +kernel)⟩
theorem lw_p43 : lw_okq (⟨"SleepRope", "putPair", "(I)V"⟩, 16) := ⟨⟨by decide +kernel, by decide +kernel⟩, List.mem_of_getElem? (i := 21) (by decide +kernel), List.mem_of_getElem? (i := 1085) (by decide +kernel), List.mem_of_getElem? (i := 1086) (by decide +kernel)⟩
theorem lw_p44 : lw_okq (⟨"SleepRope", "putOctet", "(I)V"⟩, 16) := ⟨⟨by decide +kernel, by decide +kernel⟩, List.mem_of_getElem? (i := 21) (by decide +kernel), List.mem_of_getElem? (i := 1089) (by decide +kernel), List.mem_of_getElem? (i := 1090) (by decide +kernel)⟩
theorem lw_p45 : lw_okq (⟨"SleepRope", "isImage", "(I)Z"⟩, 16) := ⟨⟨by decide +kernel, by decide +kernel⟩, List.mem_of_getElem? (i := 21) (by decide +kernel), List.mem_of_getElem? (i := 1105) (by decide +kernel), List.mem_of_getElem? (i := 1106) (by decide +kernel)⟩
theorem lw_p46 : lw_okq (⟨"SleepRope", "isImageOfBoy", "(II)Z"⟩, 16) := ⟨⟨by decide +kernel, by decide +kernel⟩, List.mem_of_getElem? (i := 21) (by decide +kernel), List.mem_of_getElem? (i := 1109) (by decide +kernel), List.mem_of_getElem? (i := 1110) (by decide +kernel)⟩
theorem lw_p47 : lw_okq (⟨"SleepRopeModel", "refuses", "(I)I"⟩, 82) := ⟨⟨by decide +kernel, by decide +kernel⟩, List.mem_of_getElem? (i := 1117) (by decide +kernel), List.mem_of_getElem? (i := 1375) (by decide +kernel), List.mem_of_getElem? (i := 1376) (by decide +kernel)⟩
def lw_privs_3 : List (MethodName × Nat) := [(⟨"SleepRope$Night", "draw", "(I)I"⟩, 2), (⟨"SleepRope$Night", "drawnDream", "(LSleepRope$Dorm;)I"⟩, 2), (⟨"SleepRope$Orders", "begin", "(LSleepRope$Dorm;LSleepRope$Rope;)V"⟩, 12), (⟨"SleepRope$Orders", "badness", "(LSleepRope$Dorm;)I"⟩, 12), (⟨"SleepRope", "pairOnTape", "(I)I"⟩, 16), (⟨"SleepRope", "onTape", "(I)I"⟩, 16), (⟨"SleepRope", "oddsOfHaving", "(II)I"⟩, 16), (⟨"SleepRope", "areTied", "(I)Z"⟩, 16), (⟨"SleepRope", "heaviestPiece", "(I)I"⟩, 16), (⟨"SleepRope", "takenBy", "(II)I"⟩, 16), (⟨"SleepRope", "allAwake", "()Z"⟩, 16), (⟨"SleepRope", "putPair", "(I)V"⟩, 16), (⟨"SleepRope", "putOctet", "(I)V"⟩, 16), (⟨"SleepRope", "isImage", "(I)Z"⟩, 16), (⟨"SleepRope", "isImageOfBoy", "(II)Z"⟩, 16), (⟨"SleepRopeModel", "refuses", "(I)I"⟩, 82)]
theorem lw_r3 : ∀ q ∈ lw_privs_3, lw_okq q := List.forall_mem_cons.mpr ⟨lw_p32, List.forall_mem_cons.mpr ⟨lw_p33, List.forall_mem_cons.mpr ⟨lw_p34, List.forall_mem_cons.mpr ⟨lw_p35, List.forall_mem_cons.mpr ⟨lw_p36, List.forall_mem_cons.mpr ⟨lw_p37, List.forall_mem_cons.mpr ⟨lw_p38, List.forall_mem_cons.mpr ⟨lw_p39, List.forall_mem_cons.mpr ⟨lw_p40, List.forall_mem_cons.mpr ⟨lw_p41, List.forall_mem_cons.mpr ⟨lw_p42, List.forall_mem_cons.mpr ⟨lw_p43, List.forall_mem_cons.mpr ⟨lw_p44, List.forall_mem_cons.mpr ⟨lw_p45, List.forall_mem_cons.mpr ⟨lw_p46, List.forall_mem_cons.mpr ⟨lw_p47, fun _ h => absurd h List.not_mem_nil⟩⟩⟩⟩⟩⟩⟩⟩⟩⟩⟩⟩⟩⟩⟩⟩
theorem lw_p48 : lw_okq (⟨"SleepRopeModel", "put", "(I)V"⟩, 82) := ⟨⟨by decide +kernel, by decide +kernel⟩, List.mem_of_getElem? (i := 1117) (by decide +kernel), List.mem_of_getElem? (i := 1379) (by decide +kernel), List.mem_of_getElem? (i := 1380) (by decide +kernel)⟩
theorem lw_p49 : lw_okq (⟨"SleepRopeModel", "ahead", "()V"⟩, 82) := ⟨⟨by decide +kernel, by decide +kernel⟩, List.mem_of_getElem? (i := 1117) (by decide +kernel), List.mem_of_getElem? (i := 1391) (by decide +kernel), List.mem_of_getElem? (i := 1392) (by decide +kernel)⟩
theorem lw_p50 : lw_okq (⟨"SleepRopeModel", "blame", "(II)V"⟩, 82) := ⟨⟨by decide +kernel, by decide +kernel⟩, List.mem_of_getElem? (i := 1117) (by decide +kernel), List.mem_of_getElem? (i := 1401) (by decide +kernel), List.mem_of_getElem? (i := 1402) (by decide +kernel)⟩
theorem lw_p51 : lw_okq (⟨"SleepRopeModel", "statement", "()V"⟩, 82) := ⟨⟨by decide +kernel, by decide +kernel⟩, List.mem_of_getElem? (i := 1117) (by decide +kernel), List.mem_of_getElem? (i := 1405) (by decide +kernel), List.mem_of_getElem? (i := 1406) (by decide +kernel)⟩
theorem lw_p52 : lw_okq (⟨"SleepRopeModel", "isWord", "(J)Z"⟩, 82) := ⟨⟨by decide +kernel, by decide +kernel⟩, List.mem_of_getElem? (i := 1117) (by decide +kernel), List.mem_of_getElem? (i := 1410) (by decide +kernel), List.mem_of_getElem? (i := 1411) (by decide +kernel)⟩
theorem lw_p53 : lw_okq (⟨"SleepRopeModel", "boying", "()V"⟩, 82) := ⟨⟨by decide +kernel, by decide +kernel⟩, List.mem_of_getElem? (i := 1117) (by decide +kernel), List.mem_of_getElem? (i := 1414) (by decide +kernel), List.mem_of_getElem? (i := 1415) (by decide +kernel)⟩
theorem lw_p54 : lw_okq (⟨"SleepRopeModel", "counts", "(Z)Z"⟩, 82) := ⟨⟨by decide +kernel, by decide +kernel⟩, List.mem_of_getElem? (i := 1117) (by decide +kernel), List.mem_of_getElem? (i := 1418) (by decide +kernel), List.mem_of_getElem? (i := 1419) (by decide +kernel)⟩
theorem lw_p55 : lw_okq (⟨"SleepRopeModel", "fresh", "()J"⟩, 82) := ⟨⟨by decide +kernel, by decide +kernel⟩, List.mem_of_getElem? (i := 1117) (by decide +kernel), List.mem_of_getElem? (i := 1422) (by decide +kernel), List.mem_of_getElem? (i := 1423) (by decide +kernel)⟩
theorem lw_p56 : lw_okq (⟨"SleepRopeModel", "isOwn", "(J)Z"⟩, 82) := ⟨⟨by decide +kernel, by decide +kernel⟩, List.mem_of_getElem? (i := 1117) (by decide +kernel), List.mem_of_getElem? (i := 1426) (by decide +kernel), List.mem_of_getElem? (i := 1427) (by decide +kernel)⟩
theorem lw_p57 : lw_okq (⟨"SleepRopeModel", "isThere", "(J)Z"⟩, 82) := ⟨⟨by decide +kernel, by decide +kernel⟩, List.mem_of_getElem? (i := 1117) (by decide +kernel), List.mem_of_getElem? (i := 1456) (by decide +kernel), List.mem_of_getElem? (i := 1457) (by decide +kernel)⟩
theorem lw_p58 : lw_okq (⟨"SleepRopeModel", "must", "(J)V"⟩, 82) := ⟨⟨by decide +kernel, by decide +kernel⟩, List.mem_of_getElem? (i := 1117) (by decide +kernel), List.mem_of_getElem? (i := 1460) (by decide +kernel), List.mem_of_getElem? (i := 1461) (by decide +kernel)⟩
theorem lw_p59 : lw_okq (⟨"SleepRopeModel", "number", "(II)I"⟩, 82) := ⟨⟨by decide +kernel, by decide +kernel⟩, List.mem_of_getElem? (i := 1117) (by decide +kernel), List.mem_of_getElem? (i := 1464) (by decide +kernel), List.mem_of_getElem? (i := 1465) (by decide +kernel)⟩
theorem lw_p60 : lw_okq (⟨"SleepRopeModel", "marking", "(I)V"⟩, 82) := ⟨⟨by decide +kernel, by decide +kernel⟩, List.mem_of_getElem? (i := 1117) (by decide +kernel), List.mem_of_getElem? (i := 1471) (by decide +kernel), List.mem_of_getElem? (i := 1472) (by decide +kernel)⟩
theorem lw_p61 : lw_okq (⟨"SleepRopeModel", "slacking", "()V"⟩, 82) := ⟨⟨by decide +kernel, by decide +kernel⟩, List.mem_of_getElem? (i := 1117) (by decide +kernel), List.mem_of_getElem? (i := 1475) (by decide +kernel), List.mem_of_getElem? (i := 1476) (by decide +kernel)⟩
theorem lw_p62 : lw_okq (⟨"SleepRopeModel", "dreaming", "()V"⟩, 82) := ⟨⟨by decide +kernel, by decide +kernel⟩, List.mem_of_getElem? (i := 1117) (by decide +kernel), List.mem_of_getElem? (i := 1479) (by decide +kernel), List.mem_of_getElem? (i := 1480) (by decide +kernel)⟩
theorem lw_p63 : lw_okq (⟨"SleepRopeModel", "lawing", "(I)V"⟩, 82) := ⟨⟨by decide +kernel, by decide +kernel⟩, List.mem_of_getElem? (i := 1117) (by decide +kernel), List.mem_of_getElem? (i := 1483) (by decide +kernel), List.mem_of_getElem? (i := 1484) (by decide +kernel)⟩
def lw_privs_4 : List (MethodName × Nat) := [(⟨"SleepRopeModel", "put", "(I)V"⟩, 82), (⟨"SleepRopeModel", "ahead", "()V"⟩, 82), (⟨"SleepRopeModel", "blame", "(II)V"⟩, 82), (⟨"SleepRopeModel", "statement", "()V"⟩, 82), (⟨"SleepRopeModel", "isWord", "(J)Z"⟩, 82), (⟨"SleepRopeModel", "boying", "()V"⟩, 82), (⟨"SleepRopeModel", "counts", "(Z)Z"⟩, 82), (⟨"SleepRopeModel", "fresh", "()J"⟩, 82), (⟨"SleepRopeModel", "isOwn", "(J)Z"⟩, 82), (⟨"SleepRopeModel", "isThere", "(J)Z"⟩, 82), (⟨"SleepRopeModel", "must", "(J)V"⟩, 82), (⟨"SleepRopeModel", "number", "(II)I"⟩, 82), (⟨"SleepRopeModel", "marking", "(I)V"⟩, 82), (⟨"SleepRopeModel", "slacking", "()V"⟩, 82), (⟨"SleepRopeModel", "dreaming", "()V"⟩, 82), (⟨"SleepRopeModel", "lawing", "(I)V"⟩, 82)]
theorem lw_r4 : ∀ q ∈ lw_privs_4, lw_okq q := List.forall_mem_cons.mpr ⟨lw_p48, List.forall_mem_cons.mpr ⟨lw_p49, List.forall_mem_cons.mpr ⟨lw_p50, List.forall_mem_cons.mpr ⟨lw_p51, List.forall_mem_cons.mpr ⟨lw_p52, List.forall_mem_cons.mpr ⟨lw_p53, List.forall_mem_cons.mpr ⟨lw_p54, List.forall_mem_cons.mpr ⟨lw_p55, List.forall_mem_cons.mpr ⟨lw_p56, List.forall_mem_cons.mpr ⟨lw_p57, List.forall_mem_cons.mpr ⟨lw_p58, List.forall_mem_cons.mpr ⟨lw_p59, List.forall_mem_cons.mpr ⟨lw_p60, List.forall_mem_cons.mpr ⟨lw_p61, List.forall_mem_cons.mpr ⟨lw_p62, List.forall_mem_cons.mpr ⟨lw_p63, fun _ h => absurd h List.not_mem_nil⟩⟩⟩⟩⟩⟩⟩⟩⟩⟩⟩⟩⟩⟩⟩⟩
theorem lw_p64 : lw_okq (⟨"SleepRopeModel", "reads", "(Z)V"⟩, 82) := ⟨⟨by decide +kernel, by decide +kernel⟩, List.mem_of_getElem? (i := 1117) (by decide +kernel), List.mem_of_getElem? (i := 1487) (by decide +kernel), List.mem_of_getElem? (i := 1488) (by decide +kernel)⟩
theorem lw_p65 : lw_okq (⟨"SleepRopeModel", "pushes", "(I)V"⟩, 82) := ⟨⟨by decide +kernel, by decide +kernel⟩, List.mem_of_getElem? (i := 1117) (by decide +kernel), List.mem_of_getElem? (i := 1491) (by decide +kernel), List.mem_of_getElem? (i := 1492) (by decide +kernel)⟩
theorem lw_p66 : lw_okq (⟨"SleepRopeModel", "operand", "()Z"⟩, 82) := ⟨⟨by decide +kernel, by decide +kernel⟩, List.mem_of_getElem? (i := 1117) (by decide +kernel), List.mem_of_getElem? (i := 1495) (by decide +kernel), List.mem_of_getElem? (i := 1496) (by decide +kernel)⟩
theorem lw_p67 : lw_okq (⟨"SleepRopeModel", "holdsBack", "(I)V"⟩, 82) := ⟨⟨by decide +kernel, by decide +kernel⟩, List.mem_of_getElem? (i := 1117) (by decide +kernel), List.mem_of_getElem? (i := 1502) (by decide +kernel), List.mem_of_getElem? (i := 1503) (by decide +kernel)⟩
theorem lw_p68 : lw_okq (⟨"SleepRopeModel", "isSign", "(I)Z"⟩, 82) := ⟨⟨by decide +kernel, by decide +kernel⟩, List.mem_of_getElem? (i := 1117) (by decide +kernel), List.mem_of_getElem? (i := 1506) (by decide +kernel), List.mem_of_getElem? (i := 1507) (by decide +kernel)⟩
theorem lw_p69 : lw_okq (⟨"SleepRopeModel", "opens", "(I)V"⟩, 82) := ⟨⟨by decide +kernel, by decide +kernel⟩, List.mem_of_getElem? (i := 1117) (by decide +kernel), List.mem_of_getElem? (i := 1510) (by decide +kernel), List.mem_of_getElem? (i := 1511) (by decide +kernel)⟩
theorem lw_p70 : lw_okq (⟨"SleepRopeModel", "add", "(II)V"⟩, 82) := ⟨⟨by decide +kernel, by decide +kernel⟩, List.mem_of_getElem? (i := 1117) (by decide +kernel), List.mem_of_getElem? (i := 1514) (by decide +kernel), List.mem_of_getElem? (i := 1515) (by decide +kernel)⟩
theorem lw_p71 : lw_okq (⟨"SleepRopeModel", "goesOn", "()Z"⟩, 82) := ⟨⟨by decide +kernel, by decide +kernel⟩, List.mem_of_getElem? (i := 1117) (by decide +kernel), List.mem_of_getElem? (i := 1518) (by decide +kernel), List.mem_of_getElem? (i := 1519) (by decide +kernel)⟩
theorem lw_p72 : lw_okq (⟨"SleepRopeModel", "joins", "(I)V"⟩, 82) := ⟨⟨by decide +kernel, by decide +kernel⟩, List.mem_of_getElem? (i := 1117) (by decide +kernel), List.mem_of_getElem? (i := 1522) (by decide +kernel), List.mem_of_getElem? (i := 1523) (by decide +kernel)⟩
theorem lw_p73 : lw_okq (⟨"SleepRopeModel", "ends", "(I)V"⟩, 82) := ⟨⟨by decide +kernel, by decide +kernel⟩, List.mem_of_getElem? (i := 1117) (by decide +kernel), List.mem_of_getElem? (i := 1529) (by decide +kernel), List.mem_of_getElem? (i := 1530) (by decide +kernel)⟩
theorem lw_p74 : lw_okq (⟨"SleepRopeModel", "must", "(I)V"⟩, 82) := ⟨⟨by decide +kernel, by decide +kernel⟩, List.mem_of_getElem? (i := 1117) (by decide +kernel), List.mem_of_getElem? (i := 1533) (by decide +kernel), List.mem_of_getElem? (i := 1534) (by decide +kernel)⟩
theorem lw_p75 : lw_okq (⟨"SleepRopeModel", "begins", "()V"⟩, 82) := ⟨⟨by decide +kernel, by decide +kernel⟩, List.mem_of_getElem? (i := 1117) (by decide +kernel), List.mem_of_getElem? (i := 1537) (by decide +kernel), List.mem_of_getElem? (i := 1538) (by decide +kernel)⟩
theorem lw_p76 : lw_okq (⟨"SleepRopeModel", "clears", "(I)V"⟩, 82) := ⟨⟨by decide +kernel, by decide +kernel⟩, List.mem_of_getElem? (i := 1117) (by decide +kernel), List.mem_of_getElem? (i := 1541) (by decide +kernel), List.mem_of_getElem? (i := 1542) (by decide +kernel)⟩
theorem lw_p77 : lw_okq (⟨"SleepRopeModel", "ring", "(I)I"⟩, 82) := ⟨⟨by decide +kernel, by decide +kernel⟩, List.mem_of_getElem? (i := 1117) (by decide +kernel), List.mem_of_getElem? (i := 1557) (by decide +kernel), List.mem_of_getElem? (i := 1558) (by decide +kernel)⟩
theorem lw_p78 : lw_okq (⟨"SleepRopeModel", "copies", "(II)V"⟩, 82) := ⟨⟨by decide +kernel, by decide +kernel⟩, List.mem_of_getElem? (i := 1117) (by decide +kernel), List.mem_of_getElem? (i := 1561) (by decide +kernel), List.mem_of_getElem? (i := 1562) (by decide +kernel)⟩
theorem lw_p79 : lw_okq (⟨"SleepRopeModel", "many", "()I"⟩, 82) := ⟨⟨by decide +kernel, by decide +kernel⟩, List.mem_of_getElem? (i := 1117) (by decide +kernel), List.mem_of_getElem? (i := 1569) (by decide +kernel), List.mem_of_getElem? (i := 1570) (by decide +kernel)⟩
def lw_privs_5 : List (MethodName × Nat) := [(⟨"SleepRopeModel", "reads", "(Z)V"⟩, 82), (⟨"SleepRopeModel", "pushes", "(I)V"⟩, 82), (⟨"SleepRopeModel", "operand", "()Z"⟩, 82), (⟨"SleepRopeModel", "holdsBack", "(I)V"⟩, 82), (⟨"SleepRopeModel", "isSign", "(I)Z"⟩, 82), (⟨"SleepRopeModel", "opens", "(I)V"⟩, 82), (⟨"SleepRopeModel", "add", "(II)V"⟩, 82), (⟨"SleepRopeModel", "goesOn", "()Z"⟩, 82), (⟨"SleepRopeModel", "joins", "(I)V"⟩, 82), (⟨"SleepRopeModel", "ends", "(I)V"⟩, 82), (⟨"SleepRopeModel", "must", "(I)V"⟩, 82), (⟨"SleepRopeModel", "begins", "()V"⟩, 82), (⟨"SleepRopeModel", "clears", "(I)V"⟩, 82), (⟨"SleepRopeModel", "ring", "(I)I"⟩, 82), (⟨"SleepRopeModel", "copies", "(II)V"⟩, 82), (⟨"SleepRopeModel", "many", "()I"⟩, 82)]
theorem lw_r5 : ∀ q ∈ lw_privs_5, lw_okq q := List.forall_mem_cons.mpr ⟨lw_p64, List.forall_mem_cons.mpr ⟨lw_p65, List.forall_mem_cons.mpr ⟨lw_p66, List.forall_mem_cons.mpr ⟨lw_p67, List.forall_mem_cons.mpr ⟨lw_p68, List.forall_mem_cons.mpr ⟨lw_p69, List.forall_mem_cons.mpr ⟨lw_p70, List.forall_mem_cons.mpr ⟨lw_p71, List.forall_mem_cons.mpr ⟨lw_p72, List.forall_mem_cons.mpr ⟨lw_p73, List.forall_mem_cons.mpr ⟨lw_p74, List.forall_mem_cons.mpr ⟨lw_p75, List.forall_mem_cons.mpr ⟨lw_p76, List.forall_mem_cons.mpr ⟨lw_p77, List.forall_mem_cons.mpr ⟨lw_p78, List.forall_mem_cons.mpr ⟨lw_p79, fun _ h => absurd h List.not_mem_nil⟩⟩⟩⟩⟩⟩⟩⟩⟩⟩⟩⟩⟩⟩⟩⟩
theorem lw_p80 : lw_okq (⟨"SleepRopeModel", "pieces", "()I"⟩, 82) := ⟨⟨by decide +kernel, by decide +kernel⟩, List.mem_of_getElem? (i := 1117) (by decide +kernel), List.mem_of_getElem? (i := 1573) (by decide +kernel), List.mem_of_getElem? (i := 1574) (by decide +kernel)⟩
theorem lw_p81 : lw_okq (⟨"SleepRopeModel", "isBoy", "(I)Z"⟩, 82) := ⟨⟨by decide +kernel, by decide +kernel⟩, List.mem_of_getElem? (i := 1117) (by decide +kernel), List.mem_of_getElem? (i := 1586) (by decide +kernel), List.mem_of_getElem? (i := 1587) (by decide +kernel)⟩
theorem lw_p82 : lw_okq (⟨"SleepRopeModel", "placeOf", "(II)I"⟩, 82) := ⟨⟨by decide +kernel, by decide +kernel⟩, List.mem_of_getElem? (i := 1117) (by decide +kernel), List.mem_of_getElem? (i := 1590) (by decide +kernel), List.mem_of_getElem? (i := 1591) (by decide +kernel)⟩
theorem lw_p83 : lw_okq (⟨"SleepRopeModel", "isKnot", "(I)Z"⟩, 82) := ⟨⟨by decide +kernel, by decide +kernel⟩, List.mem_of_getElem? (i := 1117) (by decide +kernel), List.mem_of_getElem? (i := 1602) (by decide +kernel), List.mem_of_getElem? (i := 1603) (by decide +kernel)⟩
theorem lw_p84 : lw_okq (⟨"SleepRopeModel", "strain", "(I)I"⟩, 82) := ⟨⟨by decide +kernel, by decide +kernel⟩, List.mem_of_getElem? (i := 1117) (by decide +kernel), List.mem_of_getElem? (i := 1606) (by decide +kernel), List.mem_of_getElem? (i := 1607) (by decide +kernel)⟩
theorem lw_p85 : lw_okq (⟨"SleepRopeModel", "isDream", "(I)Z"⟩, 82) := ⟨⟨by decide +kernel, by decide +kernel⟩, List.mem_of_getElem? (i := 1117) (by decide +kernel), List.mem_of_getElem? (i := 1614) (by decide +kernel), List.mem_of_getElem? (i := 1615) (by decide +kernel)⟩
theorem lw_p86 : lw_okq (⟨"SleepRopeModel", "rowNow", "(I)V"⟩, 82) := ⟨⟨by decide +kernel, by decide +kernel⟩, List.mem_of_getElem? (i := 1117) (by decide +kernel), List.mem_of_getElem? (i := 1626) (by decide +kernel), List.mem_of_getElem? (i := 1627) (by decide +kernel)⟩
theorem lw_p87 : lw_okq (⟨"SleepRopeModel", "passedOf", "(II)I"⟩, 82) := ⟨⟨by decide +kernel, by decide +kernel⟩, List.mem_of_getElem? (i := 1117) (by decide +kernel), List.mem_of_getElem? (i := 1630) (by decide +kernel), List.mem_of_getElem? (i := 1631) (by decide +kernel)⟩
theorem lw_p88 : lw_okq (⟨"SleepRopeModel", "isGhost", "(I)Z"⟩, 82) := ⟨⟨by decide +kernel, by decide +kernel⟩, List.mem_of_getElem? (i := 1117) (by decide +kernel), List.mem_of_getElem? (i := 1634) (by decide +kernel), List.mem_of_getElem? (i := 1635) (by decide +kernel)⟩
theorem lw_p89 : lw_okq (⟨"SleepRopeModel", "meets", "(II)V"⟩, 82) := ⟨⟨by decide +kernel, by decide +kernel⟩, List.mem_of_getElem? (i := 1117) (by decide +kernel), List.mem_of_getElem? (i := 1638) (by decide +kernel), List.mem_of_getElem? (i := 1639) (by decide +kernel)⟩
theorem lw_p90 : lw_okq (⟨"SleepRopeModel", "beside", "(I)I"⟩, 82) := ⟨⟨by decide +kernel, by decide +kernel⟩, List.mem_of_getElem? (i := 1117) (by decide +kernel), List.mem_of_getElem? (i := 1642) (by decide +kernel), List.mem_of_getElem? (i := 1643) (by decide +kernel)⟩
theorem lw_p91 : lw_okq (⟨"SleepRopeModel", "isTied", "(I)Z"⟩, 82) := ⟨⟨by decide +kernel, by decide +kernel⟩, List.mem_of_getElem? (i := 1117) (by decide +kernel), List.mem_of_getElem? (i := 1646) (by decide +kernel), List.mem_of_getElem? (i := 1647) (by decide +kernel)⟩
theorem lw_p92 : lw_okq (⟨"SleepRopeModel", "snores", "(I)Z"⟩, 82) := ⟨⟨by decide +kernel, by decide +kernel⟩, List.mem_of_getElem? (i := 1117) (by decide +kernel), List.mem_of_getElem? (i := 1650) (by decide +kernel), List.mem_of_getElem? (i := 1651) (by decide +kernel)⟩
theorem lw_p93 : lw_okq (⟨"SleepRopeModel", "lawOf", "(III)I"⟩, 82) := ⟨⟨by decide +kernel, by decide +kernel⟩, List.mem_of_getElem? (i := 1117) (by decide +kernel), List.mem_of_getElem? (i := 1654) (by decide +kernel), List.mem_of_getElem? (i := 1655) (by decide +kernel)⟩
theorem lw_p94 : lw_okq (⟨"SleepRopeModel", "reckons", "(II)J"⟩, 82) := ⟨⟨by decide +kernel, by decide +kernel⟩, List.mem_of_getElem? (i := 1117) (by decide +kernel), List.mem_of_getElem? (i := 1658) (by decide +kernel), List.mem_of_getElem? (i := 1659) (by decide +kernel)⟩
theorem lw_p95 : lw_okq (⟨"SleepRopeModel", "deepOf", "(II)I"⟩, 82) := ⟨⟨by decide +kernel, by decide +kernel⟩, List.mem_of_getElem? (i := 1117) (by decide +kernel), List.mem_of_getElem? (i := 1673) (by decide +kernel), List.mem_of_getElem? (i := 1674) (by decide +kernel)⟩
def lw_privs_6 : List (MethodName × Nat) := [(⟨"SleepRopeModel", "pieces", "()I"⟩, 82), (⟨"SleepRopeModel", "isBoy", "(I)Z"⟩, 82), (⟨"SleepRopeModel", "placeOf", "(II)I"⟩, 82), (⟨"SleepRopeModel", "isKnot", "(I)Z"⟩, 82), (⟨"SleepRopeModel", "strain", "(I)I"⟩, 82), (⟨"SleepRopeModel", "isDream", "(I)Z"⟩, 82), (⟨"SleepRopeModel", "rowNow", "(I)V"⟩, 82), (⟨"SleepRopeModel", "passedOf", "(II)I"⟩, 82), (⟨"SleepRopeModel", "isGhost", "(I)Z"⟩, 82), (⟨"SleepRopeModel", "meets", "(II)V"⟩, 82), (⟨"SleepRopeModel", "beside", "(I)I"⟩, 82), (⟨"SleepRopeModel", "isTied", "(I)Z"⟩, 82), (⟨"SleepRopeModel", "snores", "(I)Z"⟩, 82), (⟨"SleepRopeModel", "lawOf", "(III)I"⟩, 82), (⟨"SleepRopeModel", "reckons", "(II)J"⟩, 82), (⟨"SleepRopeModel", "deepOf", "(II)I"⟩, 82)]
theorem lw_r6 : ∀ q ∈ lw_privs_6, lw_okq q := List.forall_mem_cons.mpr ⟨lw_p80, List.forall_mem_cons.mpr ⟨lw_p81, List.forall_mem_cons.mpr ⟨lw_p82, List.forall_mem_cons.mpr ⟨lw_p83, List.forall_mem_cons.mpr ⟨lw_p84, List.forall_mem_cons.mpr ⟨lw_p85, List.forall_mem_cons.mpr ⟨lw_p86, List.forall_mem_cons.mpr ⟨lw_p87, List.forall_mem_cons.mpr ⟨lw_p88, List.forall_mem_cons.mpr ⟨lw_p89, List.forall_mem_cons.mpr ⟨lw_p90, List.forall_mem_cons.mpr ⟨lw_p91, List.forall_mem_cons.mpr ⟨lw_p92, List.forall_mem_cons.mpr ⟨lw_p93, List.forall_mem_cons.mpr ⟨lw_p94, List.forall_mem_cons.mpr ⟨lw_p95, fun _ h => absurd h List.not_mem_nil⟩⟩⟩⟩⟩⟩⟩⟩⟩⟩⟩⟩⟩⟩⟩⟩
theorem lw_p96 : lw_okq (⟨"SleepRopeModel", "keeps", "()V"⟩, 82) := ⟨⟨by decide +kernel, by decide +kernel⟩, List.mem_of_getElem? (i := 1117) (by decide +kernel), List.mem_of_getElem? (i := 1681) (by decide +kernel), List.mem_of_getElem? (i := 1682) (by decide +kernel)⟩
theorem lw_p97 : lw_okq (⟨"SleepRopeModel", "minuteGoes", "(I)V"⟩, 82) := ⟨⟨by decide +kernel, by decide +kernel⟩, List.mem_of_getElem? (i := 1117) (by decide +kernel), List.mem_of_getElem? (i := 1685) (by decide +kernel), List.mem_of_getElem? (i := 1686) (by decide +kernel)⟩
theorem lw_p98 : lw_okq (⟨"SleepRopeModel", "canDream", "(II)Z"⟩, 82) := ⟨⟨by decide +kernel, by decide +kernel⟩, List.mem_of_getElem? (i := 1117) (by decide +kernel), List.mem_of_getElem? (i := 1689) (by decide +kernel), List.mem_of_getElem? (i := 1690) (by decide +kernel)⟩
theorem lw_p99 : lw_okq (⟨"SleepRopeModel", "begin", "(IIIII)I"⟩, 82) := ⟨⟨by decide +kernel, by decide +kernel⟩, List.mem_of_getElem? (i := 1117) (by decide +kernel), List.mem_of_getElem? (i := 1693) (by decide +kernel), List.mem_of_getElem? (i := 1694) (by decide +kernel)⟩
theorem lw_p100 : lw_okq (⟨"SleepRopeModel", "tells", "(IIIII)V"⟩, 82) := ⟨⟨by decide +kernel, by decide +kernel⟩, List.mem_of_getElem? (i := 1117) (by decide +kernel), List.mem_of_getElem? (i := 1697) (by decide +kernel), List.mem_of_getElem? (i := 1698) (by decide +kernel)⟩
theorem lw_p101 : lw_okq (⟨"SleepRopeModel", "tugs", "(II)V"⟩, 82) := ⟨⟨by decide +kernel, by decide +kernel⟩, List.mem_of_getElem? (i := 1117) (by decide +kernel), List.mem_of_getElem? (i := 1701) (by decide +kernel), List.mem_of_getElem? (i := 1702) (by decide +kernel)⟩
theorem lw_p102 : lw_okq (⟨"SleepRopeModel", "slackAt", "(I)I"⟩, 82) := ⟨⟨by decide +kernel, by decide +kernel⟩, List.mem_of_getElem? (i := 1117) (by decide +kernel), List.mem_of_getElem? (i := 1705) (by decide +kernel), List.mem_of_getElem? (i := 1706) (by decide +kernel)⟩
theorem lw_p103 : lw_okq (⟨"SleepRopeModel", "comes", "(II)I"⟩, 82) := ⟨⟨by decide +kernel, by decide +kernel⟩, List.mem_of_getElem? (i := 1117) (by decide +kernel), List.mem_of_getElem? (i := 1709) (by decide +kernel), List.mem_of_getElem? (i := 1710) (by decide +kernel)⟩
theorem lw_p104 : lw_okq (⟨"SleepRopeModel", "isFelt", "(IIIII)V"⟩, 82) := ⟨⟨by decide +kernel, by decide +kernel⟩, List.mem_of_getElem? (i := 1117) (by decide +kernel), List.mem_of_getElem? (i := 1716) (by decide +kernel), List.mem_of_getElem? (i := 1717) (by decide +kernel)⟩
theorem lw_p105 : lw_okq (⟨"SleepRopeModel", "wakesUp", "(II)V"⟩, 82) := ⟨⟨by decide +kernel, by decide +kernel⟩, List.mem_of_getElem? (i := 1117) (by decide +kernel), List.mem_of_getElem? (i := 1721) (by decide +kernel), List.mem_of_getElem? (i := 1722) (by decide +kernel)⟩
theorem lw_p106 : lw_okq (⟨"SleepRopeModel", "draw", "(I)I"⟩, 82) := ⟨⟨by decide +kernel, by decide +kernel⟩, List.mem_of_getElem? (i := 1117) (by decide +kernel), List.mem_of_getElem? (i := 1725) (by decide +kernel), List.mem_of_getElem? (i := 1726) (by decide +kernel)⟩
theorem lw_p107 : lw_okq (⟨"SleepRopeModel", "drawn", "()I"⟩, 82) := ⟨⟨by decide +kernel, by decide +kernel⟩, List.mem_of_getElem? (i := 1117) (by decide +kernel), List.mem_of_getElem? (i := 1733) (by decide +kernel), List.mem_of_getElem? (i := 1734) (by decide +kernel)⟩
theorem lw_p108 : lw_okq (⟨"SleepRopeModel", "oddsAll", "()I"⟩, 82) := ⟨⟨by decide +kernel, by decide +kernel⟩, List.mem_of_getElem? (i := 1117) (by decide +kernel), List.mem_of_getElem? (i := 1737) (by decide +kernel), List.mem_of_getElem? (i := 1738) (by decide +kernel)⟩
theorem lw_p109 : lw_okq (⟨"SleepRopeModel", "badness", "()I"⟩, 82) := ⟨⟨by decide +kernel, by decide +kernel⟩, List.mem_of_getElem? (i := 1117) (by decide +kernel), List.mem_of_getElem? (i := 1781) (by decide +kernel), List.mem_of_getElem? (i := 1782) (by decide +kernel)⟩
theorem lw_p110 : lw_okq (⟨"SleepRopeModel", "nextRow", "()Z"⟩, 82) := ⟨⟨by decide +kernel, by decide +kernel⟩, List.mem_of_getElem? (i := 1117) (by decide +kernel), List.mem_of_getElem? (i := 1789) (by decide +kernel), List.mem_of_getElem? (i := 1790) (by decide +kernel)⟩
theorem lw_p111 : lw_okq (⟨"SleepRopeModel", "changes", "(II)V"⟩, 82) := ⟨⟨by decide +kernel, by decide +kernel⟩, List.mem_of_getElem? (i := 1117) (by decide +kernel), List.mem_of_getElem? (i := 1793) (by decide +kernel), List.mem_of_getElem? (i := 1794) (by decide +kernel)⟩
def lw_privs_7 : List (MethodName × Nat) := [(⟨"SleepRopeModel", "keeps", "()V"⟩, 82), (⟨"SleepRopeModel", "minuteGoes", "(I)V"⟩, 82), (⟨"SleepRopeModel", "canDream", "(II)Z"⟩, 82), (⟨"SleepRopeModel", "begin", "(IIIII)I"⟩, 82), (⟨"SleepRopeModel", "tells", "(IIIII)V"⟩, 82), (⟨"SleepRopeModel", "tugs", "(II)V"⟩, 82), (⟨"SleepRopeModel", "slackAt", "(I)I"⟩, 82), (⟨"SleepRopeModel", "comes", "(II)I"⟩, 82), (⟨"SleepRopeModel", "isFelt", "(IIIII)V"⟩, 82), (⟨"SleepRopeModel", "wakesUp", "(II)V"⟩, 82), (⟨"SleepRopeModel", "draw", "(I)I"⟩, 82), (⟨"SleepRopeModel", "drawn", "()I"⟩, 82), (⟨"SleepRopeModel", "oddsAll", "()I"⟩, 82), (⟨"SleepRopeModel", "badness", "()I"⟩, 82), (⟨"SleepRopeModel", "nextRow", "()Z"⟩, 82), (⟨"SleepRopeModel", "changes", "(II)V"⟩, 82)]
theorem lw_r7 : ∀ q ∈ lw_privs_7, lw_okq q := List.forall_mem_cons.mpr ⟨lw_p96, List.forall_mem_cons.mpr ⟨lw_p97, List.forall_mem_cons.mpr ⟨lw_p98, List.forall_mem_cons.mpr ⟨lw_p99, List.forall_mem_cons.mpr ⟨lw_p100, List.forall_mem_cons.mpr ⟨lw_p101, List.forall_mem_cons.mpr ⟨lw_p102, List.forall_mem_cons.mpr ⟨lw_p103, List.forall_mem_cons.mpr ⟨lw_p104, List.forall_mem_cons.mpr ⟨lw_p105, List.forall_mem_cons.mpr ⟨lw_p106, List.forall_mem_cons.mpr ⟨lw_p107, List.forall_mem_cons.mpr ⟨lw_p108, List.forall_mem_cons.mpr ⟨lw_p109, List.forall_mem_cons.mpr ⟨lw_p110, List.forall_mem_cons.mpr ⟨lw_p111, fun _ h => absurd h List.not_mem_nil⟩⟩⟩⟩⟩⟩⟩⟩⟩⟩⟩⟩⟩⟩⟩⟩
theorem lw_p112 : lw_okq (⟨"SleepRopeModel", "exchanged", "()I"⟩, 82) := ⟨⟨by decide +kernel, by decide +kernel⟩, List.mem_of_getElem? (i := 1117) (by decide +kernel), List.mem_of_getElem? (i := 1801) (by decide +kernel), List.mem_of_getElem? (i := 1802) (by decide +kernel)⟩
theorem lw_p113 : lw_okq (⟨"SleepRopeModel", "ropeOf", "(I)I"⟩, 82) := ⟨⟨by decide +kernel, by decide +kernel⟩, List.mem_of_getElem? (i := 1117) (by decide +kernel), List.mem_of_getElem? (i := 1813) (by decide +kernel), List.mem_of_getElem? (i := 1814) (by decide +kernel)⟩
theorem lw_p114 : lw_okq (⟨"SleepRopeModel", "allOdds", "()I"⟩, 82) := ⟨⟨by decide +kernel, by decide +kernel⟩, List.mem_of_getElem? (i := 1117) (by decide +kernel), List.mem_of_getElem? (i := 1825) (by decide +kernel), List.mem_of_getElem? (i := 1826) (by decide +kernel)⟩
theorem lw_p115 : lw_okq (⟨"SleepRopeModel", "oddsIf", "(II)I"⟩, 82) := ⟨⟨by decide +kernel, by decide +kernel⟩, List.mem_of_getElem? (i := 1117) (by decide +kernel), List.mem_of_getElem? (i := 1829) (by decide +kernel), List.mem_of_getElem? (i := 1830) (by decide +kernel)⟩
theorem lw_p116 : lw_okq (⟨"SleepRopeModel", "firstCuts", "(I)Z"⟩, 82) := ⟨⟨by decide +kernel, by decide +kernel⟩, List.mem_of_getElem? (i := 1117) (by decide +kernel), List.mem_of_getElem? (i := 1837) (by decide +kernel), List.mem_of_getElem? (i := 1838) (by decide +kernel)⟩
theorem lw_p117 : lw_okq (⟨"SleepRopeModel", "nextTied", "(I)I"⟩, 82) := ⟨⟨by decide +kernel, by decide +kernel⟩, List.mem_of_getElem? (i := 1117) (by decide +kernel), List.mem_of_getElem? (i := 1841) (by decide +kernel), List.mem_of_getElem? (i := 1842) (by decide +kernel)⟩
theorem lw_p118 : lw_okq (⟨"SleepRopeModel", "heaviest", "(I)I"⟩, 82) := ⟨⟨by decide +kernel, by decide +kernel⟩, List.mem_of_getElem? (i := 1117) (by decide +kernel), List.mem_of_getElem? (i := 1845) (by decide +kernel), List.mem_of_getElem? (i := 1846) (by decide +kernel)⟩
theorem lw_p119 : lw_okq (⟨"SleepRopeModel", "isCut", "(II)Z"⟩, 82) := ⟨⟨by decide +kernel, by decide +kernel⟩, List.mem_of_getElem? (i := 1117) (by decide +kernel), List.mem_of_getElem? (i := 1849) (by decide +kernel), List.mem_of_getElem? (i := 1850) (by decide +kernel)⟩
theorem lw_p120 : lw_okq (⟨"SleepRopeModel", "nextCuts", "(I)Z"⟩, 82) := ⟨⟨by decide +kernel, by decide +kernel⟩, List.mem_of_getElem? (i := 1117) (by decide +kernel), List.mem_of_getElem? (i := 1853) (by decide +kernel), List.mem_of_getElem? (i := 1854) (by decide +kernel)⟩
theorem lw_p121 : lw_okq (⟨"SleepRopeModel", "writes", "(I)V"⟩, 82) := ⟨⟨by decide +kernel, by decide +kernel⟩, List.mem_of_getElem? (i := 1117) (by decide +kernel), List.mem_of_getElem? (i := 1873) (by decide +kernel), List.mem_of_getElem? (i := 1874) (by decide +kernel)⟩
theorem lw_p122 : lw_okq (⟨"SleepRopeModel", "isImage", "(I)Z"⟩, 82) := ⟨⟨by decide +kernel, by decide +kernel⟩, List.mem_of_getElem? (i := 1117) (by decide +kernel), List.mem_of_getElem? (i := 1885) (by decide +kernel), List.mem_of_getElem? (i := 1886) (by decide +kernel)⟩
theorem lw_p123 : lw_okq (⟨"SleepRopeModel", "knotsMany", "()I"⟩, 82) := ⟨⟨by decide +kernel, by decide +kernel⟩, List.mem_of_getElem? (i := 1117) (by decide +kernel), List.mem_of_getElem? (i := 1889) (by decide +kernel), List.mem_of_getElem? (i := 1890) (by decide +kernel)⟩
theorem lw_p124 : lw_okq (⟨"SleepRopeModel", "isBoyOn", "(I)Z"⟩, 82) := ⟨⟨by decide +kernel, by decide +kernel⟩, List.mem_of_getElem? (i := 1117) (by decide +kernel), List.mem_of_getElem? (i := 1893) (by decide +kernel), List.mem_of_getElem? (i := 1894) (by decide +kernel)⟩
def lw_privs_8 : List (MethodName × Nat) := [(⟨"SleepRopeModel", "exchanged", "()I"⟩, 82), (⟨"SleepRopeModel", "ropeOf", "(I)I"⟩, 82), (⟨"SleepRopeModel", "allOdds", "()I"⟩, 82), (⟨"SleepRopeModel", "oddsIf", "(II)I"⟩, 82), (⟨"SleepRopeModel", "firstCuts", "(I)Z"⟩, 82), (⟨"SleepRopeModel", "nextTied", "(I)I"⟩, 82), (⟨"SleepRopeModel", "heaviest", "(I)I"⟩, 82), (⟨"SleepRopeModel", "isCut", "(II)Z"⟩, 82), (⟨"SleepRopeModel", "nextCuts", "(I)Z"⟩, 82), (⟨"SleepRopeModel", "writes", "(I)V"⟩, 82), (⟨"SleepRopeModel", "isImage", "(I)Z"⟩, 82), (⟨"SleepRopeModel", "knotsMany", "()I"⟩, 82), (⟨"SleepRopeModel", "isBoyOn", "(I)Z"⟩, 82)]
theorem lw_r8 : ∀ q ∈ lw_privs_8, lw_okq q := List.forall_mem_cons.mpr ⟨lw_p112, List.forall_mem_cons.mpr ⟨lw_p113, List.forall_mem_cons.mpr ⟨lw_p114, List.forall_mem_cons.mpr ⟨lw_p115, List.forall_mem_cons.mpr ⟨lw_p116, List.forall_mem_cons.mpr ⟨lw_p117, List.forall_mem_cons.mpr ⟨lw_p118, List.forall_mem_cons.mpr ⟨lw_p119, List.forall_mem_cons.mpr ⟨lw_p120, List.forall_mem_cons.mpr ⟨lw_p121, List.forall_mem_cons.mpr ⟨lw_p122, List.forall_mem_cons.mpr ⟨lw_p123, List.forall_mem_cons.mpr ⟨lw_p124, fun _ h => absurd h List.not_mem_nil⟩⟩⟩⟩⟩⟩⟩⟩⟩⟩⟩⟩⟩
def lw_privs : List (MethodName × Nat) := lw_privs_1 ++ (lw_privs_2 ++ (lw_privs_3 ++ (lw_privs_4 ++ (lw_privs_5 ++ (lw_privs_6 ++ (lw_privs_7 ++ (lw_privs_8)))))))
def lw_tbl : List Cond := k2_sels lw_privs ++ tables_1
theorem lw_privs_ok : ∀ q ∈ lw_privs, lw_okq q := by
  show ∀ q ∈ lw_privs_1 ++ (lw_privs_2 ++ (lw_privs_3 ++ (lw_privs_4 ++ (lw_privs_5 ++ (lw_privs_6 ++ (lw_privs_7 ++ (lw_privs_8))))))), lw_okq q
  exact List.forall_mem_append.mpr ⟨lw_r1, List.forall_mem_append.mpr ⟨lw_r2, List.forall_mem_append.mpr ⟨lw_r3, List.forall_mem_append.mpr ⟨lw_r4, List.forall_mem_append.mpr ⟨lw_r5, List.forall_mem_append.mpr ⟨lw_r6, List.forall_mem_append.mpr ⟨lw_r7, lw_r8⟩⟩⟩⟩⟩⟩⟩
-- ===== end of PART A; then your names; then what follows =====
def RX0 : String := "SleepRope$Acts"
def TX0 : u_T := fun k => match k with
  | 0 => ("SleepRope$Acts", "held", "I", false)
  | 1 => ("SleepRope$Acts", "next", "I", false)
  | _ => ("SleepRope$Acts", "ropes", "[LSleepRope$Rope;", true)
def tyX0 : Nat → FieldType := fun k => match k with
  | 0 => .int
  | 1 => .int
  | _ => .array (.object "SleepRope$Rope")
theorem nmX0 : ∀ a, a < 3 → ∀ b, b < 3 → a ≠ b → (TX0 a).2.1 ≠ (TX0 b).2.1 := by decide +kernel
theorem tyX0_ok : ∀ k, k < 3 → parseFieldDescriptor (TX0 k).2.2.1 = some (tyX0 k) := by decide +kernel
abbrev cX0_init : ByteArray := prog_2_method_1_code
def yX0_init : MethodName := ⟨RX0, "<init>", "()V"⟩
abbrev cX0_forget : ByteArray := prog_2_method_2_code
def yX0_forget : MethodName := ⟨RX0, "forget", "()V"⟩
abbrev cX0_keep : ByteArray := prog_2_method_3_code
def yX0_keep : MethodName := ⟨RX0, "keep", "(LSleepRope$Rope;)V"⟩
abbrev cX0_takeBack : ByteArray := prog_2_method_4_code
def yX0_takeBack : MethodName := ⟨RX0, "takeBack", "(LSleepRope$Rope;)Z"⟩
def RX1 : String := "SleepRope$Dorm"
def TX1 : u_T := fun k => match k with
  | 0 => ("SleepRope$Dorm", "statements", "I", false)
  | 1 => ("SleepRope$Dorm", "boys", "I", false)
  | 2 => ("SleepRope$Dorm", "dreams", "I", false)
  | 3 => ("SleepRope$Dorm", "boyName", "[I", true)
  | 4 => ("SleepRope$Dorm", "weight", "[I", true)
  | 5 => ("SleepRope$Dorm", "depth", "[I", true)
  | 6 => ("SleepRope$Dorm", "odds", "[I", true)
  | 7 => ("SleepRope$Dorm", "pulls", "[I", true)
  | 8 => ("SleepRope$Dorm", "marks", "[I", true)
  | 9 => ("SleepRope$Dorm", "dreamName", "[I", true)
  | 10 => ("SleepRope$Dorm", "tug", "[I", true)
  | 11 => ("SleepRope$Dorm", "lasts", "[I", true)
  | 12 => ("SleepRope$Dorm", "passes", "[I", true)
  | 13 => ("SleepRope$Dorm", "dreamOdds", "[I", true)
  | 14 => ("SleepRope$Dorm", "slack", "[I", true)
  | _ => ("SleepRope$Dorm", "laws", "LSleepRope$Laws;", true)
def tyX1 : Nat → FieldType := fun k => match k with
  | 0 => .int
  | 1 => .int
  | 2 => .int
  | 3 => .array .int
  | 4 => .array .int
  | 5 => .array .int
  | 6 => .array .int
  | 7 => .array .int
  | 8 => .array .int
  | 9 => .array .int
  | 10 => .array .int
  | 11 => .array .int
  | 12 => .array .int
  | 13 => .array .int
  | 14 => .array .int
  | _ => .object "SleepRope$Laws"
theorem nmX1 : ∀ a, a < 16 → ∀ b, b < 16 → a ≠ b → (TX1 a).2.1 ≠ (TX1 b).2.1 := by decide +kernel
theorem tyX1_ok : ∀ k, k < 16 → parseFieldDescriptor (TX1 k).2.2.1 = some (tyX1 k) := by decide +kernel
abbrev cX1_init : ByteArray := prog_3_method_1_code
def yX1_init : MethodName := ⟨RX1, "<init>", "()V"⟩
abbrev cX1_empty : ByteArray := prog_3_method_2_code
def yX1_empty : MethodName := ⟨RX1, "empty", "()V"⟩
abbrev cX1_isGhost : ByteArray := prog_3_method_3_code
def yX1_isGhost : MethodName := ⟨RX1, "isGhost", "(I)Z"⟩
abbrev cX1_isSnorer : ByteArray := prog_3_method_4_code
def yX1_isSnorer : MethodName := ⟨RX1, "isSnorer", "(I)Z"⟩
abbrev cX1_isTaken : ByteArray := prog_3_method_5_code
def yX1_isTaken : MethodName := ⟨RX1, "isTaken", "(I)Z"⟩
def RX2 : String := "SleepRope$Laws"
def TX2 : u_T := fun k => match k with
  | 0 => ("SleepRope$Laws", "count", "I", false)
  | 1 => ("SleepRope$Laws", "length", "I", false)
  | 2 => ("SleepRope$Laws", "code", "[I", true)
  | 3 => ("SleepRope$Laws", "isDeep", "[Z", true)
  | 4 => ("SleepRope$Laws", "sumAt", "[I", true)
  | 5 => ("SleepRope$Laws", "testAt", "[I", true)
  | 6 => ("SleepRope$Laws", "endAt", "[I", true)
  | 7 => ("SleepRope$Laws", "stack", "[I", true)
  | _ => ("SleepRope$Laws", "asked", "[I", true)
def tyX2 : Nat → FieldType := fun k => match k with
  | 0 => .int
  | 1 => .int
  | 2 => .array .int
  | 3 => .array .boolean
  | 4 => .array .int
  | 5 => .array .int
  | 6 => .array .int
  | 7 => .array .int
  | _ => .array .int
theorem nmX2 : ∀ a, a < 9 → ∀ b, b < 9 → a ≠ b → (TX2 a).2.1 ≠ (TX2 b).2.1 := by decide +kernel
theorem tyX2_ok : ∀ k, k < 9 → parseFieldDescriptor (TX2 k).2.2.1 = some (tyX2 k) := by decide +kernel
abbrev cX2_init : ByteArray := prog_4_method_1_code
def yX2_init : MethodName := ⟨RX2, "<init>", "()V"⟩
abbrev cX2_empty : ByteArray := prog_4_method_2_code
def yX2_empty : MethodName := ⟨RX2, "empty", "()V"⟩
abbrev cX2_put : ByteArray := prog_4_method_3_code
def yX2_put : MethodName := ⟨RX2, "put", "(I)V"⟩
abbrev cX2_beginSum : ByteArray := prog_4_method_4_code
def yX2_beginSum : MethodName := ⟨RX2, "beginSum", "(Z)V"⟩
abbrev cX2_beginTest : ByteArray := prog_4_method_5_code
def yX2_beginTest : MethodName := ⟨RX2, "beginTest", "()V"⟩
abbrev cX2_close : ByteArray := prog_4_method_6_code
def yX2_close : MethodName := ⟨RX2, "close", "()V"⟩
abbrev cX2_first : ByteArray := prog_4_method_7_code
def yX2_first : MethodName := ⟨RX2, "first", "(ZII)I"⟩
abbrev cX2_run : ByteArray := prog_4_method_8_code
def yX2_run : MethodName := ⟨RX2, "run", "(II)I"⟩
abbrev cX2_joined : ByteArray := prog_4_method_9_code
def yX2_joined : MethodName := ⟨RX2, "joined", "(III)I"⟩
def RX3 : String := "SleepRope$Night"
def TX3 : u_T := fun k => match k with
  | 0 => ("SleepRope$Night", "seed", "I", false)
  | _ => ("SleepRope$Night", "tug", "LSleepRope$Tug;", true)
def tyX3 : Nat → FieldType := fun k => match k with
  | 0 => .int
  | _ => .object "SleepRope$Tug"
theorem nmX3 : ∀ a, a < 2 → ∀ b, b < 2 → a ≠ b → (TX3 a).2.1 ≠ (TX3 b).2.1 := by decide +kernel
theorem tyX3_ok : ∀ k, k < 2 → parseFieldDescriptor (TX3 k).2.2.1 = some (tyX3 k) := by decide +kernel
abbrev cX3_init : ByteArray := prog_5_method_1_code
def yX3_init : MethodName := ⟨RX3, "<init>", "()V"⟩
abbrev cX3_canBegin : ByteArray := prog_5_method_2_code
def yX3_canBegin : MethodName := ⟨RX3, "canBegin", "(LSleepRope$Dorm;LSleepRope$Rope;I)Z"⟩
abbrev cX3_begins : ByteArray := prog_5_method_3_code
def yX3_begins : MethodName := ⟨RX3, "begins", "(LSleepRope$Dorm;LSleepRope$Rope;IIZ)I"⟩
abbrev cX3_minute : ByteArray := prog_5_method_4_code
def yX3_minute : MethodName := ⟨RX3, "minute", "(LSleepRope$Dorm;LSleepRope$Rope;)V"⟩
abbrev cX3_drawnDream : ByteArray := prog_5_method_5_code
def yX3_drawnDream : MethodName := ⟨RX3, "drawnDream", "(LSleepRope$Dorm;)I"⟩
abbrev cX3_draw : ByteArray := prog_5_method_6_code
def yX3_draw : MethodName := ⟨RX3, "draw", "(I)I"⟩
def RX4 : String := "SleepRope$Orders"
def TX4 : u_T := fun k => match k with
  | 0 => ("SleepRope$Orders", "bestBad", "I", false)
  | 1 => ("SleepRope$Orders", "best", "[I", true)
  | 2 => ("SleepRope$Orders", "exchangedBad", "I", false)
  | 3 => ("SleepRope$Orders", "exchanges", "I", false)
  | 4 => ("SleepRope$Orders", "exchanged", "[I", true)
  | 5 => ("SleepRope$Orders", "twoBad", "I", false)
  | 6 => ("SleepRope$Orders", "twoBits", "I", false)
  | 7 => ("SleepRope$Orders", "bestOf", "I", false)
  | 8 => ("SleepRope$Orders", "exchangedOf", "I", false)
  | 9 => ("SleepRope$Orders", "twoOf", "I", false)
  | 10 => ("SleepRope$Orders", "bare", "LSleepRope$Rope;", true)
  | _ => ("SleepRope$Orders", "tug", "LSleepRope$Tug;", true)
def tyX4 : Nat → FieldType := fun k => match k with
  | 0 => .int
  | 1 => .array .int
  | 2 => .int
  | 3 => .int
  | 4 => .array .int
  | 5 => .int
  | 6 => .int
  | 7 => .int
  | 8 => .int
  | 9 => .int
  | 10 => .object "SleepRope$Rope"
  | _ => .object "SleepRope$Tug"
theorem nmX4 : ∀ a, a < 12 → ∀ b, b < 12 → a ≠ b → (TX4 a).2.1 ≠ (TX4 b).2.1 := by decide +kernel
theorem tyX4_ok : ∀ k, k < 12 → parseFieldDescriptor (TX4 k).2.2.1 = some (tyX4 k) := by decide +kernel
abbrev cX4_init : ByteArray := prog_6_method_1_code
def yX4_init : MethodName := ⟨RX4, "<init>", "()V"⟩
abbrev cX4_begin : ByteArray := prog_6_method_2_code
def yX4_begin : MethodName := ⟨RX4, "begin", "(LSleepRope$Dorm;LSleepRope$Rope;)V"⟩
abbrev cX4_badness : ByteArray := prog_6_method_3_code
def yX4_badness : MethodName := ⟨RX4, "badness", "(LSleepRope$Dorm;)I"⟩
abbrev cX4_badAsItIs : ByteArray := prog_6_method_4_code
def yX4_badAsItIs : MethodName := ⟨RX4, "badAsItIs", "(LSleepRope$Dorm;LSleepRope$Rope;)I"⟩
abbrev cX4_findBest : ByteArray := prog_6_method_5_code
def yX4_findBest : MethodName := ⟨RX4, "findBest", "(LSleepRope$Dorm;LSleepRope$Rope;I)V"⟩
abbrev cX4_nextOrder : ByteArray := prog_6_method_6_code
def yX4_nextOrder : MethodName := ⟨RX4, "nextOrder", "([II)Z"⟩
abbrev cX4_findExchanges : ByteArray := prog_6_method_7_code
def yX4_findExchanges : MethodName := ⟨RX4, "findExchanges", "(LSleepRope$Dorm;LSleepRope$Rope;I)V"⟩
abbrev cX4_findTwo : ByteArray := prog_6_method_8_code
def yX4_findTwo : MethodName := ⟨RX4, "findTwo", "(LSleepRope$Dorm;LSleepRope$Rope;I)V"⟩
def RX5 : String := "SleepRope$Reader"
def TX5 : u_T := fun k => match k with
  | 0 => ("SleepRope$Reader", "fault", "I", false)
  | 1 => ("SleepRope$Reader", "faultAt", "I", false)
  | 2 => ("SleepRope$Reader", "ownWords", "[I", true)
  | 3 => ("SleepRope$Reader", "kinds", "[I", true)
  | 4 => ("SleepRope$Reader", "values", "[I", true)
  | 5 => ("SleepRope$Reader", "starts", "[I", true)
  | 6 => ("SleepRope$Reader", "count", "I", false)
  | 7 => ("SleepRope$Reader", "at", "I", false)
  | 8 => ("SleepRope$Reader", "dorm", "LSleepRope$Dorm;", false)
  | 9 => ("SleepRope$Reader", "name", "I", false)
  | _ => ("SleepRope$Reader", "number", "I", false)
def tyX5 : Nat → FieldType := fun k => match k with
  | 0 => .int
  | 1 => .int
  | 2 => .array .int
  | 3 => .array .int
  | 4 => .array .int
  | 5 => .array .int
  | 6 => .int
  | 7 => .int
  | 8 => .object "SleepRope$Dorm"
  | 9 => .int
  | _ => .int
theorem nmX5 : ∀ a, a < 11 → ∀ b, b < 11 → a ≠ b → (TX5 a).2.1 ≠ (TX5 b).2.1 := by decide +kernel
theorem tyX5_ok : ∀ k, k < 11 → parseFieldDescriptor (TX5 k).2.2.1 = some (tyX5 k) := by decide +kernel
abbrev cX5_init : ByteArray := prog_7_method_1_code
def yX5_init : MethodName := ⟨RX5, "<init>", "()V"⟩
abbrev cX5_read : ByteArray := prog_7_method_2_code
def yX5_read : MethodName := ⟨RX5, "read", "([II)Z"⟩
abbrev cX5_scan : ByteArray := prog_7_method_3_code
def yX5_scan : MethodName := ⟨RX5, "scan", "([II)V"⟩
abbrev cX5_kindOf : ByteArray := prog_7_method_4_code
def yX5_kindOf : MethodName := ⟨RX5, "kindOf", "(I)I"⟩
abbrev cX5_add : ByteArray := prog_7_method_5_code
def yX5_add : MethodName := ⟨RX5, "add", "(III)V"⟩
abbrev cX5_lengthen : ByteArray := prog_7_method_6_code
def yX5_lengthen : MethodName := ⟨RX5, "lengthen", "(III)Z"⟩
abbrev cX5_own : ByteArray := prog_7_method_7_code
def yX5_own : MethodName := ⟨RX5, "own", "()I"⟩
abbrev cX5_isSign : ByteArray := prog_7_method_8_code
def yX5_isSign : MethodName := ⟨RX5, "isSign", "(C)Z"⟩
abbrev cX5_step : ByteArray := prog_7_method_9_code
def yX5_step : MethodName := ⟨RX5, "step", "()V"⟩
abbrev cX5_fails : ByteArray := prog_7_method_10_code
def yX5_fails : MethodName := ⟨RX5, "fails", "(I)Z"⟩
abbrev cX5_needsOwn : ByteArray := prog_7_method_11_code
def yX5_needsOwn : MethodName := ⟨RX5, "needsOwn", "(I)Z"⟩
abbrev cX5_needsNumber : ByteArray := prog_7_method_12_code
def yX5_needsNumber : MethodName := ⟨RX5, "needsNumber", "(II)Z"⟩
abbrev cX5_needsName : ByteArray := prog_7_method_13_code
def yX5_needsName : MethodName := ⟨RX5, "needsName", "()Z"⟩
abbrev cX5_readBoy : ByteArray := prog_7_method_14_code
def yX5_readBoy : MethodName := ⟨RX5, "readBoy", "()Z"⟩
abbrev cX5_readMarks : ByteArray := prog_7_method_15_code
def yX5_readMarks : MethodName := ⟨RX5, "readMarks", "(I)Z"⟩
abbrev cX5_readSlack : ByteArray := prog_7_method_16_code
def yX5_readSlack : MethodName := ⟨RX5, "readSlack", "()Z"⟩
abbrev cX5_readDream : ByteArray := prog_7_method_17_code
def yX5_readDream : MethodName := ⟨RX5, "readDream", "()Z"⟩
abbrev cX5_readLaw : ByteArray := prog_7_method_18_code
def yX5_readLaw : MethodName := ⟨RX5, "readLaw", "(Z)Z"⟩
abbrev cX5_readTest : ByteArray := prog_7_method_19_code
def yX5_readTest : MethodName := ⟨RX5, "readTest", "(I)Z"⟩
abbrev cX5_readFact : ByteArray := prog_7_method_20_code
def yX5_readFact : MethodName := ⟨RX5, "readFact", "(I)Z"⟩
abbrev cX5_readSum : ByteArray := prog_7_method_21_code
def yX5_readSum : MethodName := ⟨RX5, "readSum", "(I)Z"⟩
abbrev cX5_readPart : ByteArray := prog_7_method_22_code
def yX5_readPart : MethodName := ⟨RX5, "readPart", "(I)Z"⟩
def RX6 : String := "SleepRope$Rope"
def TX6 : u_T := fun k => match k with
  | 0 => ("SleepRope$Rope", "count", "I", false)
  | 1 => ("SleepRope$Rope", "minute", "I", false)
  | 2 => ("SleepRope$Rope", "who", "[I", true)
  | 3 => ("SleepRope$Rope", "asleep", "[Z", true)
  | 4 => ("SleepRope$Rope", "dream", "[I", true)
  | 5 => ("SleepRope$Rope", "left", "[I", true)
  | 6 => ("SleepRope$Rope", "caught", "[I", true)
  | 7 => ("SleepRope$Rope", "rootMinute", "[I", true)
  | 8 => ("SleepRope$Rope", "rootBoy", "[I", true)
  | 9 => ("SleepRope$Rope", "felt", "[I", true)
  | 10 => ("SleepRope$Rope", "greatest", "[I", true)
  | 11 => ("SleepRope$Rope", "together", "[I", true)
  | 12 => ("SleepRope$Rope", "tied", "[Z", true)
  | 13 => ("SleepRope$Rope", "slack", "[I", true)
  | 14 => ("SleepRope$Rope", "tugs", "I", false)
  | _ => ("SleepRope$Rope", "ring", "[I", true)
def tyX6 : Nat → FieldType := fun k => match k with
  | 0 => .int
  | 1 => .int
  | 2 => .array .int
  | 3 => .array .boolean
  | 4 => .array .int
  | 5 => .array .int
  | 6 => .array .int
  | 7 => .array .int
  | 8 => .array .int
  | 9 => .array .int
  | 10 => .array .int
  | 11 => .array .int
  | 12 => .array .boolean
  | 13 => .array .int
  | 14 => .int
  | _ => .array .int
theorem nmX6 : ∀ a, a < 16 → ∀ b, b < 16 → a ≠ b → (TX6 a).2.1 ≠ (TX6 b).2.1 := by decide +kernel
theorem tyX6_ok : ∀ k, k < 16 → parseFieldDescriptor (TX6 k).2.2.1 = some (tyX6 k) := by decide +kernel
abbrev cX6_init : ByteArray := prog_8_method_1_code
def yX6_init : MethodName := ⟨RX6, "<init>", "()V"⟩
abbrev cX6_begin : ByteArray := prog_8_method_2_code
def yX6_begin : MethodName := ⟨RX6, "begin", "(LSleepRope$Dorm;)V"⟩
abbrev cX6_take : ByteArray := prog_8_method_3_code
def yX6_take : MethodName := ⟨RX6, "take", "(LSleepRope$Rope;)V"⟩
abbrev cX6_takeKnots : ByteArray := prog_8_method_4_code
def yX6_takeKnots : MethodName := ⟨RX6, "takeKnots", "(LSleepRope$Rope;)V"⟩
abbrev cX6_placeOf : ByteArray := prog_8_method_5_code
def yX6_placeOf : MethodName := ⟨RX6, "placeOf", "(I)I"⟩
abbrev cX6_awake : ByteArray := prog_8_method_6_code
def yX6_awake : MethodName := ⟨RX6, "awake", "()I"⟩
abbrev cX6_change : ByteArray := prog_8_method_7_code
def yX6_change : MethodName := ⟨RX6, "change", "(II)V"⟩
abbrev cX6_getsUp : ByteArray := prog_8_method_8_code
def yX6_getsUp : MethodName := ⟨RX6, "getsUp", "(I)V"⟩
abbrev cX6_feelsForce : ByteArray := prog_8_method_9_code
def yX6_feelsForce : MethodName := ⟨RX6, "feelsForce", "(II)V"⟩
abbrev cX6_told : ByteArray := prog_8_method_10_code
def yX6_told : MethodName := ⟨RX6, "told", "()I"⟩
abbrev cX6_toldTug : ByteArray := prog_8_method_11_code
def yX6_toldTug : MethodName := ⟨RX6, "toldTug", "(I)I"⟩
abbrev cX6_tell : ByteArray := prog_8_method_12_code
def yX6_tell : MethodName := ⟨RX6, "tell", "(IIII)V"⟩
def RX7 : String := "SleepRope$Tug"
def TX7 : u_T := fun k => match k with
  | 0 => ("SleepRope$Tug", "came", "[I", true)
  | _ => ("SleepRope$Tug", "woken", "I", false)
def tyX7 : Nat → FieldType := fun k => match k with
  | 0 => .array .int
  | _ => .int
theorem nmX7 : ∀ a, a < 2 → ∀ b, b < 2 → a ≠ b → (TX7 a).2.1 ≠ (TX7 b).2.1 := by decide +kernel
theorem tyX7_ok : ∀ k, k < 2 → parseFieldDescriptor (TX7 k).2.2.1 = some (tyX7 k) := by decide +kernel
abbrev cX7_init : ByteArray := prog_9_method_1_code
def yX7_init : MethodName := ⟨RX7, "<init>", "()V"⟩
abbrev cX7_goes : ByteArray := prog_9_method_2_code
def yX7_goes : MethodName := ⟨RX7, "goes", "(LSleepRope$Dorm;LSleepRope$Rope;II)V"⟩
abbrev cX7_passedOn : ByteArray := prog_9_method_3_code
def yX7_passedOn : MethodName := ⟨RX7, "passedOn", "(LSleepRope$Dorm;LSleepRope$Rope;II)I"⟩
abbrev cX7_look : ByteArray := prog_9_method_4_code
def yX7_look : MethodName := ⟨RX7, "look", "(LSleepRope$Dorm;LSleepRope$Rope;II)V"⟩
def RX8 : String := "SleepRope"
def TX8 : u_T := fun k => match k with
  | 0 => ("SleepRope", "tape", "[I", true)
  | 1 => ("SleepRope", "length", "I", false)
  | 2 => ("SleepRope", "reader", "LSleepRope$Reader;", true)
  | 3 => ("SleepRope", "dorm", "LSleepRope$Dorm;", false)
  | 4 => ("SleepRope", "rope", "LSleepRope$Rope;", true)
  | 5 => ("SleepRope", "evening", "LSleepRope$Rope;", true)
  | 6 => ("SleepRope", "acts", "LSleepRope$Acts;", true)
  | 7 => ("SleepRope", "night", "LSleepRope$Night;", true)
  | 8 => ("SleepRope", "trial", "LSleepRope$Tug;", true)
  | 9 => ("SleepRope", "orders", "LSleepRope$Orders;", true)
  | 10 => ("SleepRope", "heard", "[I", true)
  | 11 => ("SleepRope", "isHeard", "Z", false)
  | 12 => ("SleepRope", "octets", "[I", true)
  | 13 => ("SleepRope", "octetCount", "I", false)
  | 14 => ("SleepRope", "refusals", "[I", true)
  | _ => ("SleepRope", "changes", "I", false)
def tyX8 : Nat → FieldType := fun k => match k with
  | 0 => .array .int
  | 1 => .int
  | 2 => .object "SleepRope$Reader"
  | 3 => .object "SleepRope$Dorm"
  | 4 => .object "SleepRope$Rope"
  | 5 => .object "SleepRope$Rope"
  | 6 => .object "SleepRope$Acts"
  | 7 => .object "SleepRope$Night"
  | 8 => .object "SleepRope$Tug"
  | 9 => .object "SleepRope$Orders"
  | 10 => .array .int
  | 11 => .boolean
  | 12 => .array .int
  | 13 => .int
  | 14 => .array .int
  | _ => .int
theorem nmX8 : ∀ a, a < 16 → ∀ b, b < 16 → a ≠ b → (TX8 a).2.1 ≠ (TX8 b).2.1 := by decide +kernel
theorem tyX8_ok : ∀ k, k < 16 → parseFieldDescriptor (TX8 k).2.2.1 = some (tyX8 k) := by decide +kernel
abbrev cX8_init : ByteArray := prog_1_method_1_code
def yX8_init : MethodName := ⟨RX8, "<init>", "()V"⟩
abbrev cX8_feed : ByteArray := prog_1_method_2_code
def yX8_feed : MethodName := ⟨RX8, "feed", "(IIIII)I"⟩
abbrev cX8_end : ByteArray := prog_1_method_3_code
def yX8_end : MethodName := ⟨RX8, "end", "(I)Z"⟩
abbrev cX8_dorm : ByteArray := prog_1_method_4_code
def yX8_dorm : MethodName := ⟨RX8, "dorm", "()I"⟩
abbrev cX8_fault : ByteArray := prog_1_method_5_code
def yX8_fault : MethodName := ⟨RX8, "fault", "(I)I"⟩
abbrev cX8_has : ByteArray := prog_1_method_6_code
def yX8_has : MethodName := ⟨RX8, "has", "(I)I"⟩
abbrev cX8_letter : ByteArray := prog_1_method_7_code
def yX8_letter : MethodName := ⟨RX8, "letter", "(III)I"⟩
abbrev cX8_boy : ByteArray := prog_1_method_8_code
def yX8_boy : MethodName := ⟨RX8, "boy", "(II)I"⟩
abbrev cX8_at : ByteArray := prog_1_method_9_code
def yX8_at : MethodName := ⟨RX8, "at", "(I)I"⟩
abbrev cX8_knot : ByteArray := prog_1_method_10_code
def yX8_knot : MethodName := ⟨RX8, "knot", "(II)I"⟩
abbrev cX8_dream : ByteArray := prog_1_method_11_code
def yX8_dream : MethodName := ⟨RX8, "dream", "(II)I"⟩
abbrev cX8_tug : ByteArray := prog_1_method_12_code
def yX8_tug : MethodName := ⟨RX8, "tug", "(II)I"⟩
abbrev cX8_law : ByteArray := prog_1_method_13_code
def yX8_law : MethodName := ⟨RX8, "law", "(IIZ)I"⟩
abbrev cX8_go : ByteArray := prog_1_method_14_code
def yX8_go : MethodName := ⟨RX8, "go", "(I)I"⟩
abbrev cX8_dreams : ByteArray := prog_1_method_15_code
def yX8_dreams : MethodName := ⟨RX8, "dreams", "(II)I"⟩
abbrev cX8_wake : ByteArray := prog_1_method_16_code
def yX8_wake : MethodName := ⟨RX8, "wake", "(IZ)Z"⟩
abbrev cX8_tie : ByteArray := prog_1_method_17_code
def yX8_tie : MethodName := ⟨RX8, "tie", "(IZ)Z"⟩
abbrev cX8_slack : ByteArray := prog_1_method_18_code
def yX8_slack : MethodName := ⟨RX8, "slack", "(II)I"⟩
abbrev cX8_swap : ByteArray := prog_1_method_19_code
def yX8_swap : MethodName := ⟨RX8, "swap", "(II)Z"⟩
abbrev cX8_undo : ByteArray := prog_1_method_20_code
def yX8_undo : MethodName := ⟨RX8, "undo", "()Z"⟩
abbrev cX8_seed : ByteArray := prog_1_method_21_code
def yX8_seed : MethodName := ⟨RX8, "seed", "(I)Z"⟩
abbrev cX8_feels : ByteArray := prog_1_method_22_code
def yX8_feels : MethodName := ⟨RX8, "feels", "(III)I"⟩
abbrev cX8_wakes : ByteArray := prog_1_method_23_code
def yX8_wakes : MethodName := ⟨RX8, "wakes", "(II)I"⟩
abbrev cX8_least : ByteArray := prog_1_method_24_code
def yX8_least : MethodName := ⟨RX8, "least", "(II)I"⟩
abbrev cX8_bad : ByteArray := prog_1_method_25_code
def yX8_bad : MethodName := ⟨RX8, "bad", "()I"⟩
abbrev cX8_best : ByteArray := prog_1_method_26_code
def yX8_best : MethodName := ⟨RX8, "best", "(I)I"⟩
abbrev cX8_exchange : ByteArray := prog_1_method_27_code
def yX8_exchange : MethodName := ⟨RX8, "exchange", "(I)I"⟩
abbrev cX8_lay : ByteArray := prog_1_method_28_code
def yX8_lay : MethodName := ⟨RX8, "lay", "()I"⟩
abbrev cX8_two : ByteArray := prog_1_method_29_code
def yX8_two : MethodName := ⟨RX8, "two", "(I)I"⟩
abbrev cX8_hear : ByteArray := prog_1_method_30_code
def yX8_hear : MethodName := ⟨RX8, "hear", "()Z"⟩
abbrev cX8_pulled : ByteArray := prog_1_method_31_code
def yX8_pulled : MethodName := ⟨RX8, "pulled", "(II)I"⟩
abbrev cX8_cut : ByteArray := prog_1_method_32_code
def yX8_cut : MethodName := ⟨RX8, "cut", "(II)I"⟩
abbrev cX8_walk : ByteArray := prog_1_method_33_code
def yX8_walk : MethodName := ⟨RX8, "walk", "(I)I"⟩
abbrev cX8_beds : ByteArray := prog_1_method_34_code
def yX8_beds : MethodName := ⟨RX8, "beds", "(II)I"⟩
abbrev cX8_nights : ByteArray := prog_1_method_35_code
def yX8_nights : MethodName := ⟨RX8, "nights", "(III)I"⟩
abbrev cX8_image : ByteArray := prog_1_method_36_code
def yX8_image : MethodName := ⟨RX8, "image", "()I"⟩
abbrev cX8_octet : ByteArray := prog_1_method_37_code
def yX8_octet : MethodName := ⟨RX8, "octet", "(I)I"⟩
abbrev cX8_on : ByteArray := prog_1_method_38_code
def yX8_on : MethodName := ⟨RX8, "on", "()Z"⟩
abbrev cX8_status : ByteArray := prog_1_method_39_code
def yX8_status : MethodName := ⟨RX8, "status", "(I)I"⟩
abbrev cX8_refuse : ByteArray := prog_1_method_40_code
def yX8_refuse : MethodName := ⟨RX8, "refuse", "(I)V"⟩
abbrev cX8_startAct : ByteArray := prog_1_method_41_code
def yX8_startAct : MethodName := ⟨RX8, "startAct", "()V"⟩
abbrev cX8_putOnTape : ByteArray := prog_1_method_42_code
def yX8_putOnTape : MethodName := ⟨RX8, "putOnTape", "(I)V"⟩
abbrev cX8_onTape : ByteArray := prog_1_method_43_code
def yX8_onTape : MethodName := ⟨RX8, "onTape", "(I)I"⟩
abbrev cX8_pairOnTape : ByteArray := prog_1_method_44_code
def yX8_pairOnTape : MethodName := ⟨RX8, "pairOnTape", "(I)I"⟩
abbrev cX8_putOctet : ByteArray := prog_1_method_45_code
def yX8_putOctet : MethodName := ⟨RX8, "putOctet", "(I)V"⟩
abbrev cX8_putPair : ByteArray := prog_1_method_46_code
def yX8_putPair : MethodName := ⟨RX8, "putPair", "(I)V"⟩
abbrev cX8_sealOf : ByteArray := prog_1_method_47_code
def yX8_sealOf : MethodName := ⟨RX8, "sealOf", "([II)I"⟩
abbrev cX8_letterOf : ByteArray := prog_1_method_48_code
def yX8_letterOf : MethodName := ⟨RX8, "letterOf", "(II)I"⟩
abbrev cX8_isBoy : ByteArray := prog_1_method_49_code
def yX8_isBoy : MethodName := ⟨RX8, "isBoy", "(I)Z"⟩
abbrev cX8_isPlace : ByteArray := prog_1_method_50_code
def yX8_isPlace : MethodName := ⟨RX8, "isPlace", "(I)Z"⟩
abbrev cX8_isKnot : ByteArray := prog_1_method_51_code
def yX8_isKnot : MethodName := ⟨RX8, "isKnot", "(I)Z"⟩
abbrev cX8_isDream : ByteArray := prog_1_method_52_code
def yX8_isDream : MethodName := ⟨RX8, "isDream", "(I)Z"⟩
abbrev cX8_isForce : ByteArray := prog_1_method_53_code
def yX8_isForce : MethodName := ⟨RX8, "isForce", "(I)Z"⟩
abbrev cX8_tiedKnots : ByteArray := prog_1_method_54_code
def yX8_tiedKnots : MethodName := ⟨RX8, "tiedKnots", "()I"⟩
abbrev cX8_dreamers : ByteArray := prog_1_method_55_code
def yX8_dreamers : MethodName := ⟨RX8, "dreamers", "(I)I"⟩
abbrev cX8_caughtOnes : ByteArray := prog_1_method_56_code
def yX8_caughtOnes : MethodName := ⟨RX8, "caughtOnes", "()I"⟩
abbrev cX8_allAwake : ByteArray := prog_1_method_57_code
def yX8_allAwake : MethodName := ⟨RX8, "allAwake", "()Z"⟩
abbrev cX8_strain : ByteArray := prog_1_method_58_code
def yX8_strain : MethodName := ⟨RX8, "strain", "(I)I"⟩
abbrev cX8_oddsOfHaving : ByteArray := prog_1_method_59_code
def yX8_oddsOfHaving : MethodName := ⟨RX8, "oddsOfHaving", "(II)I"⟩
abbrev cX8_inSet : ByteArray := prog_1_method_60_code
def yX8_inSet : MethodName := ⟨RX8, "inSet", "(II)Z"⟩
abbrev cX8_areTied : ByteArray := prog_1_method_61_code
def yX8_areTied : MethodName := ⟨RX8, "areTied", "(I)Z"⟩
abbrev cX8_heaviestPiece : ByteArray := prog_1_method_62_code
def yX8_heaviestPiece : MethodName := ⟨RX8, "heaviestPiece", "(I)I"⟩
abbrev cX8_knotOfSet : ByteArray := prog_1_method_63_code
def yX8_knotOfSet : MethodName := ⟨RX8, "knotOfSet", "(II)I"⟩
abbrev cX8_takenBy : ByteArray := prog_1_method_64_code
def yX8_takenBy : MethodName := ⟨RX8, "takenBy", "(II)I"⟩
abbrev cX8_isImage : ByteArray := prog_1_method_65_code
def yX8_isImage : MethodName := ⟨RX8, "isImage", "(I)Z"⟩
abbrev cX8_isImageOfBoy : ByteArray := prog_1_method_66_code
def yX8_isImageOfBoy : MethodName := ⟨RX8, "isImageOfBoy", "(II)Z"⟩
def RX9 : String := "SleepRopeModel"
def TX9 : u_T := fun k => match k with
  | 0 => ("SleepRopeModel", "tape", "[I", true)
  | 1 => ("SleepRopeModel", "taped", "I", false)
  | 2 => ("SleepRopeModel", "size", "I", false)
  | 3 => ("SleepRopeModel", "sign", "I", false)
  | 4 => ("SleepRopeModel", "signAt", "I", false)
  | 5 => ("SleepRopeModel", "signEnd", "I", false)
  | 6 => ("SleepRopeModel", "value", "I", false)
  | 7 => ("SleepRopeModel", "word", "J", false)
  | 8 => ("SleepRopeModel", "faultKind", "I", false)
  | 9 => ("SleepRopeModel", "faultPlace", "I", false)
  | 10 => ("SleepRopeModel", "toldKind", "I", false)
  | 11 => ("SleepRopeModel", "toldPlace", "I", false)
  | 12 => ("SleepRopeModel", "bank", "I", false)
  | 13 => ("SleepRopeModel", "boys", "[I", true)
  | 14 => ("SleepRopeModel", "boyName", "[J", true)
  | 15 => ("SleepRopeModel", "weight", "[I", true)
  | 16 => ("SleepRopeModel", "depth", "[I", true)
  | 17 => ("SleepRopeModel", "oddsOf", "[I", true)
  | 18 => ("SleepRopeModel", "pullsOf", "[I", true)
  | 19 => ("SleepRopeModel", "marks", "[I", true)
  | 20 => ("SleepRopeModel", "slackTold", "[I", true)
  | 21 => ("SleepRopeModel", "dreamMany", "[I", true)
  | 22 => ("SleepRopeModel", "dreamName", "[J", true)
  | 23 => ("SleepRopeModel", "force", "[I", true)
  | 24 => ("SleepRopeModel", "lasts", "[I", true)
  | 25 => ("SleepRopeModel", "passing", "[I", true)
  | 26 => ("SleepRopeModel", "dreamOdds", "[I", true)
  | 27 => ("SleepRopeModel", "laws", "[I", true)
  | 28 => ("SleepRopeModel", "lawSort", "[I", true)
  | 29 => ("SleepRopeModel", "sumFrom", "[I", true)
  | 30 => ("SleepRopeModel", "sumTo", "[I", true)
  | 31 => ("SleepRopeModel", "testTo", "[I", true)
  | 32 => ("SleepRopeModel", "codeSort", "[I", true)
  | 33 => ("SleepRopeModel", "codeValue", "[I", true)
  | 34 => ("SleepRopeModel", "codes", "I", false)
  | 35 => ("SleepRopeModel", "in", "I", false)
  | 36 => ("SleepRopeModel", "frame", "[I", true)
  | 37 => ("SleepRopeModel", "phase", "[I", true)
  | 38 => ("SleepRopeModel", "begins", "[Z", true)
  | 39 => ("SleepRopeModel", "pair", "[I", true)
  | 40 => ("SleepRopeModel", "base", "[I", true)
  | 41 => ("SleepRopeModel", "deep", "I", false)
  | 42 => ("SleepRopeModel", "open", "I", false)
  | 43 => ("SleepRopeModel", "ops", "[I", true)
  | 44 => ("SleepRopeModel", "opMany", "I", false)
  | 45 => ("SleepRopeModel", "operand", "Z", false)
  | 46 => ("SleepRopeModel", "refused", "[I", true)
  | 47 => ("SleepRopeModel", "heap", "[J", true)
  | 48 => ("SleepRopeModel", "moment", "[I", true)
  | 49 => ("SleepRopeModel", "minute", "[I", true)
  | 50 => ("SleepRopeModel", "boyIn", "[I", true)
  | 51 => ("SleepRopeModel", "asleep", "[I", true)
  | 52 => ("SleepRopeModel", "dreamOf", "[I", true)
  | 53 => ("SleepRopeModel", "left", "[I", true)
  | 54 => ("SleepRopeModel", "caught", "[I", true)
  | 55 => ("SleepRopeModel", "rootMinute", "[I", true)
  | 56 => ("SleepRopeModel", "rootBoy", "[I", true)
  | 57 => ("SleepRopeModel", "felt", "[I", true)
  | 58 => ("SleepRopeModel", "greatest", "[I", true)
  | 59 => ("SleepRopeModel", "together", "[I", true)
  | 60 => ("SleepRopeModel", "tied", "[I", true)
  | 61 => ("SleepRopeModel", "slackOf", "[I", true)
  | 62 => ("SleepRopeModel", "tugMany", "[I", true)
  | 63 => ("SleepRopeModel", "tugRow", "[I", true)
  | 64 => ("SleepRopeModel", "undoFirst", "I", false)
  | 65 => ("SleepRopeModel", "undos", "I", false)
  | 66 => ("SleepRopeModel", "seeds", "J", false)
  | 67 => ("SleepRopeModel", "heard", "[I", true)
  | 68 => ("SleepRopeModel", "isHeard", "Z", false)
  | 69 => ("SleepRopeModel", "row", "[I", true)
  | 70 => ("SleepRopeModel", "rowMany", "I", false)
  | 71 => ("SleepRopeModel", "isFirst", "Z", false)
  | 72 => ("SleepRopeModel", "layer", "I", false)
  | 73 => ("SleepRopeModel", "feel", "[I", true)
  | 74 => ("SleepRopeModel", "woken", "I", false)
  | 75 => ("SleepRopeModel", "tugged", "I", false)
  | 76 => ("SleepRopeModel", "bestRow", "[I", true)
  | 77 => ("SleepRopeModel", "exchanges", "I", false)
  | 78 => ("SleepRopeModel", "cutAt", "[I", true)
  | 79 => ("SleepRopeModel", "bestCut", "[I", true)
  | 80 => ("SleepRopeModel", "out", "[I", true)
  | _ => ("SleepRopeModel", "outs", "I", false)
def tyX9 : Nat → FieldType := fun k => match k with
  | 0 => .array .int
  | 1 => .int
  | 2 => .int
  | 3 => .int
  | 4 => .int
  | 5 => .int
  | 6 => .int
  | 7 => .long
  | 8 => .int
  | 9 => .int
  | 10 => .int
  | 11 => .int
  | 12 => .int
  | 13 => .array .int
  | 14 => .array .long
  | 15 => .array .int
  | 16 => .array .int
  | 17 => .array .int
  | 18 => .array .int
  | 19 => .array .int
  | 20 => .array .int
  | 21 => .array .int
  | 22 => .array .long
  | 23 => .array .int
  | 24 => .array .int
  | 25 => .array .int
  | 26 => .array .int
  | 27 => .array .int
  | 28 => .array .int
  | 29 => .array .int
  | 30 => .array .int
  | 31 => .array .int
  | 32 => .array .int
  | 33 => .array .int
  | 34 => .int
  | 35 => .int
  | 36 => .array .int
  | 37 => .array .int
  | 38 => .array .boolean
  | 39 => .array .int
  | 40 => .array .int
  | 41 => .int
  | 42 => .int
  | 43 => .array .int
  | 44 => .int
  | 45 => .boolean
  | 46 => .array .int
  | 47 => .array .long
  | 48 => .array .int
  | 49 => .array .int
  | 50 => .array .int
  | 51 => .array .int
  | 52 => .array .int
  | 53 => .array .int
  | 54 => .array .int
  | 55 => .array .int
  | 56 => .array .int
  | 57 => .array .int
  | 58 => .array .int
  | 59 => .array .int
  | 60 => .array .int
  | 61 => .array .int
  | 62 => .array .int
  | 63 => .array .int
  | 64 => .int
  | 65 => .int
  | 66 => .long
  | 67 => .array .int
  | 68 => .boolean
  | 69 => .array .int
  | 70 => .int
  | 71 => .boolean
  | 72 => .int
  | 73 => .array .int
  | 74 => .int
  | 75 => .int
  | 76 => .array .int
  | 77 => .int
  | 78 => .array .int
  | 79 => .array .int
  | 80 => .array .int
  | _ => .int
theorem nmX9 : ∀ a, a < 82 → ∀ b, b < 82 → a ≠ b → (TX9 a).2.1 ≠ (TX9 b).2.1 := by decide +kernel
theorem tyX9_ok : ∀ k, k < 82 → parseFieldDescriptor (TX9 k).2.2.1 = some (tyX9 k) := by decide +kernel
abbrev cX9_init : ByteArray := prog_11_method_1_code
def yX9_init : MethodName := ⟨RX9, "<init>", "()V"⟩
abbrev cX9_is : ByteArray := prog_11_method_2_code
def yX9_is : MethodName := ⟨RX9, "is", "(III)Z"⟩
abbrev cX9_put : ByteArray := prog_11_method_3_code
def yX9_put : MethodName := ⟨RX9, "put", "(I)V"⟩
abbrev cX9_feed : ByteArray := prog_11_method_4_code
def yX9_feed : MethodName := ⟨RX9, "feed", "(IIIII)I"⟩
abbrev cX9_end : ByteArray := prog_11_method_5_code
def yX9_end : MethodName := ⟨RX9, "end", "(I)Z"⟩
abbrev cX9_blame : ByteArray := prog_11_method_6_code
def yX9_blame : MethodName := ⟨RX9, "blame", "(II)V"⟩
abbrev cX9_isLetter : ByteArray := prog_11_method_7_code
def yX9_isLetter : MethodName := ⟨RX9, "isLetter", "(I)Z"⟩
abbrev cX9_isDigit : ByteArray := prog_11_method_8_code
def yX9_isDigit : MethodName := ⟨RX9, "isDigit", "(I)Z"⟩
abbrev cX9_ahead : ByteArray := prog_11_method_9_code
def yX9_ahead : MethodName := ⟨RX9, "ahead", "()V"⟩
abbrev cX9_isSign : ByteArray := prog_11_method_10_code
def yX9_isSign : MethodName := ⟨RX9, "isSign", "(I)Z"⟩
abbrev cX9_isWord : ByteArray := prog_11_method_11_code
def yX9_isWord : MethodName := ⟨RX9, "isWord", "(J)Z"⟩
abbrev cX9_must : ByteArray := prog_11_method_12_code
def yX9_must : MethodName := ⟨RX9, "must", "(I)V"⟩
abbrev cX9_isOwn : ByteArray := prog_11_method_13_code
def yX9_isOwn : MethodName := ⟨RX9, "isOwn", "(J)Z"⟩
abbrev cX9_number : ByteArray := prog_11_method_14_code
def yX9_number : MethodName := ⟨RX9, "number", "(II)I"⟩
abbrev cX9_add : ByteArray := prog_11_method_15_code
def yX9_add : MethodName := ⟨RX9, "add", "(II)V"⟩
abbrev cX9_rank : ByteArray := prog_11_method_16_code
def yX9_rank : MethodName := ⟨RX9, "rank", "(I)I"⟩
abbrev cX9_joins : ByteArray := prog_11_method_17_code
def yX9_joins : MethodName := ⟨RX9, "joins", "(I)V"⟩
abbrev cX9_holdsBack : ByteArray := prog_11_method_18_code
def yX9_holdsBack : MethodName := ⟨RX9, "holdsBack", "(I)V"⟩
abbrev cX9_pushes : ByteArray := prog_11_method_19_code
def yX9_pushes : MethodName := ⟨RX9, "pushes", "(I)V"⟩
abbrev cX9_opens : ByteArray := prog_11_method_20_code
def yX9_opens : MethodName := ⟨RX9, "opens", "(I)V"⟩
abbrev cX9_isTest : ByteArray := prog_11_method_21_code
def yX9_isTest : MethodName := ⟨RX9, "isTest", "(I)Z"⟩
abbrev cX9_operand : ByteArray := prog_11_method_22_code
def yX9_operand : MethodName := ⟨RX9, "operand", "()Z"⟩
abbrev cX9_goesOn : ByteArray := prog_11_method_23_code
def yX9_goesOn : MethodName := ⟨RX9, "goesOn", "()Z"⟩
abbrev cX9_reads : ByteArray := prog_11_method_24_code
def yX9_reads : MethodName := ⟨RX9, "reads", "(Z)V"⟩
abbrev cX9_counts : ByteArray := prog_11_method_25_code
def yX9_counts : MethodName := ⟨RX9, "counts", "(Z)Z"⟩
abbrev cX9_must_ : ByteArray := prog_11_method_26_code
def yX9_must_ : MethodName := ⟨RX9, "must", "(J)V"⟩
abbrev cX9_isThere : ByteArray := prog_11_method_27_code
def yX9_isThere : MethodName := ⟨RX9, "isThere", "(J)Z"⟩
abbrev cX9_fresh : ByteArray := prog_11_method_28_code
def yX9_fresh : MethodName := ⟨RX9, "fresh", "()J"⟩
abbrev cX9_marking : ByteArray := prog_11_method_29_code
def yX9_marking : MethodName := ⟨RX9, "marking", "(I)V"⟩
abbrev cX9_boying : ByteArray := prog_11_method_30_code
def yX9_boying : MethodName := ⟨RX9, "boying", "()V"⟩
abbrev cX9_slacking : ByteArray := prog_11_method_31_code
def yX9_slacking : MethodName := ⟨RX9, "slacking", "()V"⟩
abbrev cX9_dreaming : ByteArray := prog_11_method_32_code
def yX9_dreaming : MethodName := ⟨RX9, "dreaming", "()V"⟩
abbrev cX9_lawing : ByteArray := prog_11_method_33_code
def yX9_lawing : MethodName := ⟨RX9, "lawing", "(I)V"⟩
abbrev cX9_statement : ByteArray := prog_11_method_34_code
def yX9_statement : MethodName := ⟨RX9, "statement", "()V"⟩
abbrev cX9_ends : ByteArray := prog_11_method_35_code
def yX9_ends : MethodName := ⟨RX9, "ends", "(I)V"⟩
abbrev cX9_dorm : ByteArray := prog_11_method_36_code
def yX9_dorm : MethodName := ⟨RX9, "dorm", "()I"⟩
abbrev cX9_fault : ByteArray := prog_11_method_37_code
def yX9_fault : MethodName := ⟨RX9, "fault", "(I)I"⟩
abbrev cX9_refuses : ByteArray := prog_11_method_38_code
def yX9_refuses : MethodName := ⟨RX9, "refuses", "(I)I"⟩
abbrev cX9_status : ByteArray := prog_11_method_39_code
def yX9_status : MethodName := ⟨RX9, "status", "(I)I"⟩
abbrev cX9_bounded : ByteArray := prog_11_method_40_code
def yX9_bounded : MethodName := ⟨RX9, "bounded", "(J)J"⟩
abbrev cX9_over : ByteArray := prog_11_method_41_code
def yX9_over : MethodName := ⟨RX9, "over", "(JJ)J"⟩
abbrev cX9_made : ByteArray := prog_11_method_42_code
def yX9_made : MethodName := ⟨RX9, "made", "(IJJ)J"⟩
abbrev cX9_reckons : ByteArray := prog_11_method_43_code
def yX9_reckons : MethodName := ⟨RX9, "reckons", "(II)J"⟩
abbrev cX9_many : ByteArray := prog_11_method_44_code
def yX9_many : MethodName := ⟨RX9, "many", "()I"⟩
abbrev cX9_isBoy : ByteArray := prog_11_method_45_code
def yX9_isBoy : MethodName := ⟨RX9, "isBoy", "(I)Z"⟩
abbrev cX9_isDream : ByteArray := prog_11_method_46_code
def yX9_isDream : MethodName := ⟨RX9, "isDream", "(I)Z"⟩
abbrev cX9_isKnot : ByteArray := prog_11_method_47_code
def yX9_isKnot : MethodName := ⟨RX9, "isKnot", "(I)Z"⟩
abbrev cX9_isGhost : ByteArray := prog_11_method_48_code
def yX9_isGhost : MethodName := ⟨RX9, "isGhost", "(I)Z"⟩
abbrev cX9_snores : ByteArray := prog_11_method_49_code
def yX9_snores : MethodName := ⟨RX9, "snores", "(I)Z"⟩
abbrev cX9_copies : ByteArray := prog_11_method_50_code
def yX9_copies : MethodName := ⟨RX9, "copies", "(II)V"⟩
abbrev cX9_clears : ByteArray := prog_11_method_51_code
def yX9_clears : MethodName := ⟨RX9, "clears", "(I)V"⟩
abbrev cX9_begins : ByteArray := prog_11_method_52_code
def yX9_begins : MethodName := ⟨RX9, "begins", "()V"⟩
abbrev cX9_placeOf : ByteArray := prog_11_method_53_code
def yX9_placeOf : MethodName := ⟨RX9, "placeOf", "(II)I"⟩
abbrev cX9_ring : ByteArray := prog_11_method_54_code
def yX9_ring : MethodName := ⟨RX9, "ring", "(I)I"⟩
abbrev cX9_keeps : ByteArray := prog_11_method_55_code
def yX9_keeps : MethodName := ⟨RX9, "keeps", "()V"⟩
abbrev cX9_undo : ByteArray := prog_11_method_56_code
def yX9_undo : MethodName := ⟨RX9, "undo", "()Z"⟩
abbrev cX9_rowNow : ByteArray := prog_11_method_57_code
def yX9_rowNow : MethodName := ⟨RX9, "rowNow", "(I)V"⟩
abbrev cX9_isTied : ByteArray := prog_11_method_58_code
def yX9_isTied : MethodName := ⟨RX9, "isTied", "(I)Z"⟩
abbrev cX9_slackAt : ByteArray := prog_11_method_59_code
def yX9_slackAt : MethodName := ⟨RX9, "slackAt", "(I)I"⟩
abbrev cX9_beside : ByteArray := prog_11_method_60_code
def yX9_beside : MethodName := ⟨RX9, "beside", "(I)I"⟩
abbrev cX9_meets : ByteArray := prog_11_method_61_code
def yX9_meets : MethodName := ⟨RX9, "meets", "(II)V"⟩
abbrev cX9_lawOf : ByteArray := prog_11_method_62_code
def yX9_lawOf : MethodName := ⟨RX9, "lawOf", "(III)I"⟩
abbrev cX9_deepOf : ByteArray := prog_11_method_63_code
def yX9_deepOf : MethodName := ⟨RX9, "deepOf", "(II)I"⟩
abbrev cX9_passedOf : ByteArray := prog_11_method_64_code
def yX9_passedOf : MethodName := ⟨RX9, "passedOf", "(II)I"⟩
abbrev cX9_comes : ByteArray := prog_11_method_65_code
def yX9_comes : MethodName := ⟨RX9, "comes", "(II)I"⟩
abbrev cX9_tugs : ByteArray := prog_11_method_66_code
def yX9_tugs : MethodName := ⟨RX9, "tugs", "(II)V"⟩
abbrev cX9_bits : ByteArray := prog_11_method_67_code
def yX9_bits : MethodName := ⟨RX9, "bits", "(I)I"⟩
abbrev cX9_canDream : ByteArray := prog_11_method_68_code
def yX9_canDream : MethodName := ⟨RX9, "canDream", "(II)Z"⟩
abbrev cX9_tells : ByteArray := prog_11_method_69_code
def yX9_tells : MethodName := ⟨RX9, "tells", "(IIIII)V"⟩
abbrev cX9_wakesUp : ByteArray := prog_11_method_70_code
def yX9_wakesUp : MethodName := ⟨RX9, "wakesUp", "(II)V"⟩
abbrev cX9_isFelt : ByteArray := prog_11_method_71_code
def yX9_isFelt : MethodName := ⟨RX9, "isFelt", "(IIIII)V"⟩
abbrev cX9_begin : ByteArray := prog_11_method_72_code
def yX9_begin : MethodName := ⟨RX9, "begin", "(IIIII)I"⟩
abbrev cX9_draw : ByteArray := prog_11_method_73_code
def yX9_draw : MethodName := ⟨RX9, "draw", "(I)I"⟩
abbrev cX9_oddsAll : ByteArray := prog_11_method_74_code
def yX9_oddsAll : MethodName := ⟨RX9, "oddsAll", "()I"⟩
abbrev cX9_drawn : ByteArray := prog_11_method_75_code
def yX9_drawn : MethodName := ⟨RX9, "drawn", "()I"⟩
abbrev cX9_minuteGoes : ByteArray := prog_11_method_76_code
def yX9_minuteGoes : MethodName := ⟨RX9, "minuteGoes", "(I)V"⟩
abbrev cX9_pieces : ByteArray := prog_11_method_77_code
def yX9_pieces : MethodName := ⟨RX9, "pieces", "()I"⟩
abbrev cX9_has : ByteArray := prog_11_method_78_code
def yX9_has : MethodName := ⟨RX9, "has", "(I)I"⟩
abbrev cX9_letter : ByteArray := prog_11_method_79_code
def yX9_letter : MethodName := ⟨RX9, "letter", "(III)I"⟩
abbrev cX9_boy : ByteArray := prog_11_method_80_code
def yX9_boy : MethodName := ⟨RX9, "boy", "(II)I"⟩
abbrev cX9_at : ByteArray := prog_11_method_81_code
def yX9_at : MethodName := ⟨RX9, "at", "(I)I"⟩
abbrev cX9_strain : ByteArray := prog_11_method_82_code
def yX9_strain : MethodName := ⟨RX9, "strain", "(I)I"⟩
abbrev cX9_knot : ByteArray := prog_11_method_83_code
def yX9_knot : MethodName := ⟨RX9, "knot", "(II)I"⟩
abbrev cX9_dream : ByteArray := prog_11_method_84_code
def yX9_dream : MethodName := ⟨RX9, "dream", "(II)I"⟩
abbrev cX9_tug : ByteArray := prog_11_method_85_code
def yX9_tug : MethodName := ⟨RX9, "tug", "(II)I"⟩
abbrev cX9_law : ByteArray := prog_11_method_86_code
def yX9_law : MethodName := ⟨RX9, "law", "(IIZ)I"⟩
abbrev cX9_go : ByteArray := prog_11_method_87_code
def yX9_go : MethodName := ⟨RX9, "go", "(I)I"⟩
abbrev cX9_dreams : ByteArray := prog_11_method_88_code
def yX9_dreams : MethodName := ⟨RX9, "dreams", "(II)I"⟩
abbrev cX9_wake : ByteArray := prog_11_method_89_code
def yX9_wake : MethodName := ⟨RX9, "wake", "(IZ)Z"⟩
abbrev cX9_tie : ByteArray := prog_11_method_90_code
def yX9_tie : MethodName := ⟨RX9, "tie", "(IZ)Z"⟩
abbrev cX9_slack : ByteArray := prog_11_method_91_code
def yX9_slack : MethodName := ⟨RX9, "slack", "(II)I"⟩
abbrev cX9_swap : ByteArray := prog_11_method_92_code
def yX9_swap : MethodName := ⟨RX9, "swap", "(II)Z"⟩
abbrev cX9_seed : ByteArray := prog_11_method_93_code
def yX9_seed : MethodName := ⟨RX9, "seed", "(I)Z"⟩
abbrev cX9_feels : ByteArray := prog_11_method_94_code
def yX9_feels : MethodName := ⟨RX9, "feels", "(III)I"⟩
abbrev cX9_wakes : ByteArray := prog_11_method_95_code
def yX9_wakes : MethodName := ⟨RX9, "wakes", "(II)I"⟩
abbrev cX9_least : ByteArray := prog_11_method_96_code
def yX9_least : MethodName := ⟨RX9, "least", "(II)I"⟩
abbrev cX9_badness : ByteArray := prog_11_method_97_code
def yX9_badness : MethodName := ⟨RX9, "badness", "()I"⟩
abbrev cX9_bad : ByteArray := prog_11_method_98_code
def yX9_bad : MethodName := ⟨RX9, "bad", "()I"⟩
abbrev cX9_nextRow : ByteArray := prog_11_method_99_code
def yX9_nextRow : MethodName := ⟨RX9, "nextRow", "()Z"⟩
abbrev cX9_changes : ByteArray := prog_11_method_100_code
def yX9_changes : MethodName := ⟨RX9, "changes", "(II)V"⟩
abbrev cX9_best : ByteArray := prog_11_method_101_code
def yX9_best : MethodName := ⟨RX9, "best", "(I)I"⟩
abbrev cX9_exchanged : ByteArray := prog_11_method_102_code
def yX9_exchanged : MethodName := ⟨RX9, "exchanged", "()I"⟩
abbrev cX9_exchange : ByteArray := prog_11_method_103_code
def yX9_exchange : MethodName := ⟨RX9, "exchange", "(I)I"⟩
abbrev cX9_lay : ByteArray := prog_11_method_104_code
def yX9_lay : MethodName := ⟨RX9, "lay", "()I"⟩
abbrev cX9_ropeOf : ByteArray := prog_11_method_105_code
def yX9_ropeOf : MethodName := ⟨RX9, "ropeOf", "(I)I"⟩
abbrev cX9_two : ByteArray := prog_11_method_106_code
def yX9_two : MethodName := ⟨RX9, "two", "(I)I"⟩
abbrev cX9_hear : ByteArray := prog_11_method_107_code
def yX9_hear : MethodName := ⟨RX9, "hear", "()Z"⟩
abbrev cX9_oddsIf : ByteArray := prog_11_method_108_code
def yX9_oddsIf : MethodName := ⟨RX9, "oddsIf", "(II)I"⟩
abbrev cX9_allOdds : ByteArray := prog_11_method_109_code
def yX9_allOdds : MethodName := ⟨RX9, "allOdds", "()I"⟩
abbrev cX9_pulled : ByteArray := prog_11_method_110_code
def yX9_pulled : MethodName := ⟨RX9, "pulled", "(II)I"⟩
abbrev cX9_isCut : ByteArray := prog_11_method_111_code
def yX9_isCut : MethodName := ⟨RX9, "isCut", "(II)Z"⟩
abbrev cX9_heaviest : ByteArray := prog_11_method_112_code
def yX9_heaviest : MethodName := ⟨RX9, "heaviest", "(I)I"⟩
abbrev cX9_nextTied : ByteArray := prog_11_method_113_code
def yX9_nextTied : MethodName := ⟨RX9, "nextTied", "(I)I"⟩
abbrev cX9_firstCuts : ByteArray := prog_11_method_114_code
def yX9_firstCuts : MethodName := ⟨RX9, "firstCuts", "(I)Z"⟩
abbrev cX9_nextCuts : ByteArray := prog_11_method_115_code
def yX9_nextCuts : MethodName := ⟨RX9, "nextCuts", "(I)Z"⟩
abbrev cX9_cut : ByteArray := prog_11_method_116_code
def yX9_cut : MethodName := ⟨RX9, "cut", "(II)I"⟩
abbrev cX9_walk : ByteArray := prog_11_method_117_code
def yX9_walk : MethodName := ⟨RX9, "walk", "(I)I"⟩
abbrev cX9_beds : ByteArray := prog_11_method_118_code
def yX9_beds : MethodName := ⟨RX9, "beds", "(II)I"⟩
abbrev cX9_nights : ByteArray := prog_11_method_119_code
def yX9_nights : MethodName := ⟨RX9, "nights", "(III)I"⟩
abbrev cX9_writes : ByteArray := prog_11_method_120_code
def yX9_writes : MethodName := ⟨RX9, "writes", "(I)V"⟩
abbrev cX9_image : ByteArray := prog_11_method_121_code
def yX9_image : MethodName := ⟨RX9, "image", "()I"⟩
abbrev cX9_octet : ByteArray := prog_11_method_122_code
def yX9_octet : MethodName := ⟨RX9, "octet", "(I)I"⟩
abbrev cX9_knotsMany : ByteArray := prog_11_method_123_code
def yX9_knotsMany : MethodName := ⟨RX9, "knotsMany", "()I"⟩
abbrev cX9_isBoyOn : ByteArray := prog_11_method_124_code
def yX9_isBoyOn : MethodName := ⟨RX9, "isBoyOn", "(I)Z"⟩
abbrev cX9_isImage : ByteArray := prog_11_method_125_code
def yX9_isImage : MethodName := ⟨RX9, "isImage", "(I)Z"⟩
abbrev cX9_on : ByteArray := prog_11_method_126_code
def yX9_on : MethodName := ⟨RX9, "on", "()Z"⟩
def RJx145de : String := "java/io/Serializable"
def RJx9f9b0 : String := "java/lang/CharSequence"
def RJ11 : String := "java/lang/Character"
abbrev cJ11_isValidCodePoint_9a6ad : ByteArray := prog_12_method_11_code
def yJ11_isValidCodePoint_9a6ad : MethodName := ⟨RJ11, "isValidCodePoint", "(I)Z"⟩
abbrev cJ11_highSurrogate_5068e : ByteArray := prog_12_method_28_code
def yJ11_highSurrogate_5068e : MethodName := ⟨RJ11, "highSurrogate", "(I)C"⟩
abbrev cJ11_lowSurrogate_5068e : ByteArray := prog_12_method_29_code
def yJ11_lowSurrogate_5068e : MethodName := ⟨RJ11, "lowSurrogate", "(I)C"⟩
def RJxb160c : String := "java/lang/Comparable"
def RJ6 : String := "java/lang/Integer"
abbrev cJ6_bitCount_0f7a4 : ByteArray := prog_13_method_49_code
def yJ6_bitCount_0f7a4 : MethodName := ⟨RJ6, "bitCount", "(I)I"⟩
def RJ9 : String := "java/lang/Math"
abbrev cJ9_max_7cf53 : ByteArray := prog_14_method_65_code
def yJ9_max_7cf53 : MethodName := ⟨RJ9, "max", "(II)I"⟩
abbrev cJ9_min_7cf53 : ByteArray := prog_14_method_69_code
def yJ9_min_7cf53 : MethodName := ⟨RJ9, "min", "(II)I"⟩
def RJ0 : String := "java/lang/String"
abbrev cJ0_length_8abf5 : ByteArray := prog_15_method_54_code
def yJ0_length_8abf5 : MethodName := ⟨RJ0, "length", "()I"⟩
abbrev cJ0_charAt_5068e : ByteArray := prog_15_method_56_code
def yJ0_charAt_5068e : MethodName := ⟨RJ0, "charAt", "(I)C"⟩
abbrev cJ0_indexOf_0f7a4 : ByteArray := prog_15_method_79_code
def yJ0_indexOf_0f7a4 : MethodName := ⟨RJ0, "indexOf", "(I)I"⟩
abbrev cJ0_indexOf_7cf53 : ByteArray := prog_15_method_80_code
def yJ0_indexOf_7cf53 : MethodName := ⟨RJ0, "indexOf", "(II)I"⟩
abbrev cJ0_coder_7d493 : ByteArray := prog_15_method_152_code
def yJ0_coder_7d493 : MethodName := ⟨RJ0, "coder", "()B"⟩
abbrev cJ0_isLatin1_aae02 : ByteArray := prog_15_method_154_code
def yJ0_isLatin1_aae02 : MethodName := ⟨RJ0, "isLatin1", "()Z"⟩
abbrev cJ0_checkIndex_df160 : ByteArray := prog_15_method_155_code
def yJ0_checkIndex_df160 : MethodName := ⟨RJ0, "checkIndex", "(II)V"⟩
abbrev cJ0_checkBoundsBeginEnd_23922 : ByteArray := prog_15_method_158_code
def yJ0_checkBoundsBeginEnd_23922 : MethodName := ⟨RJ0, "checkBoundsBeginEnd", "(III)V"⟩
def RJ1 : String := "java/lang/StringLatin1"
abbrev cJ1_charAt_3b067 : ByteArray := prog_16_method_2_code
def yJ1_charAt_3b067 : MethodName := ⟨RJ1, "charAt", "([BI)C"⟩
abbrev cJ1_canEncode_9a6ad : ByteArray := prog_16_method_4_code
def yJ1_canEncode_9a6ad : MethodName := ⟨RJ1, "canEncode", "(I)Z"⟩
abbrev cJ1_indexOf_4cfef : ByteArray := prog_16_method_22_code
def yJ1_indexOf_4cfef : MethodName := ⟨RJ1, "indexOf", "([BIII)I"⟩
abbrev cJ1_indexOfChar_4cfef : ByteArray := prog_16_method_23_code
def yJ1_indexOfChar_4cfef : MethodName := ⟨RJ1, "indexOfChar", "([BIII)I"⟩
def RJ2 : String := "java/lang/StringUTF16"
abbrev cJ2_getChar_3b067 : ByteArray := prog_17_method_5_code
def yJ2_getChar_3b067 : MethodName := ⟨RJ2, "getChar", "([BI)C"⟩
abbrev cJ2_length_9d52b : ByteArray := prog_17_method_6_code
def yJ2_length_9d52b : MethodName := ⟨RJ2, "length", "([B)I"⟩
abbrev cJ2_indexOf_4cfef : ByteArray := prog_17_method_40_code
def yJ2_indexOf_4cfef : MethodName := ⟨RJ2, "indexOf", "([BIII)I"⟩
abbrev cJ2_indexOfChar_4cfef : ByteArray := prog_17_method_47_code
def yJ2_indexOfChar_4cfef : MethodName := ⟨RJ2, "indexOfChar", "([BIII)I"⟩
abbrev cJ2_indexOfCharUnsafe_4cfef : ByteArray := prog_17_method_48_code
def yJ2_indexOfCharUnsafe_4cfef : MethodName := ⟨RJ2, "indexOfCharUnsafe", "([BIII)I"⟩
abbrev cJ2_indexOfSupplementary_4cfef : ByteArray := prog_17_method_49_code
def yJ2_indexOfSupplementary_4cfef : MethodName := ⟨RJ2, "indexOfSupplementary", "([BIII)I"⟩
abbrev cJ2_charAt_3b067 : ByteArray := prog_17_method_83_code
def yJ2_charAt_3b067 : MethodName := ⟨RJ2, "charAt", "([BI)C"⟩
abbrev cJ2_checkIndex_2214a : ByteArray := prog_17_method_91_code
def yJ2_checkIndex_2214a : MethodName := ⟨RJ2, "checkIndex", "(I[B)V"⟩
abbrev cJ2_checkBoundsBeginEnd_d044e : ByteArray := prog_17_method_93_code
def yJ2_checkBoundsBeginEnd_d044e : MethodName := ⟨RJ2, "checkBoundsBeginEnd", "(II[B)V"⟩
def RJ10 : String := "java/lang/System"
def RJxfd54e : String := "java/lang/constant/Constable"
def RJx3cf43 : String := "java/lang/constant/ConstantDesc"
def RJ7 : String := "java/util/Arrays"
abbrev cJ7_fill_53178 : ByteArray := prog_19_method_103_code
def yJ7_fill_53178 : MethodName := ⟨RJ7, "fill", "([II)V"⟩
def RJ3 : String := "jdk/internal/util/Preconditions"
abbrev cJ3_checkIndex_8e157 : ByteArray := prog_20_method_11_code
def yJ3_checkIndex_8e157 : MethodName := ⟨RJ3, "checkIndex", "(IILjava/util/function/BiFunction;)I"⟩
abbrev cJ3_checkFromToIndex_8c36e : ByteArray := prog_20_method_12_code
def yJ3_checkFromToIndex_8c36e : MethodName := ⟨RJ3, "checkFromToIndex", "(IIILjava/util/function/BiFunction;)I"⟩
def RL : String := "SleepRopeLaw"
abbrev cL_law : ByteArray := code
def yL_law : MethodName := ⟨RL, "law", "([I)Z"⟩
abbrev vwCl : List vw_C := [(RX0, TX0, 3), (RX1, TX1, 16), (RX2, TX2, 9), (RX3, TX3, 2), (RX4, TX4, 12), (RX5, TX5, 11), (RX6, TX6, 16), (RX7, TX7, 2), (RX8, TX8, 16), (RX9, TX9, 82)]
end
section
/-! THE SMALL MACHINE: a method's bytecode run over a list of cells (cell k lies at the address base + k of the real heap), as a function. Its steps are the machine's own (part 03). -/
/-- a cell: its kind (0 .. 9 an object of that class of vwCl; 10 int[], 11 long[], 12 boolean[], 13 Rope[]), what it holds -/
abbrev zE : Type := Nat × List Value
abbrev zM : Type := List zE
abbrev zML : Type := List (Option Value)
/-- place, locals, stack, cells -/
abbrev zS : Type := Nat × zML × List Value × zM
abbrev zRes : Type := Option Value × zM
/-- the places of what lies below the base: the script, the two texts -/
def zBig : Nat := 1000000
def zcat (st : List Value) : Nat := (st.map fun v => v.category).sum
def ztgt (pc : Nat) (off : Int) : Option Nat := match (pc : Int) + off with
  | .ofNat n => some n
  | .negSucc _ => none
theorem ztgt_eq {pc t : Nat} {off : Int} (h : ztgt pc off = some t) : (pc : Int) + off = (t : Int) := by
  unfold ztgt at h
  split at h
  · rename_i n e
    cases h
    exact e
  · cases h
def zclr (ml : zML) : Nat → zML
  | 0 => ml
  | j + 1 => match ml[j]? with
    | some (some w) => if w.category = 2 then ml.set j none else ml
    | _ => ml
def zst (ml : zML) (i : Nat) (v : Value) : Option zML :=
  if v.category = 1 then (if i < ml.length then some ((zclr ml i).set i (some v)) else none)
  else (if i + 1 < ml.length then some (((zclr ml i).set i (some v)).set (i + 1) none) else none)
/-- what changes the stack alone: the instruction's length, the stack behind it -/
def zpure : Instr → List Value → Option (Nat × List Value)
  | .iconst n, st => some (1, .int (Int32.ofInt n) :: st)
  | .bipush n, st => some (2, .int (Int8.ofInt n).toInt32 :: st)
  | .sipush n, st => some (3, .int (Int16.ofInt n).toInt32 :: st)
  | .lconst n, st => some (1, .long (Int64.ofNat (n : Nat)) :: st)
  | .aconst_null, st => some (1, .null :: st)
  | .iadd, .int y :: .int x :: r => some (1, .int (x + y) :: r)
  | .isub, .int y :: .int x :: r => some (1, .int (x - y) :: r)
  | .imul, .int y :: .int x :: r => some (1, .int (x * y) :: r)
  | .idiv, .int y :: .int x :: r => if y = 0 then none else some (1, .int (x / y) :: r)
  | .irem, .int y :: .int x :: r => if y = 0 then none else some (1, .int (x - x / y * y) :: r)
  | .iand, .int y :: .int x :: r => some (1, .int (x &&& y) :: r)
  | .ior, .int y :: .int x :: r => some (1, .int (x ||| y) :: r)
  | .ishl, .int y :: .int x :: r => some (1, .int (x <<< (y &&& 31)) :: r)
  | .ishr, .int y :: .int x :: r => some (1, .int (x >>> (y &&& 31)) :: r)
  | .iushr, .int y :: .int x :: r => some (1, .int (x.toUInt32 >>> (y.toUInt32 &&& Int32.toUInt32 31)).toInt32 :: r)
  | .ladd, .long y :: .long x :: r => some (1, .long (x + y) :: r)
  | .lsub, .long y :: .long x :: r => some (1, .long (x - y) :: r)
  | .lmul, .long y :: .long x :: r => some (1, .long (x * y) :: r)
  | .ldiv, .long y :: .long x :: r => if y = 0 then none else some (1, .long (x / y) :: r)
  | .lrem, .long y :: .long x :: r => if y = 0 then none else some (1, .long (x - x / y * y) :: r)
  | .land, .long y :: .long x :: r => some (1, .long (x &&& y) :: r)
  | .lor, .long y :: .long x :: r => some (1, .long (x ||| y) :: r)
  | .lshl, .int y :: .long x :: r => some (1, .long (x <<< (y.toInt64 &&& 63)) :: r)
  | .lshr, .int y :: .long x :: r => some (1, .long (x >>> (y.toInt64 &&& 63)) :: r)
  | .lcmp, .long y :: .long x :: r => some (1, .int (lg_cmp x y) :: r)
  | .i2l, .int x :: r => some (1, .long x.toInt64 :: r)
  | .l2i, .long x :: r => some (1, .int x.toInt32 :: r)
  | .i2c, .int x :: r => some (1, .int (x.toUInt32 % 65536).toInt32 :: r)
  | .dup, v :: r => if v.category = 1 then some (1, v :: v :: r) else none
  | .dup2, v :: r => if v.category = 2 then some (1, v :: v :: r) else match r with
    | w :: r' => if v.category = 1 ∧ w.category = 1 then some (1, v :: w :: v :: w :: r') else none
    | [] => none
  | .pop, v :: r => if v.category = 1 then some (1, r) else none
  | _, _ => none
/-- jumps: the next place, the stack behind -/
def zbr : Instr → Nat → Nat → List Value → Option (Nat × List Value)
  | .goto off, pc, len, st => if len = 3 then (ztgt pc off).map (fun t => (t, st)) else none
  | .ifCond c off, pc, len, .int x :: r => if len = 3 then (match ztgt pc off with
    | none => none
    | some t => match c with
      | .eq => some (if x = 0 then t else pc + 3, r)
      | .ne => some (if x = 0 then pc + 3 else t, r)
      | .lt => some (if x < 0 then t else pc + 3, r)
      | .ge => some (if 0 ≤ x then t else pc + 3, r)
      | .gt => some (if 0 < x then t else pc + 3, r)
      | .le => some (if x ≤ 0 then t else pc + 3, r)) else none
  | .if_icmp c off, pc, len, .int y :: .int x :: r => if len = 3 then (match ztgt pc off with
    | none => none
    | some t => match c with
      | .eq => some (if x = y then t else pc + 3, r)
      | .ne => some (if x = y then pc + 3 else t, r)
      | .lt => some (if x < y then t else pc + 3, r)
      | .ge => some (if y ≤ x then t else pc + 3, r)
      | .gt => some (if y < x then t else pc + 3, r)
      | .le => some (if x ≤ y then t else pc + 3, r)) else none
  | .ifnull off, pc, len, .null :: r => if len = 3 then (ztgt pc off).map (fun t => (t, r)) else none
  | .ifnull _, pc, len, .ref _ :: r => if len = 3 then some (pc + 3, r) else none
  | .tableswitch d lo hi offs, pc, _, .int x :: r =>
    if x.toInt < lo ∨ hi < x.toInt then (ztgt pc d).map (fun t => (t, r)) else match offs[(x.toInt - lo).toNat]? with
      | none => none
      | some o => (ztgt pc o).map (fun t => (t, r))
  | .lookupswitch d ps, pc, _, .int x :: r =>
    if (ps.toList.zip (ps.toList.drop 1)).all (fun (a, next) => a.1 < next.1) = true then (ztgt pc (Op.lookupswitch.offset ps.toList d x.toInt)).map (fun t => (t, r)) else none
  | _, _, _, _ => none
/-- locals: the instruction's length, the locals and the stack behind it -/
def zloc : Instr → zML → List Value → Option (Nat × zML × List Value)
  | .iload_n k, ml, st => match ml[(k : Nat)]? with
    | some (some (.int x)) => some (1, ml, .int x :: st)
    | _ => none
  | .iload k, ml, st => match ml[k]? with
    | some (some (.int x)) => some (2, ml, .int x :: st)
    | _ => none
  | .lload_n k, ml, st => match ml[(k : Nat)]? with
    | some (some (.long x)) => some (1, ml, .long x :: st)
    | _ => none
  | .lload k, ml, st => match ml[k]? with
    | some (some (.long x)) => some (2, ml, .long x :: st)
    | _ => none
  | .aload_n k, ml, st => match ml[(k : Nat)]? with
    | some (some (.ref x)) => some (1, ml, .ref x :: st)
    | some (some .null) => some (1, ml, .null :: st)
    | _ => none
  | .aload k, ml, st => match ml[k]? with
    | some (some (.ref x)) => some (2, ml, .ref x :: st)
    | some (some .null) => some (2, ml, .null :: st)
    | _ => none
  | .istore_n k, ml, .int x :: r => (zst ml k (.int x)).map fun ml' => (1, ml', r)
  | .istore k, ml, .int x :: r => (zst ml k (.int x)).map fun ml' => (2, ml', r)
  | .lstore_n k, ml, .long x :: r => (zst ml k (.long x)).map fun ml' => (1, ml', r)
  | .lstore k, ml, .long x :: r => (zst ml k (.long x)).map fun ml' => (2, ml', r)
  | .astore_n k, ml, .ref x :: r => (zst ml k (.ref x)).map fun ml' => (1, ml', r)
  | .astore_n k, ml, .null :: r => (zst ml k .null).map fun ml' => (1, ml', r)
  | .astore k, ml, .ref x :: r => (zst ml k (.ref x)).map fun ml' => (2, ml', r)
  | .astore k, ml, .null :: r => (zst ml k .null).map fun ml' => (2, ml', r)
  | .iinc k n, ml, st => match ml[k]? with
    | some (some (.int x)) => (zst ml k (.int (x + Int32.ofInt n))).map fun ml' => (3, ml', st)
    | _ => none
  | _, _, _ => none
end
section
/-! its steps are the machine's own: stack, jumps, locals -/
def zad (g : Nat → Nat) (base : Nat) (k : Nat) : Nat := if k < zBig then base + k else g (k - zBig)
def ztr (ad : Nat → Nat) : Value → Value
  | .ref k => .ref (ad k)
  | v => v
theorem ztr_cat (ad : Nat → Nat) (v : Value) : (ztr ad v).category = v.category := by cases v <;> rfl
theorem zcat_tr (ad : Nat → Nat) (st : List Value) : ((st.map (ztr ad)).map fun v => v.category).sum = zcat st := by
  unfold zcat
  rw [List.map_map]
  congr 1
  apply List.map_congr_left
  intro v _
  exact ztr_cat ad v
section ZP
variable {p : Program} {l : Launch} {e : Env} {R : Room} {s : State} {m : MethodId} {args : Array Value} {below : List Frame} {meth : Method} {c : Code} {H : Heap} {locs : List Loc} {cells slots : Nat} {Q : State → Prop} {cc : ByteArray} {pc : Nat} {ls : Array Slot} {ad : Nat → Nat}
theorem zpure_sim (hx : p.tables.exec = Jvm.exec) (hb : c.code = cc) {i : Instr} {len n : Nat} {st st' : List Value} (hd : decode cc pc = .ok (i, len)) (h : zpure i st = some (n, st')) (hn : n = len)
    (k : W p l e R s m args below meth c H locs cells slots Q (F0 m (pc + len) ls (st'.map (ztr ad)))) : W p l e R s m args below meth c H locs cells slots Q (F0 m pc ls (st.map (ztr ad))) := by
  subst hn
  unfold zpure at h
  split at h
  · cases h; exact lv_iconst hx hb hd rfl k
  · cases h; exact lv_bipush hx hb hd rfl k
  · cases h; exact lv_sipush hx hb hd rfl k
  · cases h; exact lv_lconst hx hb hd rfl k
  · cases h; exact lv_null hx hb hd k
  · cases h; exact lv_iadd hx hb hd k
  · cases h; exact lv_isub hx hb hd k
  · cases h; exact lv_imul hx hb hd k
  · split at h
    · cases h
    · cases h; exact lv_idiv hx hb hd (by assumption) k
  · split at h
    · cases h
    · cases h; exact lv_irem hx hb hd (by assumption) k
  · cases h; exact lv_iand hx hb hd k
  · cases h; exact lv_ior hx hb hd k
  · cases h; exact lv_ishl hx hb hd k
  · cases h; exact lv_ishr hx hb hd k
  · cases h; exact lv_iushr hx hb hd rfl k
  · cases h; exact lv_ladd hx hb hd k
  · cases h; exact lv_lsub hx hb hd k
  · cases h; exact lv_lmul hx hb hd k
  · split at h
    · cases h
    · cases h; exact lv_ldiv hx hb hd (by assumption) k
  · split at h
    · cases h
    · cases h; exact lv_lrem hx hb hd (by assumption) k
  · cases h; exact lv_land hx hb hd k
  · cases h; exact lv_lor hx hb hd k
  · cases h; exact lv_lshl hx hb hd rfl k
  · cases h; exact lv_lshr hx hb hd rfl k
  · cases h; exact W.lcmp hx hb hd k
  · cases h; exact lv_i2l hx hb hd rfl k
  · cases h; exact lv_l2i hx hb hd rfl k
  · cases h; exact lv_i2c hx hb hd rfl k
  · split at h
    · rename_i hc
      cases h; exact lv_dup hx hb hd (by rw [ztr_cat]; exact hc) k
    · cases h
  · split at h
    · rename_i hc
      cases h; exact lv_dup2_2 hx hb hd (by rw [ztr_cat]; exact hc) k
    · split at h
      · split at h
        · rename_i hc
          cases h; exact lv_dup2_11 hx hb hd (by rw [ztr_cat]; exact hc.1) (by rw [ztr_cat]; exact hc.2) k
        · cases h
      · cases h
  · split at h
    · rename_i hc
      cases h; exact lv_pop hx hb hd (by rw [ztr_cat]; exact hc) k
    · cases h
  · cases h
theorem zbr_sim (hx : p.tables.exec = Jvm.exec) (hb : c.code = cc) {i : Instr} {len pc' : Nat} {st st' : List Value} (hd : decode cc pc = .ok (i, len)) (h : zbr i pc len st = some (pc', st'))
    (k : W p l e R s m args below meth c H locs cells slots Q (F0 m pc' ls (st'.map (ztr ad)))) : W p l e R s m args below meth c H locs cells slots Q (F0 m pc ls (st.map (ztr ad))) := by
  unfold zbr at h
  split at h
  · split at h
    · rename_i hl
      subst hl
      cases ht : ztgt pc ‹Int› with
      | none => rw [ht] at h; cases h
      | some t => rw [ht] at h; cases h; exact lv_goto hx hb hd (ztgt_eq ht) k
    · cases h
  · split at h
    · rename_i hl
      subst hl
      split at h
      · cases h
      · rename_i t ht
        have ht := ztgt_eq ht
        split at h
        · cases h; exact lv_if_eq hx hb hd ht (fun q => by rw [if_pos q] at k; exact k) (fun q => by rw [if_neg q] at k; exact k)
        · cases h; exact lv_if_ne hx hb hd ht (fun q => by rw [if_neg q] at k; exact k) (fun q => by rw [if_pos q] at k; exact k)
        · cases h; exact lv_if_lt hx hb hd ht (fun q => by rw [if_pos q] at k; exact k) (fun q => by rw [if_neg q] at k; exact k)
        · cases h; exact lv_if_ge hx hb hd ht (fun q => by rw [if_pos q] at k; exact k) (fun q => by rw [if_neg q] at k; exact k)
        · cases h; exact lv_if_gt hx hb hd ht (fun q => by rw [if_pos q] at k; exact k) (fun q => by rw [if_neg q] at k; exact k)
        · cases h; exact lv_if_le hx hb hd ht (fun q => by rw [if_pos q] at k; exact k) (fun q => by rw [if_neg q] at k; exact k)
    · cases h
  · split at h
    · rename_i hl
      subst hl
      split at h
      · cases h
      · rename_i t ht
        have ht := ztgt_eq ht
        split at h
        · cases h; exact lv_icmp_eq hx hb hd ht (fun q => by rw [if_pos q] at k; exact k) (fun q => by rw [if_neg q] at k; exact k)
        · cases h; exact lv_icmp_ne hx hb hd ht (fun q => by rw [if_neg q] at k; exact k) (fun q => by rw [if_pos q] at k; exact k)
        · cases h; exact lv_icmp_lt hx hb hd ht (fun q => by rw [if_pos q] at k; exact k) (fun q => by rw [if_neg q] at k; exact k)
        · cases h; exact lv_icmp_ge hx hb hd ht (fun q => by rw [if_pos q] at k; exact k) (fun q => by rw [if_neg q] at k; exact k)
        · cases h; exact lv_icmp_gt hx hb hd ht (fun q => by rw [if_pos q] at k; exact k) (fun q => by rw [if_neg q] at k; exact k)
        · cases h; exact lv_icmp_le hx hb hd ht (fun q => by rw [if_pos q] at k; exact k) (fun q => by rw [if_neg q] at k; exact k)
    · cases h
  · split at h
    · rename_i hl
      subst hl
      cases ht : ztgt pc ‹Int› with
      | none => rw [ht] at h; cases h
      | some t => rw [ht] at h; cases h; exact lv_ifnullN hx hb hd (ztgt_eq ht) k
    · cases h
  · split at h
    · rename_i hl
      subst hl
      cases h; exact lv_ifnull hx hb hd k
    · cases h
  · split at h
    · rename_i hc
      cases ht : ztgt pc _ with
      | none => rw [ht] at h; cases h
      | some t => rw [ht] at h; cases h; exact lv_tableOut hx hb hd hc (ztgt_eq ht) k
    · rename_i hc
      split at h
      · cases h
      · rename_i o ho
        cases ht : ztgt pc o with
        | none => rw [ht] at h; cases h
        | some t => rw [ht] at h; cases h; exact lv_tableIn hx hb hd (fun q => hc (Or.inl q)) (fun q => hc (Or.inr q)) ho (ztgt_eq ht) k
  · split at h
    · rename_i hc
      cases ht : ztgt pc _ with
      | none => rw [ht] at h; cases h
      | some t => rw [ht] at h; cases h; exact lv_lookup hx hb hd hc rfl (ztgt_eq ht) k
    · cases h
  · cases h
end ZP
/-- the locals as the kit's rows have them -/
def zlv (ad : Nat → Nat) (ml : zML) : List (Nat × Value) := ml.zipIdx.filterMap (fun q => q.1.map (fun v => (q.2, ztr ad v)))
theorem zlv_mem {ad : Nat → Nat} {ml : zML} {q : Nat × Value} : q ∈ zlv ad ml ↔ ∃ v, ml[q.1]? = some (some v) ∧ q.2 = ztr ad v := by
  obtain ⟨j, x⟩ := q
  unfold zlv
  rw [List.mem_filterMap]
  constructor
  · rintro ⟨⟨o, i⟩, h1, h2⟩
    rw [List.mem_zipIdx_iff_getElem?] at h1
    cases o with
    | none => cases h2
    | some v =>
      simp only [Option.map_some, Option.some.injEq, Prod.mk.injEq] at h2
      obtain ⟨rfl, rfl⟩ := h2
      exact ⟨v, h1, rfl⟩
  · rintro ⟨v, h1, h2⟩
    refine ⟨(some v, j), ?_, ?_⟩
    · rw [List.mem_zipIdx_iff_getElem?]
      exact h1
    · simp only [Option.map_some]
      rw [← h2]
def zL (ad : Nat → Nat) (ml : zML) (ls : Array Slot) : Prop := lv_has ls ml.length (zlv ad ml)
theorem zL_get {ad : Nat → Nat} {ml : zML} {ls : Array Slot} (h : zL ad ml ls) {i : Nat} {v : Value} (hv : ml[i]? = some (some v)) : ls[i]? = some (.val (ztr ad v)) := h.2.2 (i, ztr ad v) (zlv_mem.mpr ⟨v, hv, rfl⟩)
theorem zclr_len (ml : zML) (i : Nat) : (zclr ml i).length = ml.length := by
  cases i with
  | zero => rfl
  | succ j =>
    simp only [zclr]
    split
    · split
      · simp
      · rfl
    · rfl
theorem zclr_get {ml : zML} {i j : Nat} {v : Value} (h : (zclr ml i)[j]? = some (some v)) : ml[j]? = some (some v) ∧ ¬ (j + 1 = i ∧ v.category = 2) := by
  cases i with
  | zero => exact ⟨h, fun q => by omega⟩
  | succ k =>
    simp only [zclr] at h
    split at h
    · rename_i w hw
      split at h
      · rename_i hc
        rw [List.getElem?_set] at h
        split at h
        · rename_i hk
          split at h
          · cases h
          · cases h
        · rename_i hk
          exact ⟨h, fun q => hk (by omega)⟩
      · rename_i hc
        refine ⟨h, fun q => ?_⟩
        have : k = j := by omega
        subst this
        rw [hw] at h
        cases h
        exact hc q.2
    · rename_i hw
      refine ⟨h, fun q => ?_⟩
      have : k = j := by omega
      subst this
      exact hw _ h
theorem zst_len {ml ml' : zML} {i : Nat} {v : Value} (h : zst ml i v = some ml') : ml'.length = ml.length := by
  unfold zst at h
  split at h <;> split at h <;> first | (cases h; simp [zclr_len]; done) | cases h
theorem zst1_sub {ad : Nat → Nat} {ml ml' : zML} {i : Nat} {v : Value} (h : zst ml i v = some ml') (hc : v.category = 1) {ls : Array Slot} {nL : Nat} (hl : lv_has ls nL ((i, ztr ad v) :: (zlv ad ml).filter (fun q => !(q.1 == i) && !(q.1 + 1 == i && q.2.category == 2)))) (hn : nL = ml'.length) : zL ad ml' ls := by
  refine ⟨hl.1.trans hn, hl.2.1, fun q hq => ?_⟩
  obtain ⟨w, h1, h2⟩ := zlv_mem.mp hq
  refine hl.2.2 q ?_
  unfold zst at h
  rw [if_pos hc] at h
  split at h
  · cases h
    rw [List.getElem?_set] at h1
    split at h1
    · rename_i hk
      split at h1
      · cases h1
        rw [show q = (i, ztr ad v) from by rw [← h2, hk]]
        exact List.mem_cons_self
      · cases h1
    · rename_i hk
      obtain ⟨g1, g2⟩ := zclr_get h1
      refine List.mem_cons_of_mem _ (List.mem_filter.mpr ⟨zlv_mem.mpr ⟨w, g1, h2⟩, ?_⟩)
      rw [h2, ztr_cat]
      have e1 : (q.1 == i) = false := by simp; exact fun z => hk z.symm
      rw [e1]
      simp only [Bool.not_false, Bool.true_and, Bool.not_eq_true', Bool.and_eq_false_iff, beq_eq_false_iff_ne]
      by_cases hz : q.1 + 1 = i
      · right
        exact fun z => g2 ⟨hz, z⟩
      · left
        exact hz
  · cases h
theorem zst2_sub {ad : Nat → Nat} {ml ml' : zML} {i : Nat} {v : Value} (h : zst ml i v = some ml') (hc : v.category = 2) {ls : Array Slot} {nL : Nat} (hl : lv_has ls nL ((i, ztr ad v) :: (zlv ad ml).filter (fun q => !(q.1 == i) && (!(q.1 == i + 1) && !(q.1 + 1 == i && q.2.category == 2))))) (hn : nL = ml'.length) : zL ad ml' ls := by
  refine ⟨hl.1.trans hn, hl.2.1, fun q hq => ?_⟩
  obtain ⟨w, h1, h2⟩ := zlv_mem.mp hq
  refine hl.2.2 q ?_
  unfold zst at h
  rw [if_neg (by rw [hc]; decide)] at h
  split at h
  · cases h
    rw [List.getElem?_set] at h1
    split at h1
    · split at h1 <;> cases h1
    · rename_i hk1
      rw [List.getElem?_set] at h1
      split at h1
      · rename_i hk
        split at h1
        · cases h1
          rw [show q = (i, ztr ad v) from by rw [← h2, hk]]
          exact List.mem_cons_self
        · cases h1
      · rename_i hk
        obtain ⟨g1, g2⟩ := zclr_get h1
        refine List.mem_cons_of_mem _ (List.mem_filter.mpr ⟨zlv_mem.mpr ⟨w, g1, h2⟩, ?_⟩)
        rw [h2, ztr_cat]
        have e1 : (q.1 == i) = false := by simp; exact fun z => hk z.symm
        have e2 : (q.1 == i + 1) = false := by simp; exact fun z => hk1 z.symm
        rw [e1, e2]
        simp only [Bool.not_false, Bool.true_and, Bool.not_eq_true', Bool.and_eq_false_iff, beq_eq_false_iff_ne]
        by_cases hz : q.1 + 1 = i
        · right
          exact fun z => g2 ⟨hz, z⟩
        · left
          exact hz
  · cases h
theorem zst_lt1 {ml ml' : zML} {i : Nat} {v : Value} (h : zst ml i v = some ml') (hc : v.category = 1) : i < ml.length := by
  unfold zst at h
  rw [if_pos hc] at h
  split at h
  · assumption
  · cases h
theorem zst_lt2 {ml ml' : zML} {i : Nat} {v : Value} (h : zst ml i v = some ml') (hc : v.category = 2) : i + 1 < ml.length := by
  unfold zst at h
  rw [if_neg (by rw [hc]; decide)] at h
  split at h
  · assumption
  · cases h
section ZP2
variable {p : Program} {l : Launch} {e : Env} {R : Room} {s : State} {m : MethodId} {args : Array Value} {below : List Frame} {meth : Method} {c : Code} {H : Heap} {locs : List Loc} {cells slots : Nat} {Q : State → Prop} {cc : ByteArray} {pc : Nat} {ls : Array Slot} {ad : Nat → Nat}
theorem zloc_sim (hx : p.tables.exec = Jvm.exec) (hb : c.code = cc) {i : Instr} {len n : Nat} {ml ml' : zML} {st st' : List Value} (hd : decode cc pc = .ok (i, len)) (h : zloc i ml st = some (n, ml', st')) (hn : n = len) (hl : zL ad ml ls)
    (k : ∀ ls', zL ad ml' ls' → W p l e R s m args below meth c H locs cells slots Q (F0 m (pc + len) ls' (st'.map (ztr ad)))) : W p l e R s m args below meth c H locs cells slots Q (F0 m pc ls (st.map (ztr ad))) := by
  subst hn
  unfold zloc at h
  split at h
  · split at h
    · rename_i hv; cases h; exact lv_iload_n hx hb hd rfl (zL_get hl hv) (k _ hl)
    · cases h
  · split at h
    · rename_i hv; cases h; exact lv_iload hx hb hd (zL_get hl hv) (k _ hl)
    · cases h
  · split at h
    · rename_i hv; cases h; exact lv_lload_n hx hb hd rfl (zL_get hl hv) (k _ hl)
    · cases h
  · split at h
    · rename_i hv; cases h; exact lv_lload hx hb hd (zL_get hl hv) (k _ hl)
    · cases h
  · split at h
    · rename_i hv; cases h; exact lv_aload_n hx hb hd rfl (zL_get hl hv) (k _ hl)
    · rename_i hv; cases h; exact lv_aload_nN hx hb hd rfl (zL_get hl hv) (k _ hl)
    · cases h
  · split at h
    · rename_i hv; cases h; exact lv_aload hx hb hd (zL_get hl hv) (k _ hl)
    · rename_i hv; cases h; exact lv_aloadN hx hb hd (zL_get hl hv) (k _ hl)
    · cases h
  · cases hz : zst ml _ _ with
    | none => rw [hz] at h; cases h
    | some q => rw [hz] at h; cases h; exact lv_istore_n hx hb hd rfl hl (zst_lt1 hz rfl) rfl (fun ls' hl' => k ls' (zst1_sub hz rfl hl' (zst_len hz).symm))
  · cases hz : zst ml _ _ with
    | none => rw [hz] at h; cases h
    | some q => rw [hz] at h; cases h; exact lv_istore hx hb hd hl (zst_lt1 hz rfl) rfl (fun ls' hl' => k ls' (zst1_sub hz rfl hl' (zst_len hz).symm))
  · cases hz : zst ml _ _ with
    | none => rw [hz] at h; cases h
    | some q => rw [hz] at h; cases h; exact lv_lstore_n hx hb hd rfl hl (zst_lt2 hz rfl) rfl (fun ls' hl' => k ls' (zst2_sub hz rfl hl' (zst_len hz).symm))
  · cases hz : zst ml _ _ with
    | none => rw [hz] at h; cases h
    | some q => rw [hz] at h; cases h; exact lv_lstore hx hb hd hl (zst_lt2 hz rfl) rfl (fun ls' hl' => k ls' (zst2_sub hz rfl hl' (zst_len hz).symm))
  · cases hz : zst ml _ _ with
    | none => rw [hz] at h; cases h
    | some q => rw [hz] at h; cases h; exact lv_astore_n hx hb hd rfl hl (zst_lt1 hz rfl) rfl (fun ls' hl' => k ls' (zst1_sub hz rfl hl' (zst_len hz).symm))
  · cases hz : zst ml _ _ with
    | none => rw [hz] at h; cases h
    | some q => rw [hz] at h; cases h; exact lv_astore_nN hx hb hd rfl hl (zst_lt1 hz rfl) rfl (fun ls' hl' => k ls' (zst1_sub (v := .null) hz rfl hl' (zst_len hz).symm))
  · cases hz : zst ml _ _ with
    | none => rw [hz] at h; cases h
    | some q => rw [hz] at h; cases h; exact lv_astore hx hb hd hl (zst_lt1 hz rfl) rfl (fun ls' hl' => k ls' (zst1_sub hz rfl hl' (zst_len hz).symm))
  · cases hz : zst ml _ _ with
    | none => rw [hz] at h; cases h
    | some q => rw [hz] at h; cases h; exact lv_astoreN hx hb hd hl (zst_lt1 hz rfl) rfl (fun ls' hl' => k ls' (zst1_sub (v := .null) hz rfl hl' (zst_len hz).symm))
  · split at h
    · rename_i kk nn x hv
      cases hz : zst ml _ _ with
      | none => rw [hz] at h; cases h
      | some q =>
        rw [hz] at h
        cases h
        obtain ⟨j, hj⟩ := List.getElem?_of_mem (zlv_mem (ad := ad) (q := (_, ztr ad (.int x))).mpr ⟨_, hv, rfl⟩)
        exact lv_iinc hx hb hd hl hj rfl (zst_lt1 hz rfl) rfl (fun ls' hl' => k ls' (zst1_sub hz rfl hl' (zst_len hz).symm))
    · cases h
  · cases h
end ZP2
end
section
/-! what the constant pools' entries mean: by program (wip/whole/mk04.py) out of the tables' words; each row with the place of its word, decided below -/
def zcn : Nat → String
  | 0 => RX0
  | 1 => RX1
  | 2 => RX2
  | 3 => RX3
  | 4 => RX4
  | 5 => RX5
  | 6 => RX6
  | 7 => RX7
  | 8 => RX8
  | 9 => RX9
  | 10 => RL
  | 11 => RJ6
  | 12 => RJ7
  | _ => RL
def zty : Nat → Nat → FieldType
  | 0 => tyX0
  | 1 => tyX1
  | 2 => tyX2
  | 3 => tyX3
  | 4 => tyX4
  | 5 => tyX5
  | 6 => tyX6
  | 7 => tyX7
  | 8 => tyX8
  | _ => tyX9
def ztb : Nat → u_T
  | 0 => TX0
  | 1 => TX1
  | 2 => TX2
  | 3 => TX3
  | 4 => TX4
  | 5 => TX5
  | 6 => TX6
  | 7 => TX7
  | 8 => TX8
  | _ => TX9
def zfldT : Nat → List (Nat × Nat × Nat × Nat)
  | 0 => [(18, 0, 0, 484), (22, 0, 1, 486), (11, 0, 2, 487)]
  | 1 => [(55, 1, 0, 205), (59, 1, 1, 209), (62, 1, 2, 212), (9, 1, 3, 217), (15, 1, 4, 220), (18, 1, 5, 224), (21, 1, 6, 228), (24, 1, 7, 233), (27, 1, 8, 236), (30, 1, 9, 239), (33, 1, 10, 242), (36, 1, 11, 247), (39, 1, 12, 251), (42, 1, 13, 255), (45, 1, 14, 260), (51, 1, 15, 263)]
  | 2 => [(34, 2, 0, 171), (38, 2, 1, 175), (9, 2, 2, 176), (15, 2, 3, 177), (19, 2, 4, 178), (22, 2, 5, 179), (25, 2, 6, 180), (28, 2, 7, 181), (31, 2, 8, 182)]
  | 3 => [(112, 1, 2, 214), (109, 1, 6, 230), (64, 1, 10, 244), (53, 1, 11, 248), (90, 1, 12, 252), (119, 1, 13, 257), (70, 6, 0, 398), (44, 6, 1, 401), (76, 6, 2, 407), (22, 6, 3, 410), (34, 6, 4, 414), (50, 6, 5, 417), (47, 6, 6, 420), (41, 6, 7, 423), (38, 6, 8, 425), (73, 7, 0, 508), (83, 7, 1, 512), (9, 3, 0, 519), (18, 3, 1, 521)]
  | 4 => [(65, 1, 2, 213), (62, 1, 6, 229), (68, 1, 10, 243), (74, 1, 13, 256), (50, 6, 0, 397), (53, 6, 2, 406), (77, 7, 1, 511), (99, 4, 0, 539), (9, 4, 1, 541), (106, 4, 2, 543), (109, 4, 3, 545), (15, 4, 4, 547), (117, 4, 5, 549), (120, 4, 6, 551), (18, 4, 7, 553), (22, 4, 8, 554), (25, 4, 9, 555), (31, 4, 10, 556), (38, 4, 11, 557)]
  | 5 => [(179, 2, 0, 174), (60, 1, 0, 206), (120, 1, 1, 211), (157, 1, 2, 216), (126, 1, 3, 219), (136, 1, 4, 223), (139, 1, 5, 227), (142, 1, 6, 232), (145, 1, 7, 235), (151, 1, 8, 238), (160, 1, 9, 241), (163, 1, 10, 246), (166, 1, 11, 250), (169, 1, 12, 254), (172, 1, 13, 259), (154, 1, 14, 262), (175, 1, 15, 266), (50, 5, 0, 349), (9, 5, 1, 351), (15, 5, 2, 353), (19, 5, 3, 354), (22, 5, 4, 355), (25, 5, 5, 356), (91, 5, 6, 357), (53, 5, 7, 358), (31, 5, 8, 359), (114, 5, 9, 361), (111, 5, 10, 362)]
  | 6 => [(52, 1, 1, 208), (67, 1, 14, 261), (58, 6, 0, 395), (61, 6, 1, 400), (9, 6, 2, 404), (15, 6, 3, 409), (19, 6, 4, 413), (22, 6, 5, 416), (25, 6, 6, 419), (28, 6, 7, 422), (31, 6, 8, 424), (34, 6, 9, 426), (37, 6, 10, 429), (40, 6, 11, 431), (43, 6, 12, 433), (46, 6, 13, 436), (64, 6, 14, 439), (49, 6, 15, 441)]
  | 7 => [(57, 2, 0, 172), (77, 2, 8, 183), (71, 1, 4, 221), (64, 1, 5, 225), (53, 1, 15, 264), (25, 6, 0, 396), (80, 6, 1, 402), (41, 6, 2, 405), (50, 6, 3, 411), (83, 6, 9, 427), (30, 6, 12, 434), (34, 6, 13, 437), (9, 7, 0, 507), (21, 7, 1, 510)]
  | 8 => [(123, 2, 0, 173), (104, 1, 0, 207), (113, 1, 1, 210), (116, 1, 2, 215), (159, 1, 3, 218), (172, 1, 4, 222), (175, 1, 5, 226), (178, 1, 6, 231), (181, 1, 7, 234), (184, 1, 8, 237), (169, 1, 9, 240), (230, 1, 10, 245), (233, 1, 11, 249), (236, 1, 12, 253), (239, 1, 13, 258), (119, 1, 15, 265), (107, 5, 0, 350), (110, 5, 1, 352), (89, 5, 8, 360), (135, 6, 0, 399), (132, 6, 1, 403), (215, 6, 2, 408), (190, 6, 3, 412), (194, 6, 4, 415), (197, 6, 5, 418), (200, 6, 6, 421), (203, 6, 9, 428), (206, 6, 10, 430), (209, 6, 11, 432), (221, 6, 12, 435), (224, 6, 13, 438), (262, 6, 14, 440), (149, 0, 0, 485), (290, 7, 0, 509), (293, 7, 1, 513), (152, 3, 0, 520), (304, 4, 0, 540), (307, 4, 1, 542), (313, 4, 2, 544), (319, 4, 3, 546), (316, 4, 4, 548), (331, 4, 5, 550), (334, 4, 6, 552), (9, 8, 0, 583), (74, 8, 1, 584), (16, 8, 2, 585), (23, 8, 3, 586), (30, 8, 4, 587), (34, 8, 5, 588), (40, 8, 6, 589), (47, 8, 7, 590), (54, 8, 8, 591), (61, 8, 9, 592), (65, 8, 10, 593), (97, 8, 11, 594), (68, 8, 12, 595), (368, 8, 13, 596), (71, 8, 14, 597), (101, 8, 15, 598)]
  | 9 => [(7, 9, 0, 1247), (13, 9, 1, 1248), (17, 9, 2, 1249), (20, 9, 3, 1250), (23, 9, 4, 1251), (26, 9, 5, 1252), (29, 9, 6, 1253), (32, 9, 7, 1254), (36, 9, 8, 1255), (39, 9, 9, 1256), (42, 9, 10, 1257), (45, 9, 11, 1258), (48, 9, 12, 1259), (51, 9, 13, 1260), (54, 9, 14, 1261), (58, 9, 15, 1262), (61, 9, 16, 1263), (64, 9, 17, 1264), (67, 9, 18, 1265), (70, 9, 19, 1266), (73, 9, 20, 1267), (76, 9, 21, 1268), (79, 9, 22, 1269), (82, 9, 23, 1270), (85, 9, 24, 1271), (88, 9, 25, 1272), (91, 9, 26, 1273), (94, 9, 27, 1274), (97, 9, 28, 1275), (100, 9, 29, 1276), (103, 9, 30, 1277), (106, 9, 31, 1278), (109, 9, 32, 1279), (112, 9, 33, 1280), (115, 9, 34, 1281), (118, 9, 35, 1282), (121, 9, 36, 1283), (124, 9, 37, 1284), (127, 9, 38, 1285), (131, 9, 39, 1286), (134, 9, 40, 1287), (137, 9, 41, 1288), (140, 9, 42, 1289), (143, 9, 43, 1290), (146, 9, 44, 1291), (149, 9, 45, 1292), (153, 9, 46, 1293), (156, 9, 47, 1294), (159, 9, 48, 1295), (162, 9, 49, 1296), (165, 9, 50, 1297), (168, 9, 51, 1298), (171, 9, 52, 1299), (174, 9, 53, 1300), (177, 9, 54, 1301), (180, 9, 55, 1302), (183, 9, 56, 1303), (186, 9, 57, 1304), (189, 9, 58, 1305), (192, 9, 59, 1306), (195, 9, 60, 1307), (198, 9, 61, 1308), (201, 9, 62, 1309), (204, 9, 63, 1310), (207, 9, 64, 1311), (210, 9, 65, 1312), (213, 9, 66, 1313), (216, 9, 67, 1314), (219, 9, 68, 1315), (222, 9, 69, 1316), (225, 9, 70, 1317), (228, 9, 71, 1318), (231, 9, 72, 1319), (234, 9, 73, 1320), (237, 9, 74, 1321), (240, 9, 75, 1322), (243, 9, 76, 1323), (246, 9, 77, 1324), (249, 9, 78, 1325), (252, 9, 79, 1326), (255, 9, 80, 1327), (258, 9, 81, 1328)]
  | _ => []
def zlayT : Nat → List Nat
  | 0 => [488, 490, 492]
  | 1 => [267, 269, 271, 273, 275, 277, 279, 281, 283, 285, 287, 289, 291, 293, 295, 297]
  | 2 => [184, 186, 188, 190, 192, 194, 196, 198, 200]
  | 3 => [522, 524]
  | 4 => [558, 560, 562, 564, 566, 568, 570, 572, 574, 576, 578, 580]
  | 5 => [363, 365, 367, 369, 371, 373, 375, 377, 379, 381, 383]
  | 6 => [442, 444, 446, 448, 450, 452, 454, 456, 458, 460, 462, 464, 466, 468, 470, 472]
  | 7 => [514, 516]
  | 8 => [599, 601, 603, 605, 607, 609, 611, 613, 615, 617, 619, 621, 623, 625, 627, 629]
  | 9 => [1329, 1331, 1333, 1335, 1337, 1339, 1341, 1343, 1345, 1347, 1349, 1351, 1353, 1355, 1357, 1359, 1361, 1363, 1365, 1367, 1369, 1371, 1373, 1375, 1377, 1379, 1381, 1383, 1385, 1387, 1389, 1391, 1393, 1395, 1397, 1399, 1401, 1403, 1405, 1407, 1409, 1411, 1413, 1415, 1417, 1419, 1421, 1423, 1425, 1427, 1429, 1431, 1433, 1435, 1437, 1439, 1441, 1443, 1445, 1447, 1449, 1451, 1453, 1455, 1457, 1459, 1461, 1463, 1465, 1467, 1469, 1471, 1473, 1475, 1477, 1479, 1481, 1483, 1485, 1487, 1489, 1491]
  | _ => []
def znf : Nat → Nat
  | 0 => 3
  | 1 => 16
  | 2 => 9
  | 3 => 2
  | 4 => 12
  | 5 => 11
  | 6 => 16
  | 7 => 2
  | 8 => 16
  | 9 => 82
  | _ => 0
def znewT : Nat → List (Nat × Nat × Nat × Nat × Nat)
  | 0 => [(9, 6, 481, 390, 134)]
  | 1 => [(48, 2, 165, 166, 129)]
  | 3 => [(15, 7, 501, 502, 137)]
  | 4 => [(28, 6, 535, 390, 134), (35, 7, 537, 502, 137)]
  | 5 => [(28, 1, 159, 160, 128)]
  | 8 => [(13, 5, 153, 154, 127), (20, 1, 387, 160, 128), (27, 6, 389, 390, 134), (37, 0, 475, 476, 135), (44, 3, 495, 496, 136), (51, 7, 527, 502, 137), (58, 4, 529, 530, 138)]
  | 10 => [(7, 8, 145, 146, 126), (10, 9, 1241, 1242, 139)]
  | _ => []
def zldcT : Nat → List (Nat × Int32 × Nat)
  | 2 => [(59, 1000000, 947), (62, -1000000, 949)]
  | 4 => [(112, 1000000, 1130)]
  | 6 => [(84, 1000000, 1015)]
  | 9 => [(490, 1000000, 1844)]
  | 11 => [(265, 1431655765, 1023), (266, 858993459, 1024), (267, 252645135, 1025)]
  | _ => []
def zldlT : Nat → List (Nat × Int64 × Nat)
  | 2 => [(57, 1000000, 946), (60, -1000000, 948)]
  | 3 => [(122, 1103515245, 1030), (124, 12345, 1031), (126, 2147483647, 1032)]
  | 9 => [(286, 6451065, 1533), (288, 131277443786868, 1554), (290, 431198598248, 1555), (292, 1868850291, 1556), (294, 483006377075, 1557), (296, 126918153364851, 1558), (298, 444133766004, 1559), (300, 495739560811, 1560), (302, 24948, 1561), (304, 431415976301, 1562), (306, 7632231, 1563), (308, 465491424371, 1564), (310, 123563851081075, 1565), (312, 1885434739, 1566), (314, 1684366704, 1567), (316, 2003330414, 1568), (318, 28530, 1569), (320, 6385252, 1570), (322, 7237492, 1571), (324, 6384748, 1572), (326, 439956431717, 1573), (328, 482854658917, 1574), (330, 120299592184933, 1575), (332, 108187867505765, 1576), (334, 1717922932, 1577), (336, 7170414, 1578), (338, 7168376, 1579), (541, 255, 1705), (426, 1000000, 1792), (428, -1000000, 1793), (517, 1103515245, 1853), (519, 12345, 1854), (521, 2147483648, 1855), (523, 64, 1856)]
  | _ => []
/-- the methods: their class, how many arguments (without this), name, code, locals, answer, the place of the code word -/
abbrev zMt : Type := Nat × Nat × MethodName × ByteArray × Nat × Option FieldType × Nat
def zmt0 : List zMt := [(0, 0, yX0_init, cX0_init, 2, none, 479), (0, 0, yX0_forget, cX0_forget, 1, none, 833), (0, 1, yX0_keep, cX0_keep, 3, none, 967), (0, 1, yX0_takeBack, cX0_takeBack, 3, (some .boolean), 1071)]
def zmt1 : List zMt := [(1, 0, yX1_init, cX1_init, 1, none, 163), (1, 0, yX1_empty, cX1_empty, 1, none, 659), (1, 1, yX1_isTaken, cX1_isTaken, 3, (some .boolean), 765), (1, 1, yX1_isSnorer, cX1_isSnorer, 2, (some .boolean), 934), (1, 1, yX1_isGhost, cX1_isGhost, 2, (some .boolean), 955)]
def zmt2 : List zMt := [(2, 0, yX2_init, cX2_init, 1, none, 169), (2, 0, yX2_empty, cX2_empty, 1, none, 666), (2, 1, yX2_beginSum, cX2_beginSum, 2, none, 793), (2, 1, yX2_put, cX2_put, 2, none, 805), (2, 0, yX2_beginTest, cX2_beginTest, 1, none, 813), (2, 0, yX2_close, cX2_close, 1, none, 825), (2, 3, yX2_first, cX2_first, 6, (some .int), 938), (2, 2, yX2_run, cX2_run, 6, (some .int), 942), (2, 3, yX2_joined, cX2_joined, 6, (some .int), 945)]
def zmt3 : List zMt := [(3, 0, yX3_init, cX3_init, 1, none, 499), (3, 2, yX3_minute, cX3_minute, 6, none, 983), (3, 3, yX3_canBegin, cX3_canBegin, 4, (some .boolean), 987), (3, 5, yX3_begins, cX3_begins, 12, (some .int), 992), (3, 1, yX3_draw, cX3_draw, 2, (some .int), 1029), (3, 1, yX3_drawnDream, cX3_drawnDream, 6, (some .int), 1036)]
def zmt4 : List zMt := [(4, 0, yX4_init, cX4_init, 1, none, 533), (4, 2, yX4_badAsItIs, cX4_badAsItIs, 3, (some .int), 1096), (4, 2, yX4_begin, cX4_begin, 3, none, 1100), (4, 1, yX4_badness, cX4_badness, 7, (some .int), 1107), (4, 3, yX4_findBest, cX4_findBest, 6, none, 1118), (4, 2, yX4_nextOrder, cX4_nextOrder, 7, (some .boolean), 1121), (4, 3, yX4_findExchanges, cX4_findExchanges, 11, none, 1129), (4, 3, yX4_findTwo, cX4_findTwo, 8, none, 1144)]
def zmt5 : List zMt := [(5, 0, yX5_init, cX5_init, 5, none, 157), (5, 2, yX5_read, cX5_read, 5, (some .boolean), 655), (5, 2, yX5_scan, cX5_scan, 9, none, 670), (5, 1, yX5_kindOf, cX5_kindOf, 1, (some .int), 673), (5, 3, yX5_lengthen, cX5_lengthen, 6, (some .boolean), 737), (5, 3, yX5_add, cX5_add, 4, none, 741), (5, 1, yX5_fails, cX5_fails, 3, (some .boolean), 745), (5, 0, yX5_own, cX5_own, 2, (some .int), 749), (5, 0, yX5_readBoy, cX5_readBoy, 2, (some .boolean), 753), (5, 0, yX5_step, cX5_step, 1, none, 757), (5, 0, yX5_needsName, cX5_needsName, 1, (some .boolean), 761), (5, 1, yX5_needsOwn, cX5_needsOwn, 2, (some .boolean), 769), (5, 2, yX5_needsNumber, cX5_needsNumber, 3, (some .boolean), 773), (5, 1, yX5_readMarks, cX5_readMarks, 5, (some .boolean), 777), (5, 0, yX5_readSlack, cX5_readSlack, 2, (some .boolean), 781), (5, 0, yX5_readDream, cX5_readDream, 2, (some .boolean), 785), (5, 1, yX5_readLaw, cX5_readLaw, 2, (some .boolean), 789), (5, 1, yX5_readSum, cX5_readSum, 6, (some .boolean), 797), (5, 1, yX5_readPart, cX5_readPart, 4, (some .boolean), 801), (5, 1, yX5_isSign, cX5_isSign, 2, (some .boolean), 809), (5, 1, yX5_readTest, cX5_readTest, 4, (some .boolean), 817), (5, 1, yX5_readFact, cX5_readFact, 4, (some .boolean), 821)]
def zmt6 : List zMt := [(6, 0, yX6_init, cX6_init, 1, none, 393), (6, 1, yX6_begin, cX6_begin, 3, none, 829), (6, 0, yX6_awake, cX6_awake, 3, (some .int), 849), (6, 0, yX6_told, cX6_told, 1, (some .int), 861), (6, 1, yX6_placeOf, cX6_placeOf, 3, (some .int), 885), (6, 1, yX6_toldTug, cX6_toldTug, 2, (some .int), 918), (6, 1, yX6_take, cX6_take, 2, none, 971), (6, 1, yX6_takeKnots, cX6_takeKnots, 2, none, 978), (6, 4, yX6_tell, cX6_tell, 5, none, 996), (6, 2, yX6_feelsForce, cX6_feelsForce, 3, none, 1013), (6, 1, yX6_getsUp, cX6_getsUp, 2, none, 1019), (6, 2, yX6_change, cX6_change, 4, none, 1063)]
def zmt7 : List zMt := [(7, 0, yX7_init, cX7_init, 1, none, 505), (7, 4, yX7_look, cX7_look, 8, none, 930), (7, 4, yX7_goes, cX7_goes, 7, none, 1001), (7, 4, yX7_passedOn, cX7_passedOn, 6, (some .int), 1006)]
def zmt8 : List zMt := [(8, 0, yX8_init, cX8_init, 1, none, 149), (8, 5, yX8_feed, cX8_feed, 6, (some .int), 635), (8, 1, yX8_refuse, cX8_refuse, 2, none, 639), (8, 1, yX8_putOnTape, cX8_putOnTape, 3, none, 643), (8, 1, yX8_end, cX8_end, 2, (some .boolean), 647), (8, 0, yX8_dorm, cX8_dorm, 3, (some .int), 651), (8, 1, yX8_fault, cX8_fault, 2, (some .int), 837), (8, 1, yX8_has, cX8_has, 2, (some .int), 841), (8, 0, yX8_tiedKnots, cX8_tiedKnots, 3, (some .int), 845), (8, 1, yX8_dreamers, cX8_dreamers, 5, (some .int), 853), (8, 0, yX8_caughtOnes, cX8_caughtOnes, 3, (some .int), 857), (8, 3, yX8_letter, cX8_letter, 4, (some .int), 866), (8, 1, yX8_isBoy, cX8_isBoy, 2, (some .boolean), 870), (8, 2, yX8_letterOf, cX8_letterOf, 2, (some .int), 873), (8, 1, yX8_isDream, cX8_isDream, 2, (some .boolean), 877), (8, 2, yX8_boy, cX8_boy, 3, (some .int), 881), (8, 1, yX8_at, cX8_at, 2, (some .int), 889), (8, 1, yX8_isPlace, cX8_isPlace, 2, (some .boolean), 893), (8, 2, yX8_knot, cX8_knot, 3, (some .int), 897), (8, 1, yX8_isKnot, cX8_isKnot, 2, (some .boolean), 901), (8, 1, yX8_strain, cX8_strain, 7, (some .int), 905), (8, 2, yX8_dream, cX8_dream, 3, (some .int), 910), (8, 2, yX8_tug, cX8_tug, 4, (some .int), 914), (8, 3, yX8_law, cX8_law, 5, (some .int), 923), (8, 1, yX8_isForce, cX8_isForce, 1, (some .boolean), 926), (8, 1, yX8_go, cX8_go, 4, (some .int), 959), (8, 0, yX8_startAct, cX8_startAct, 1, none, 963), (8, 2, yX8_dreams, cX8_dreams, 3, (some .int), 1040), (8, 2, yX8_wake, cX8_wake, 3, (some .boolean), 1046), (8, 2, yX8_tie, cX8_tie, 3, (some .boolean), 1051), (8, 2, yX8_slack, cX8_slack, 4, (some .int), 1055), (8, 2, yX8_swap, cX8_swap, 3, (some .boolean), 1059), (8, 0, yX8_undo, cX8_undo, 1, (some .boolean), 1067), (8, 1, yX8_seed, cX8_seed, 2, (some .boolean), 1075), (8, 3, yX8_feels, cX8_feels, 4, (some .int), 1079), (8, 2, yX8_wakes, cX8_wakes, 3, (some .int), 1084), (8, 2, yX8_least, cX8_least, 5, (some .int), 1088), (8, 0, yX8_bad, cX8_bad, 1, (some .int), 1092), (8, 1, yX8_best, cX8_best, 2, (some .int), 1114), (8, 1, yX8_exchange, cX8_exchange, 3, (some .int), 1125), (8, 0, yX8_lay, cX8_lay, 1, (some .int), 1135), (8, 1, yX8_two, cX8_two, 2, (some .int), 1140), (8, 0, yX8_hear, cX8_hear, 3, (some .boolean), 1148), (8, 1, yX8_pairOnTape, cX8_pairOnTape, 2, (some .int), 1152), (8, 1, yX8_onTape, cX8_onTape, 2, (some .int), 1156), (8, 2, yX8_pulled, cX8_pulled, 6, (some .int), 1160), (8, 2, yX8_oddsOfHaving, cX8_oddsOfHaving, 4, (some .int), 1164), (8, 2, yX8_cut, cX8_cut, 7, (some .int), 1168), (8, 1, yX8_areTied, cX8_areTied, 3, (some .boolean), 1173), (8, 2, yX8_inSet, cX8_inSet, 2, (some .boolean), 1176), (8, 1, yX8_heaviestPiece, cX8_heaviestPiece, 6, (some .int), 1180), (8, 2, yX8_knotOfSet, cX8_knotOfSet, 4, (some .int), 1183), (8, 1, yX8_walk, cX8_walk, 2, (some .int), 1187), (8, 2, yX8_takenBy, cX8_takenBy, 8, (some .int), 1191), (8, 2, yX8_beds, cX8_beds, 8, (some .int), 1195), (8, 3, yX8_nights, cX8_nights, 9, (some .int), 1199), (8, 0, yX8_allAwake, cX8_allAwake, 2, (some .boolean), 1204), (8, 0, yX8_image, cX8_image, 3, (some .int), 1208), (8, 1, yX8_putPair, cX8_putPair, 2, none, 1212), (8, 1, yX8_putOctet, cX8_putOctet, 2, none, 1216), (8, 2, yX8_sealOf, cX8_sealOf, 4, (some .int), 1220), (8, 1, yX8_octet, cX8_octet, 2, (some .int), 1224), (8, 0, yX8_on, cX8_on, 5, (some .boolean), 1228), (8, 1, yX8_isImage, cX8_isImage, 7, (some .boolean), 1232), (8, 2, yX8_isImageOfBoy, cX8_isImageOfBoy, 8, (some .boolean), 1236), (8, 1, yX8_status, cX8_status, 2, (some .int), 1240)]
def zmt9 : List zMt := [(9, 0, yX9_init, cX9_init, 1, none, 1245), (9, 5, yX9_feed, cX9_feed, 6, (some .int), 1498), (9, 1, yX9_refuses, cX9_refuses, 2, (some .int), 1502), (9, 1, yX9_put, cX9_put, 3, none, 1506), (9, 1, yX9_end, cX9_end, 2, (some .boolean), 1510), (9, 0, yX9_dorm, cX9_dorm, 2, (some .int), 1514), (9, 0, yX9_ahead, cX9_ahead, 6, none, 1518), (9, 1, yX9_isLetter, cX9_isLetter, 1, (some .boolean), 1521), (9, 1, yX9_isDigit, cX9_isDigit, 1, (some .boolean), 1524), (9, 2, yX9_blame, cX9_blame, 3, none, 1528), (9, 0, yX9_statement, cX9_statement, 1, none, 1532), (9, 1, yX9_isWord, cX9_isWord, 3, (some .boolean), 1537), (9, 0, yX9_boying, cX9_boying, 2, none, 1541), (9, 1, yX9_counts, cX9_counts, 2, (some .boolean), 1545), (9, 0, yX9_fresh, cX9_fresh, 3, (some .long), 1549), (9, 1, yX9_isOwn, cX9_isOwn, 3, (some .boolean), 1553), (9, 1, yX9_isThere, cX9_isThere, 4, (some .boolean), 1583), (9, 1, yX9_must_, cX9_must_, 3, none, 1587), (9, 2, yX9_number, cX9_number, 4, (some .int), 1591), (9, 3, yX9_is, cX9_is, 3, (some .boolean), 1594), (9, 1, yX9_marking, cX9_marking, 3, none, 1598), (9, 0, yX9_slacking, cX9_slacking, 3, none, 1602), (9, 0, yX9_dreaming, cX9_dreaming, 2, none, 1606), (9, 1, yX9_lawing, cX9_lawing, 3, none, 1610), (9, 1, yX9_reads, cX9_reads, 3, none, 1614), (9, 1, yX9_pushes, cX9_pushes, 2, none, 1618), (9, 0, yX9_operand, cX9_operand, 4, (some .boolean), 1622), (9, 1, yX9_isTest, cX9_isTest, 1, (some .boolean), 1625), (9, 1, yX9_holdsBack, cX9_holdsBack, 2, none, 1629), (9, 1, yX9_isSign, cX9_isSign, 2, (some .boolean), 1633), (9, 1, yX9_opens, cX9_opens, 2, none, 1637), (9, 2, yX9_add, cX9_add, 3, none, 1641), (9, 0, yX9_goesOn, cX9_goesOn, 5, (some .boolean), 1645), (9, 1, yX9_joins, cX9_joins, 2, none, 1649), (9, 1, yX9_rank, cX9_rank, 1, (some .int), 1652), (9, 1, yX9_ends, cX9_ends, 3, none, 1656), (9, 1, yX9_must, cX9_must, 2, none, 1660), (9, 0, yX9_begins, cX9_begins, 2, none, 1664), (9, 1, yX9_clears, cX9_clears, 2, none, 1668), (9, 1, yX9_fault, cX9_fault, 2, (some .int), 1672), (9, 1, yX9_status, cX9_status, 2, (some .int), 1676), (9, 0, yX9_undo, cX9_undo, 1, (some .boolean), 1680), (9, 1, yX9_ring, cX9_ring, 2, (some .int), 1684), (9, 2, yX9_copies, cX9_copies, 6, none, 1688), (9, 1, yX9_has, cX9_has, 4, (some .int), 1692), (9, 0, yX9_many, cX9_many, 1, (some .int), 1696), (9, 0, yX9_pieces, cX9_pieces, 3, (some .int), 1700), (9, 3, yX9_letter, cX9_letter, 9, (some .int), 1704), (9, 2, yX9_boy, cX9_boy, 3, (some .int), 1709), (9, 1, yX9_isBoy, cX9_isBoy, 2, (some .boolean), 1713), (9, 2, yX9_placeOf, cX9_placeOf, 4, (some .int), 1717), (9, 1, yX9_at, cX9_at, 2, (some .int), 1721), (9, 2, yX9_knot, cX9_knot, 3, (some .int), 1725), (9, 1, yX9_isKnot, cX9_isKnot, 2, (some .boolean), 1729), (9, 1, yX9_strain, cX9_strain, 6, (some .int), 1733), (9, 2, yX9_dream, cX9_dream, 5, (some .int), 1737), (9, 1, yX9_isDream, cX9_isDream, 2, (some .boolean), 1741), (9, 2, yX9_tug, cX9_tug, 3, (some .int), 1745), (9, 3, yX9_law, cX9_law, 4, (some .int), 1749), (9, 1, yX9_rowNow, cX9_rowNow, 3, none, 1753), (9, 2, yX9_passedOf, cX9_passedOf, 4, (some .int), 1757), (9, 1, yX9_isGhost, cX9_isGhost, 2, (some .boolean), 1761), (9, 2, yX9_meets, cX9_meets, 4, none, 1765), (9, 1, yX9_beside, cX9_beside, 3, (some .int), 1769), (9, 1, yX9_isTied, cX9_isTied, 2, (some .boolean), 1773), (9, 1, yX9_snores, cX9_snores, 2, (some .boolean), 1777), (9, 3, yX9_lawOf, cX9_lawOf, 7, (some .int), 1781), (9, 2, yX9_reckons, cX9_reckons, 6, (some .long), 1785), (9, 3, yX9_made, cX9_made, 5, (some .long), 1788), (9, 1, yX9_bounded, cX9_bounded, 2, (some .long), 1791), (9, 2, yX9_over, cX9_over, 6, (some .long), 1796), (9, 2, yX9_deepOf, cX9_deepOf, 3, (some .int), 1800), (9, 1, yX9_go, cX9_go, 3, (some .int), 1804), (9, 0, yX9_keeps, cX9_keeps, 1, none, 1808), (9, 1, yX9_minuteGoes, cX9_minuteGoes, 7, none, 1812), (9, 2, yX9_canDream, cX9_canDream, 3, (some .boolean), 1816), (9, 5, yX9_begin, cX9_begin, 9, (some .int), 1820), (9, 5, yX9_tells, cX9_tells, 7, none, 1824), (9, 2, yX9_tugs, cX9_tugs, 5, none, 1828), (9, 1, yX9_slackAt, cX9_slackAt, 2, (some .int), 1832), (9, 2, yX9_comes, cX9_comes, 4, (some .int), 1836), (9, 1, yX9_bits, cX9_bits, 3, (some .int), 1839), (9, 5, yX9_isFelt, cX9_isFelt, 8, none, 1843), (9, 2, yX9_wakesUp, cX9_wakesUp, 3, none, 1848), (9, 1, yX9_draw, cX9_draw, 2, (some .int), 1852), (9, 0, yX9_drawn, cX9_drawn, 3, (some .int), 1860), (9, 0, yX9_oddsAll, cX9_oddsAll, 3, (some .int), 1864), (9, 2, yX9_dreams, cX9_dreams, 3, (some .int), 1868), (9, 2, yX9_wake, cX9_wake, 3, (some .boolean), 1872), (9, 2, yX9_tie, cX9_tie, 3, (some .boolean), 1876), (9, 2, yX9_slack, cX9_slack, 4, (some .int), 1880), (9, 2, yX9_swap, cX9_swap, 4, (some .boolean), 1884), (9, 1, yX9_seed, cX9_seed, 2, (some .boolean), 1888), (9, 3, yX9_feels, cX9_feels, 4, (some .int), 1892), (9, 2, yX9_wakes, cX9_wakes, 3, (some .int), 1896), (9, 2, yX9_least, cX9_least, 4, (some .int), 1900), (9, 0, yX9_bad, cX9_bad, 1, (some .int), 1904), (9, 0, yX9_badness, cX9_badness, 4, (some .int), 1908), (9, 1, yX9_best, cX9_best, 7, (some .int), 1912), (9, 0, yX9_nextRow, cX9_nextRow, 5, (some .boolean), 1916), (9, 2, yX9_changes, cX9_changes, 4, none, 1920), (9, 1, yX9_exchange, cX9_exchange, 3, (some .int), 1924), (9, 0, yX9_exchanged, cX9_exchanged, 9, (some .int), 1928), (9, 0, yX9_lay, cX9_lay, 2, (some .int), 1932), (9, 1, yX9_two, cX9_two, 7, (some .int), 1936), (9, 1, yX9_ropeOf, cX9_ropeOf, 3, (some .int), 1940), (9, 0, yX9_hear, cX9_hear, 3, (some .boolean), 1944), (9, 2, yX9_pulled, cX9_pulled, 6, (some .int), 1948), (9, 0, yX9_allOdds, cX9_allOdds, 4, (some .int), 1952), (9, 2, yX9_oddsIf, cX9_oddsIf, 4, (some .int), 1956), (9, 2, yX9_cut, cX9_cut, 7, (some .int), 1960), (9, 1, yX9_firstCuts, cX9_firstCuts, 4, (some .boolean), 1964), (9, 1, yX9_nextTied, cX9_nextTied, 3, (some .int), 1968), (9, 1, yX9_heaviest, cX9_heaviest, 5, (some .int), 1972), (9, 2, yX9_isCut, cX9_isCut, 4, (some .boolean), 1976), (9, 1, yX9_nextCuts, cX9_nextCuts, 6, (some .boolean), 1980), (9, 1, yX9_walk, cX9_walk, 7, (some .int), 1984), (9, 2, yX9_beds, cX9_beds, 7, (some .int), 1988), (9, 3, yX9_nights, cX9_nights, 9, (some .int), 1992), (9, 0, yX9_image, cX9_image, 4, (some .int), 1996), (9, 1, yX9_writes, cX9_writes, 2, none, 2000), (9, 1, yX9_octet, cX9_octet, 2, (some .int), 2004), (9, 0, yX9_on, cX9_on, 5, (some .boolean), 2008), (9, 1, yX9_isImage, cX9_isImage, 5, (some .boolean), 2012), (9, 0, yX9_knotsMany, cX9_knotsMany, 1, (some .int), 2016), (9, 1, yX9_isBoyOn, cX9_isBoyOn, 5, (some .boolean), 2020)]
def zmt11 : List zMt := [(11, 1, yJ6_bitCount_0f7a4, cJ6_bitCount_0f7a4, 1, (some .int), 1022)]
def zmt12 : List zMt := [(12, 2, yJ7_fill_53178, cJ7_fill_53178, 4, none, 662)]
/-- a method by its number: its class * 256, its place in the class -/
def zmt (j : Nat) : Option zMt := match j / 256 with
  | 0 => zmt0[j % 256]?
  | 1 => zmt1[j % 256]?
  | 2 => zmt2[j % 256]?
  | 3 => zmt3[j % 256]?
  | 4 => zmt4[j % 256]?
  | 5 => zmt5[j % 256]?
  | 6 => zmt6[j % 256]?
  | 7 => zmt7[j % 256]?
  | 8 => zmt8[j % 256]?
  | 9 => zmt9[j % 256]?
  | 11 => zmt11[j % 256]?
  | 12 => zmt12[j % 256]?
  | _ => none
def zcallT : Nat → List (Nat × Nat × Nat × Nat × Nat × Nat × Nat)
  | 0 => [(3, 4, 0, 480, 151, 152, 0), (17, 3, 1536, 483, 392, 134, 0), (25, 0, 1542, 968, 969, 970, 134), (29, 6, 0, 979, 694, 141, 695)]
  | 1 => [(3, 4, 0, 164, 151, 152, 0), (50, 3, 512, 167, 168, 129, 0), (65, 1, 3072, 660, 661, 140, 0), (71, 0, 513, 663, 664, 665, 129)]
  | 2 => [(3, 4, 0, 170, 151, 152, 0), (41, 0, 519, 939, 941, 29, 129), (53, 1, 520, 943, 944, 129, 0), (45, 6, 0, 950, 694, 141, 695), (50, 5, 0, 951, 691, 141, 692)]
  | 3 => [(3, 4, 0, 500, 151, 152, 0), (17, 3, 1792, 503, 504, 137, 0), (93, 0, 770, 984, 985, 986, 136), (28, 0, 260, 988, 953, 954, 128), (102, 0, 771, 989, 990, 991, 136), (56, 0, 1544, 993, 994, 995, 134), (60, 0, 1540, 997, 883, 884, 134), (66, 0, 1794, 998, 999, 1000, 137), (79, 0, 1545, 1010, 1011, 1012, 134), (86, 0, 1546, 1016, 1017, 1018, 134), (97, 1, 2816, 1020, 1021, 144, 0), (106, 0, 772, 1026, 1028, 32, 136), (115, 0, 773, 1033, 1035, 33, 136)]
  | 4 => [(3, 4, 0, 534, 151, 152, 0), (30, 3, 1536, 536, 392, 134, 0), (37, 3, 1792, 538, 504, 137, 0), (86, 0, 1026, 1097, 1099, 34, 138), (42, 0, 1537, 1101, 827, 828, 134), (46, 0, 1543, 1102, 976, 977, 134), (89, 7, 0, 1103, 974, 973, 143), (95, 0, 1027, 1104, 1106, 35, 138), (56, 0, 260, 1108, 953, 954, 128), (70, 0, 1794, 1109, 999, 1000, 137), (80, 1, 2816, 1110, 1021, 144, 0), (102, 1, 1029, 1119, 1120, 138, 0), (113, 0, 1547, 1131, 1061, 1062, 134)]
  | 5 => [(3, 4, 0, 158, 151, 152, 0), (30, 3, 256, 161, 162, 128, 0), (37, 8, 0, 301, 302, 303, 130), (43, 9, 0, 311, 312, 313, 130), (47, 0, 257, 656, 657, 658, 128), (56, 0, 1282, 667, 669, 2, 127), (94, 1, 1283, 671, 672, 127, 0), (108, 10, 0, 675, 676, 677, 130), (98, 0, 1284, 734, 736, 3, 127), (102, 0, 1285, 738, 740, 4, 127), (63, 0, 1286, 742, 744, 5, 127), (67, 0, 1287, 746, 748, 6, 127), (70, 0, 1288, 750, 752, 7, 127), (88, 0, 1289, 754, 756, 8, 127), (123, 0, 1290, 758, 760, 9, 127), (117, 0, 258, 762, 763, 764, 128), (129, 0, 1291, 766, 768, 10, 127), (132, 0, 1292, 770, 772, 11, 127), (148, 0, 1293, 774, 776, 12, 127), (74, 0, 1294, 778, 780, 13, 127), (77, 0, 1295, 782, 784, 14, 127), (80, 0, 1296, 786, 788, 15, 127), (182, 0, 514, 790, 791, 792, 129), (186, 0, 1297, 794, 796, 16, 127), (205, 0, 1298, 798, 800, 17, 127), (201, 0, 515, 802, 803, 804, 129), (84, 0, 1299, 806, 808, 18, 127), (189, 0, 516, 810, 811, 812, 129), (192, 0, 1300, 814, 816, 19, 127), (198, 0, 1301, 818, 820, 20, 127), (195, 0, 517, 822, 823, 824, 129)]
  | 6 => [(3, 4, 0, 394, 151, 152, 0), (85, 6, 0, 862, 694, 141, 695), (88, 0, 1539, 919, 859, 860, 134), (68, 7, 0, 972, 974, 973, 143), (74, 0, 1543, 975, 976, 977, 134), (78, 5, 0, 1014, 691, 141, 692)]
  | 7 => [(3, 4, 0, 506, 151, 152, 0), (74, 0, 259, 931, 932, 933, 128), (15, 1, 3072, 1002, 661, 140, 0), (37, 0, 1795, 1003, 1005, 31, 137), (44, 0, 260, 1007, 953, 954, 128), (60, 0, 1793, 1008, 928, 929, 137), (67, 0, 518, 1009, 936, 937, 129)]
  | 8 => [(3, 4, 0, 150, 151, 152, 0), (15, 2, 1280, 155, 156, 127, 0), (22, 3, 256, 388, 162, 128, 0), (29, 3, 1536, 391, 392, 134, 0), (39, 2, 0, 477, 478, 135, 0), (46, 3, 768, 497, 498, 136, 0), (53, 3, 1792, 528, 504, 137, 0), (60, 3, 1024, 531, 532, 138, 0), (78, 0, 2050, 636, 638, 0, 126), (82, 0, 2051, 640, 642, 1, 126), (85, 0, 1281, 652, 653, 654, 127), (90, 0, 1537, 826, 827, 828, 134), (94, 0, 1, 830, 831, 832, 135), (128, 0, 2056, 842, 844, 21, 126), (136, 0, 1538, 846, 847, 848, 134), (139, 0, 2057, 850, 852, 22, 126), (143, 0, 2058, 854, 856, 23, 126), (146, 0, 1539, 858, 859, 860, 134), (155, 0, 2060, 867, 869, 24, 126), (162, 1, 2061, 871, 872, 126, 0), (166, 0, 2062, 874, 876, 25, 126), (187, 0, 1540, 882, 883, 884, 134), (212, 0, 2065, 890, 892, 26, 126), (218, 0, 2067, 898, 900, 27, 126), (227, 0, 2068, 902, 904, 28, 126), (395, 5, 0, 906, 691, 141, 692), (242, 0, 1541, 915, 916, 917, 134), (245, 1, 2072, 924, 925, 126, 0), (248, 0, 1793, 927, 928, 929, 137), (252, 0, 518, 935, 936, 937, 129), (256, 0, 260, 952, 953, 954, 128), (259, 0, 2074, 960, 962, 30, 126), (392, 0, 2, 964, 965, 966, 135), (265, 0, 769, 980, 981, 982, 136), (268, 0, 770, 1041, 985, 986, 136), (272, 0, 771, 1042, 990, 991, 136), (276, 0, 1546, 1047, 1017, 1018, 134), (279, 0, 1547, 1060, 1061, 1062, 134), (283, 0, 3, 1068, 1069, 1070, 135), (287, 0, 1794, 1080, 999, 1000, 137), (296, 0, 1025, 1093, 1094, 1095, 138), (300, 0, 1028, 1115, 1116, 1117, 138), (310, 0, 1030, 1126, 1127, 1128, 138), (322, 7, 0, 1136, 974, 973, 143), (328, 0, 1031, 1141, 1142, 1143, 138), (337, 0, 2091, 1149, 1151, 36, 126), (389, 0, 2092, 1153, 1155, 37, 126), (340, 0, 2094, 1161, 1163, 38, 126), (343, 1, 2816, 1169, 1021, 144, 0), (348, 0, 2096, 1170, 1172, 39, 126), (398, 1, 2097, 1174, 1175, 126, 0), (351, 0, 2098, 1177, 1179, 40, 126), (354, 1, 2099, 1181, 1182, 126, 0), (357, 0, 2101, 1188, 1190, 41, 126), (360, 0, 1542, 1200, 969, 970, 134), (364, 0, 2104, 1201, 1203, 42, 126), (371, 0, 2106, 1209, 1211, 43, 126), (374, 0, 2107, 1213, 1215, 44, 126), (377, 6, 0, 1217, 694, 141, 695), (382, 1, 2108, 1218, 1219, 126, 0), (386, 0, 2111, 1229, 1231, 45, 126), (402, 0, 2112, 1233, 1235, 46, 126)]
  | 9 => [(1, 4, 0, 1246, 151, 152, 0), (261, 0, 2306, 1499, 1501, 47, 139), (265, 0, 2307, 1503, 1505, 48, 139), (283, 0, 2310, 1515, 1517, 49, 139), (269, 1, 2311, 1519, 1520, 139, 0), (273, 1, 2312, 1522, 1523, 139, 0), (276, 0, 2313, 1525, 1527, 50, 139), (418, 0, 2314, 1529, 1531, 51, 139), (356, 0, 2315, 1534, 1536, 52, 139), (404, 0, 2316, 1538, 1540, 53, 139), (381, 0, 2317, 1542, 1544, 54, 139), (385, 0, 2318, 1546, 1548, 55, 139), (375, 0, 2319, 1550, 1552, 56, 139), (378, 0, 2320, 1580, 1582, 57, 139), (389, 0, 2321, 1584, 1586, 58, 139), (393, 0, 2322, 1588, 1590, 59, 139), (340, 1, 2323, 1592, 1593, 139, 0), (397, 0, 2324, 1595, 1597, 60, 139), (407, 0, 2325, 1599, 1601, 61, 139), (410, 0, 2326, 1603, 1605, 62, 139), (413, 0, 2327, 1607, 1609, 63, 139), (400, 0, 2328, 1611, 1613, 64, 139), (350, 0, 2329, 1615, 1617, 65, 139), (369, 0, 2330, 1619, 1621, 66, 139), (353, 1, 2331, 1623, 1624, 139, 0), (360, 0, 2332, 1626, 1628, 67, 139), (280, 0, 2333, 1630, 1632, 68, 139), (363, 0, 2334, 1634, 1636, 69, 139), (347, 0, 2335, 1638, 1640, 70, 139), (372, 0, 2336, 1642, 1644, 71, 139), (366, 0, 2337, 1646, 1648, 72, 139), (344, 1, 2338, 1650, 1651, 139, 0), (421, 0, 2339, 1653, 1655, 73, 139), (416, 0, 2340, 1657, 1659, 74, 139), (424, 0, 2341, 1661, 1663, 75, 139), (442, 0, 2342, 1665, 1667, 76, 139), (449, 0, 2346, 1681, 1683, 77, 139), (452, 0, 2347, 1685, 1687, 78, 139), (445, 0, 2349, 1693, 1695, 79, 139), (538, 0, 2350, 1697, 1699, 80, 139), (543, 0, 2353, 1710, 1712, 81, 139), (505, 0, 2354, 1714, 1716, 82, 139), (546, 0, 2357, 1726, 1728, 83, 139), (549, 0, 2358, 1730, 1732, 84, 139), (552, 0, 2360, 1738, 1740, 85, 139), (502, 0, 2363, 1750, 1752, 86, 139), (481, 0, 2364, 1754, 1756, 87, 139), (475, 0, 2365, 1758, 1760, 88, 139), (468, 0, 2366, 1762, 1764, 89, 139), (461, 0, 2367, 1766, 1768, 90, 139), (455, 0, 2368, 1770, 1772, 91, 139), (458, 0, 2369, 1774, 1776, 92, 139), (471, 0, 2370, 1778, 1780, 93, 139), (464, 0, 2371, 1782, 1784, 94, 139), (438, 1, 2372, 1786, 1787, 139, 0), (430, 1, 2373, 1789, 1790, 139, 0), (434, 1, 2374, 1794, 1795, 139, 0), (478, 0, 2375, 1797, 1799, 95, 139), (555, 0, 2377, 1805, 1807, 96, 139), (558, 0, 2378, 1809, 1811, 97, 139), (494, 0, 2379, 1813, 1815, 98, 139), (531, 0, 2380, 1817, 1819, 99, 139), (498, 0, 2381, 1821, 1823, 100, 139), (508, 0, 2382, 1825, 1827, 101, 139), (484, 0, 2383, 1829, 1831, 102, 139), (487, 0, 2384, 1833, 1835, 103, 139), (511, 1, 2385, 1837, 1838, 139, 0), (514, 0, 2386, 1840, 1842, 104, 139), (491, 0, 2387, 1845, 1847, 105, 139), (528, 0, 2388, 1849, 1851, 106, 139), (535, 0, 2389, 1857, 1859, 107, 139), (525, 0, 2390, 1861, 1863, 108, 139), (561, 0, 2401, 1905, 1907, 109, 139), (567, 0, 2403, 1913, 1915, 110, 139), (564, 0, 2404, 1917, 1919, 111, 139), (570, 0, 2406, 1925, 1927, 112, 139), (573, 0, 2409, 1937, 1939, 113, 139), (579, 0, 2412, 1949, 1951, 114, 139), (576, 0, 2413, 1953, 1955, 115, 139), (588, 0, 2415, 1961, 1963, 116, 139), (585, 0, 2416, 1965, 1967, 117, 139), (591, 0, 2417, 1969, 1971, 118, 139), (582, 0, 2418, 1973, 1975, 119, 139), (594, 0, 2419, 1977, 1979, 120, 139), (597, 0, 2424, 1997, 1999, 121, 139), (606, 0, 2427, 2009, 2011, 122, 139), (600, 0, 2428, 2013, 2015, 123, 139), (603, 0, 2429, 2017, 2019, 124, 139)]
  | 10 => [(9, 2, 2048, 147, 148, 126, 0), (13, 0, 2049, 632, 633, 634, 126), (18, 0, 2052, 644, 645, 646, 126), (23, 0, 2053, 648, 649, 650, 126), (28, 0, 2054, 834, 835, 836, 126), (33, 0, 2055, 838, 839, 840, 126), (37, 0, 2059, 863, 864, 865, 126), (42, 0, 2063, 878, 879, 880, 126), (47, 0, 2064, 886, 887, 888, 126), (51, 0, 2066, 894, 895, 896, 126), (55, 0, 2069, 907, 908, 909, 126), (59, 0, 2070, 911, 912, 913, 126), (63, 0, 2071, 920, 921, 922, 126), (68, 0, 2073, 956, 957, 958, 126), (72, 0, 2075, 1037, 1038, 1039, 126), (76, 0, 2076, 1043, 1044, 1045, 126), (81, 0, 2077, 1048, 1049, 1050, 126), (85, 0, 2078, 1052, 1053, 1054, 126), (89, 0, 2079, 1056, 1057, 1058, 126), (94, 0, 2080, 1064, 1065, 1066, 126), (99, 0, 2081, 1072, 1073, 1074, 126), (103, 0, 2082, 1076, 1077, 1078, 126), (107, 0, 2083, 1081, 1082, 1083, 126), (111, 0, 2084, 1085, 1086, 1087, 126), (115, 0, 2085, 1089, 1090, 1091, 126), (119, 0, 2086, 1111, 1112, 1113, 126), (123, 0, 2087, 1122, 1123, 1124, 126), (127, 0, 2088, 1132, 1133, 1134, 126), (131, 0, 2089, 1137, 1138, 1139, 126), (135, 0, 2090, 1145, 1146, 1147, 126), (139, 0, 2093, 1157, 1158, 1159, 126), (143, 0, 2095, 1165, 1166, 1167, 126), (147, 0, 2100, 1184, 1185, 1186, 126), (151, 0, 2102, 1192, 1193, 1194, 126), (155, 0, 2103, 1196, 1197, 1198, 126), (159, 0, 2105, 1205, 1206, 1207, 126), (163, 0, 2109, 1221, 1222, 1223, 126), (167, 0, 2110, 1225, 1226, 1227, 126), (171, 0, 2113, 1237, 1238, 1239, 126), (12, 2, 2304, 1243, 1244, 139, 0), (17, 0, 2305, 1495, 1496, 1497, 139), (22, 0, 2308, 1507, 1508, 1509, 139), (27, 0, 2309, 1511, 1512, 1513, 139), (32, 0, 2343, 1669, 1670, 1671, 139), (174, 0, 2344, 1673, 1674, 1675, 139), (98, 0, 2345, 1677, 1678, 1679, 139), (36, 0, 2348, 1689, 1690, 1691, 139), (41, 0, 2351, 1701, 1702, 1703, 139), (46, 0, 2352, 1706, 1707, 1708, 139), (50, 0, 2355, 1718, 1719, 1720, 139), (54, 0, 2356, 1722, 1723, 1724, 139), (58, 0, 2359, 1734, 1735, 1736, 139), (62, 0, 2361, 1742, 1743, 1744, 139), (67, 0, 2362, 1746, 1747, 1748, 139), (71, 0, 2376, 1801, 1802, 1803, 139), (75, 0, 2391, 1865, 1866, 1867, 139), (80, 0, 2392, 1869, 1870, 1871, 139), (84, 0, 2393, 1873, 1874, 1875, 139), (88, 0, 2394, 1877, 1878, 1879, 139), (93, 0, 2395, 1881, 1882, 1883, 139), (102, 0, 2396, 1885, 1886, 1887, 139), (106, 0, 2397, 1889, 1890, 1891, 139), (110, 0, 2398, 1893, 1894, 1895, 139), (114, 0, 2399, 1897, 1898, 1899, 139), (118, 0, 2400, 1901, 1902, 1903, 139), (122, 0, 2402, 1909, 1910, 1911, 139), (126, 0, 2405, 1921, 1922, 1923, 139), (130, 0, 2407, 1929, 1930, 1931, 139), (134, 0, 2408, 1933, 1934, 1935, 139), (138, 0, 2410, 1941, 1942, 1943, 139), (142, 0, 2411, 1945, 1946, 1947, 139), (146, 0, 2414, 1957, 1958, 1959, 139), (150, 0, 2420, 1981, 1982, 1983, 139), (154, 0, 2421, 1985, 1986, 1987, 139), (158, 0, 2422, 1989, 1990, 1991, 139), (162, 0, 2423, 1993, 1994, 1995, 139), (166, 0, 2425, 2001, 2002, 2003, 139), (170, 0, 2426, 2005, 2006, 2007, 139)]
  | _ => []
end
section
/-! the methods' rows are right, by program (wip/whole/mk04.py) -/
def zhas (pos : Nat) (w : Jvm.Cond) : Bool := decide (lw_tbl[pos]? = some w) && goodWord w
def zMHs : List String := ["java/lang/invoke/MethodHandle", "java/lang/invoke/VarHandle"]
def zmtC (t : zMt) : Bool := match t with
  | (ci, na, y, cc, ml, ret, pos) => decide (ci < 13) && decide (y.cls = zcn ci) && plainName y.cls && decide (y.cls ∉ zMHs) && decide ((parseMethodDescriptor y.desc).map (fun d => d.parameters.length) = some na) && decide (ml ≤ 20) && zhas pos (.code y cc ml ret)

theorem zk_0_0 : zmtC (0, 0, yX0_init, cX0_init, 2, none, 479) = true := by decide +kernel
theorem zk_0_1 : zmtC (0, 0, yX0_forget, cX0_forget, 1, none, 833) = true := by decide +kernel
theorem zk_0_2 : zmtC (0, 1, yX0_keep, cX0_keep, 3, none, 967) = true := by decide +kernel
theorem zk_0_3 : zmtC (0, 1, yX0_takeBack, cX0_takeBack, 3, (some .boolean), 1071) = true := by decide +kernel
theorem zmt0_ok : ∀ t ∈ zmt0, zmtC t = true := List.forall_mem_cons.mpr ⟨zk_0_0, List.forall_mem_cons.mpr ⟨zk_0_1, List.forall_mem_cons.mpr ⟨zk_0_2, List.forall_mem_cons.mpr ⟨zk_0_3, fun _ h => absurd h List.not_mem_nil⟩⟩⟩⟩
theorem zk_1_0 : zmtC (1, 0, yX1_init, cX1_init, 1, none, 163) = true := by decide +kernel
theorem zk_1_1 : zmtC (1, 0, yX1_empty, cX1_empty, 1, none, 659) = true := by decide +kernel
theorem zk_1_2 : zmtC (1, 1, yX1_isTaken, cX1_isTaken, 3, (some .boolean), 765) = true := by decide +kernel
theorem zk_1_3 : zmtC (1, 1, yX1_isSnorer, cX1_isSnorer, 2, (some .boolean), 934) = true := by decide +kernel
theorem zk_1_4 : zmtC (1, 1, yX1_isGhost, cX1_isGhost, 2, (some .boolean), 955) = true := by decide +kernel
theorem zmt1_ok : ∀ t ∈ zmt1, zmtC t = true := List.forall_mem_cons.mpr ⟨zk_1_0, List.forall_mem_cons.mpr ⟨zk_1_1, List.forall_mem_cons.mpr ⟨zk_1_2, List.forall_mem_cons.mpr ⟨zk_1_3, List.forall_mem_cons.mpr ⟨zk_1_4, fun _ h => absurd h List.not_mem_nil⟩⟩⟩⟩⟩
theorem zk_2_0 : zmtC (2, 0, yX2_init, cX2_init, 1, none, 169) = true := by decide +kernel
theorem zk_2_1 : zmtC (2, 0, yX2_empty, cX2_empty, 1, none, 666) = true := by decide +kernel
theorem zk_2_2 : zmtC (2, 1, yX2_beginSum, cX2_beginSum, 2, none, 793) = true := by decide +kernel
theorem zk_2_3 : zmtC (2, 1, yX2_put, cX2_put, 2, none, 805) = true := by decide +kernel
theorem zk_2_4 : zmtC (2, 0, yX2_beginTest, cX2_beginTest, 1, none, 813) = true := by decide +kernel
theorem zk_2_5 : zmtC (2, 0, yX2_close, cX2_close, 1, none, 825) = true := by decide +kernel
theorem zk_2_6 : zmtC (2, 3, yX2_first, cX2_first, 6, (some .int), 938) = true := by decide +kernel
theorem zk_2_7 : zmtC (2, 2, yX2_run, cX2_run, 6, (some .int), 942) = true := by decide +kernel
theorem zk_2_8 : zmtC (2, 3, yX2_joined, cX2_joined, 6, (some .int), 945) = true := by decide +kernel
theorem zmt2_ok : ∀ t ∈ zmt2, zmtC t = true := List.forall_mem_cons.mpr ⟨zk_2_0, List.forall_mem_cons.mpr ⟨zk_2_1, List.forall_mem_cons.mpr ⟨zk_2_2, List.forall_mem_cons.mpr ⟨zk_2_3, List.forall_mem_cons.mpr ⟨zk_2_4, List.forall_mem_cons.mpr ⟨zk_2_5, List.forall_mem_cons.mpr ⟨zk_2_6, List.forall_mem_cons.mpr ⟨zk_2_7, List.forall_mem_cons.mpr ⟨zk_2_8, fun _ h => absurd h List.not_mem_nil⟩⟩⟩⟩⟩⟩⟩⟩⟩
theorem zk_3_0 : zmtC (3, 0, yX3_init, cX3_init, 1, none, 499) = true := by decide +kernel
theorem zk_3_1 : zmtC (3, 2, yX3_minute, cX3_minute, 6, none, 983) = true := by decide +kernel
theorem zk_3_2 : zmtC (3, 3, yX3_canBegin, cX3_canBegin, 4, (some .boolean), 987) = true := by decide +kernel
theorem zk_3_3 : zmtC (3, 5, yX3_begins, cX3_begins, 12, (some .int), 992) = true := by decide +kernel
theorem zk_3_4 : zmtC (3, 1, yX3_draw, cX3_draw, 2, (some .int), 1029) = true := by decide +kernel
theorem zk_3_5 : zmtC (3, 1, yX3_drawnDream, cX3_drawnDream, 6, (some .int), 1036) = true := by decide +kernel
theorem zmt3_ok : ∀ t ∈ zmt3, zmtC t = true := List.forall_mem_cons.mpr ⟨zk_3_0, List.forall_mem_cons.mpr ⟨zk_3_1, List.forall_mem_cons.mpr ⟨zk_3_2, List.forall_mem_cons.mpr ⟨zk_3_3, List.forall_mem_cons.mpr ⟨zk_3_4, List.forall_mem_cons.mpr ⟨zk_3_5, fun _ h => absurd h List.not_mem_nil⟩⟩⟩⟩⟩⟩
theorem zk_4_0 : zmtC (4, 0, yX4_init, cX4_init, 1, none, 533) = true := by decide +kernel
theorem zk_4_1 : zmtC (4, 2, yX4_badAsItIs, cX4_badAsItIs, 3, (some .int), 1096) = true := by decide +kernel
theorem zk_4_2 : zmtC (4, 2, yX4_begin, cX4_begin, 3, none, 1100) = true := by decide +kernel
theorem zk_4_3 : zmtC (4, 1, yX4_badness, cX4_badness, 7, (some .int), 1107) = true := by decide +kernel
theorem zk_4_4 : zmtC (4, 3, yX4_findBest, cX4_findBest, 6, none, 1118) = true := by decide +kernel
theorem zk_4_5 : zmtC (4, 2, yX4_nextOrder, cX4_nextOrder, 7, (some .boolean), 1121) = true := by decide +kernel
theorem zk_4_6 : zmtC (4, 3, yX4_findExchanges, cX4_findExchanges, 11, none, 1129) = true := by decide +kernel
theorem zk_4_7 : zmtC (4, 3, yX4_findTwo, cX4_findTwo, 8, none, 1144) = true := by decide +kernel
theorem zmt4_ok : ∀ t ∈ zmt4, zmtC t = true := List.forall_mem_cons.mpr ⟨zk_4_0, List.forall_mem_cons.mpr ⟨zk_4_1, List.forall_mem_cons.mpr ⟨zk_4_2, List.forall_mem_cons.mpr ⟨zk_4_3, List.forall_mem_cons.mpr ⟨zk_4_4, List.forall_mem_cons.mpr ⟨zk_4_5, List.forall_mem_cons.mpr ⟨zk_4_6, List.forall_mem_cons.mpr ⟨zk_4_7, fun _ h => absurd h List.not_mem_nil⟩⟩⟩⟩⟩⟩⟩⟩
theorem zk_5_0 : zmtC (5, 0, yX5_init, cX5_init, 5, none, 157) = true := by decide +kernel
theorem zk_5_1 : zmtC (5, 2, yX5_read, cX5_read, 5, (some .boolean), 655) = true := by decide +kernel
theorem zk_5_2 : zmtC (5, 2, yX5_scan, cX5_scan, 9, none, 670) = true := by decide +kernel
theorem zk_5_3 : zmtC (5, 1, yX5_kindOf, cX5_kindOf, 1, (some .int), 673) = true := by decide +kernel
theorem zk_5_4 : zmtC (5, 3, yX5_lengthen, cX5_lengthen, 6, (some .boolean), 737) = true := by decide +kernel
theorem zk_5_5 : zmtC (5, 3, yX5_add, cX5_add, 4, none, 741) = true := by decide +kernel
theorem zk_5_6 : zmtC (5, 1, yX5_fails, cX5_fails, 3, (some .boolean), 745) = true := by decide +kernel
theorem zk_5_7 : zmtC (5, 0, yX5_own, cX5_own, 2, (some .int), 749) = true := by decide +kernel
theorem zk_5_8 : zmtC (5, 0, yX5_readBoy, cX5_readBoy, 2, (some .boolean), 753) = true := by decide +kernel
theorem zk_5_9 : zmtC (5, 0, yX5_step, cX5_step, 1, none, 757) = true := by decide +kernel
theorem zk_5_10 : zmtC (5, 0, yX5_needsName, cX5_needsName, 1, (some .boolean), 761) = true := by decide +kernel
theorem zk_5_11 : zmtC (5, 1, yX5_needsOwn, cX5_needsOwn, 2, (some .boolean), 769) = true := by decide +kernel
theorem zk_5_12 : zmtC (5, 2, yX5_needsNumber, cX5_needsNumber, 3, (some .boolean), 773) = true := by decide +kernel
theorem zk_5_13 : zmtC (5, 1, yX5_readMarks, cX5_readMarks, 5, (some .boolean), 777) = true := by decide +kernel
theorem zk_5_14 : zmtC (5, 0, yX5_readSlack, cX5_readSlack, 2, (some .boolean), 781) = true := by decide +kernel
theorem zk_5_15 : zmtC (5, 0, yX5_readDream, cX5_readDream, 2, (some .boolean), 785) = true := by decide +kernel
theorem zk_5_16 : zmtC (5, 1, yX5_readLaw, cX5_readLaw, 2, (some .boolean), 789) = true := by decide +kernel
theorem zk_5_17 : zmtC (5, 1, yX5_readSum, cX5_readSum, 6, (some .boolean), 797) = true := by decide +kernel
theorem zk_5_18 : zmtC (5, 1, yX5_readPart, cX5_readPart, 4, (some .boolean), 801) = true := by decide +kernel
theorem zk_5_19 : zmtC (5, 1, yX5_isSign, cX5_isSign, 2, (some .boolean), 809) = true := by decide +kernel
theorem zk_5_20 : zmtC (5, 1, yX5_readTest, cX5_readTest, 4, (some .boolean), 817) = true := by decide +kernel
theorem zk_5_21 : zmtC (5, 1, yX5_readFact, cX5_readFact, 4, (some .boolean), 821) = true := by decide +kernel
theorem zmt5_ok : ∀ t ∈ zmt5, zmtC t = true := List.forall_mem_cons.mpr ⟨zk_5_0, List.forall_mem_cons.mpr ⟨zk_5_1, List.forall_mem_cons.mpr ⟨zk_5_2, List.forall_mem_cons.mpr ⟨zk_5_3, List.forall_mem_cons.mpr ⟨zk_5_4, List.forall_mem_cons.mpr ⟨zk_5_5, List.forall_mem_cons.mpr ⟨zk_5_6, List.forall_mem_cons.mpr ⟨zk_5_7, List.forall_mem_cons.mpr ⟨zk_5_8, List.forall_mem_cons.mpr ⟨zk_5_9, List.forall_mem_cons.mpr ⟨zk_5_10, List.forall_mem_cons.mpr ⟨zk_5_11, List.forall_mem_cons.mpr ⟨zk_5_12, List.forall_mem_cons.mpr ⟨zk_5_13, List.forall_mem_cons.mpr ⟨zk_5_14, List.forall_mem_cons.mpr ⟨zk_5_15, List.forall_mem_cons.mpr ⟨zk_5_16, List.forall_mem_cons.mpr ⟨zk_5_17, List.forall_mem_cons.mpr ⟨zk_5_18, List.forall_mem_cons.mpr ⟨zk_5_19, List.forall_mem_cons.mpr ⟨zk_5_20, List.forall_mem_cons.mpr ⟨zk_5_21, fun _ h => absurd h List.not_mem_nil⟩⟩⟩⟩⟩⟩⟩⟩⟩⟩⟩⟩⟩⟩⟩⟩⟩⟩⟩⟩⟩⟩
theorem zk_6_0 : zmtC (6, 0, yX6_init, cX6_init, 1, none, 393) = true := by decide +kernel
theorem zk_6_1 : zmtC (6, 1, yX6_begin, cX6_begin, 3, none, 829) = true := by decide +kernel
theorem zk_6_2 : zmtC (6, 0, yX6_awake, cX6_awake, 3, (some .int), 849) = true := by decide +kernel
theorem zk_6_3 : zmtC (6, 0, yX6_told, cX6_told, 1, (some .int), 861) = true := by decide +kernel
theorem zk_6_4 : zmtC (6, 1, yX6_placeOf, cX6_placeOf, 3, (some .int), 885) = true := by decide +kernel
theorem zk_6_5 : zmtC (6, 1, yX6_toldTug, cX6_toldTug, 2, (some .int), 918) = true := by decide +kernel
theorem zk_6_6 : zmtC (6, 1, yX6_take, cX6_take, 2, none, 971) = true := by decide +kernel
theorem zk_6_7 : zmtC (6, 1, yX6_takeKnots, cX6_takeKnots, 2, none, 978) = true := by decide +kernel
theorem zk_6_8 : zmtC (6, 4, yX6_tell, cX6_tell, 5, none, 996) = true := by decide +kernel
theorem zk_6_9 : zmtC (6, 2, yX6_feelsForce, cX6_feelsForce, 3, none, 1013) = true := by decide +kernel
theorem zk_6_10 : zmtC (6, 1, yX6_getsUp, cX6_getsUp, 2, none, 1019) = true := by decide +kernel
theorem zk_6_11 : zmtC (6, 2, yX6_change, cX6_change, 4, none, 1063) = true := by decide +kernel
theorem zmt6_ok : ∀ t ∈ zmt6, zmtC t = true := List.forall_mem_cons.mpr ⟨zk_6_0, List.forall_mem_cons.mpr ⟨zk_6_1, List.forall_mem_cons.mpr ⟨zk_6_2, List.forall_mem_cons.mpr ⟨zk_6_3, List.forall_mem_cons.mpr ⟨zk_6_4, List.forall_mem_cons.mpr ⟨zk_6_5, List.forall_mem_cons.mpr ⟨zk_6_6, List.forall_mem_cons.mpr ⟨zk_6_7, List.forall_mem_cons.mpr ⟨zk_6_8, List.forall_mem_cons.mpr ⟨zk_6_9, List.forall_mem_cons.mpr ⟨zk_6_10, List.forall_mem_cons.mpr ⟨zk_6_11, fun _ h => absurd h List.not_mem_nil⟩⟩⟩⟩⟩⟩⟩⟩⟩⟩⟩⟩
theorem zk_7_0 : zmtC (7, 0, yX7_init, cX7_init, 1, none, 505) = true := by decide +kernel
theorem zk_7_1 : zmtC (7, 4, yX7_look, cX7_look, 8, none, 930) = true := by decide +kernel
theorem zk_7_2 : zmtC (7, 4, yX7_goes, cX7_goes, 7, none, 1001) = true := by decide +kernel
theorem zk_7_3 : zmtC (7, 4, yX7_passedOn, cX7_passedOn, 6, (some .int), 1006) = true := by decide +kernel
theorem zmt7_ok : ∀ t ∈ zmt7, zmtC t = true := List.forall_mem_cons.mpr ⟨zk_7_0, List.forall_mem_cons.mpr ⟨zk_7_1, List.forall_mem_cons.mpr ⟨zk_7_2, List.forall_mem_cons.mpr ⟨zk_7_3, fun _ h => absurd h List.not_mem_nil⟩⟩⟩⟩
theorem zk_8_0 : zmtC (8, 0, yX8_init, cX8_init, 1, none, 149) = true := by decide +kernel
theorem zk_8_1 : zmtC (8, 5, yX8_feed, cX8_feed, 6, (some .int), 635) = true := by decide +kernel
theorem zk_8_2 : zmtC (8, 1, yX8_refuse, cX8_refuse, 2, none, 639) = true := by decide +kernel
theorem zk_8_3 : zmtC (8, 1, yX8_putOnTape, cX8_putOnTape, 3, none, 643) = true := by decide +kernel
theorem zk_8_4 : zmtC (8, 1, yX8_end, cX8_end, 2, (some .boolean), 647) = true := by decide +kernel
theorem zk_8_5 : zmtC (8, 0, yX8_dorm, cX8_dorm, 3, (some .int), 651) = true := by decide +kernel
theorem zk_8_6 : zmtC (8, 1, yX8_fault, cX8_fault, 2, (some .int), 837) = true := by decide +kernel
theorem zk_8_7 : zmtC (8, 1, yX8_has, cX8_has, 2, (some .int), 841) = true := by decide +kernel
theorem zk_8_8 : zmtC (8, 0, yX8_tiedKnots, cX8_tiedKnots, 3, (some .int), 845) = true := by decide +kernel
theorem zk_8_9 : zmtC (8, 1, yX8_dreamers, cX8_dreamers, 5, (some .int), 853) = true := by decide +kernel
theorem zk_8_10 : zmtC (8, 0, yX8_caughtOnes, cX8_caughtOnes, 3, (some .int), 857) = true := by decide +kernel
theorem zk_8_11 : zmtC (8, 3, yX8_letter, cX8_letter, 4, (some .int), 866) = true := by decide +kernel
theorem zk_8_12 : zmtC (8, 1, yX8_isBoy, cX8_isBoy, 2, (some .boolean), 870) = true := by decide +kernel
theorem zk_8_13 : zmtC (8, 2, yX8_letterOf, cX8_letterOf, 2, (some .int), 873) = true := by decide +kernel
theorem zk_8_14 : zmtC (8, 1, yX8_isDream, cX8_isDream, 2, (some .boolean), 877) = true := by decide +kernel
theorem zk_8_15 : zmtC (8, 2, yX8_boy, cX8_boy, 3, (some .int), 881) = true := by decide +kernel
theorem zk_8_16 : zmtC (8, 1, yX8_at, cX8_at, 2, (some .int), 889) = true := by decide +kernel
theorem zk_8_17 : zmtC (8, 1, yX8_isPlace, cX8_isPlace, 2, (some .boolean), 893) = true := by decide +kernel
theorem zk_8_18 : zmtC (8, 2, yX8_knot, cX8_knot, 3, (some .int), 897) = true := by decide +kernel
theorem zk_8_19 : zmtC (8, 1, yX8_isKnot, cX8_isKnot, 2, (some .boolean), 901) = true := by decide +kernel
theorem zk_8_20 : zmtC (8, 1, yX8_strain, cX8_strain, 7, (some .int), 905) = true := by decide +kernel
theorem zk_8_21 : zmtC (8, 2, yX8_dream, cX8_dream, 3, (some .int), 910) = true := by decide +kernel
theorem zk_8_22 : zmtC (8, 2, yX8_tug, cX8_tug, 4, (some .int), 914) = true := by decide +kernel
theorem zk_8_23 : zmtC (8, 3, yX8_law, cX8_law, 5, (some .int), 923) = true := by decide +kernel
theorem zk_8_24 : zmtC (8, 1, yX8_isForce, cX8_isForce, 1, (some .boolean), 926) = true := by decide +kernel
theorem zk_8_25 : zmtC (8, 1, yX8_go, cX8_go, 4, (some .int), 959) = true := by decide +kernel
theorem zk_8_26 : zmtC (8, 0, yX8_startAct, cX8_startAct, 1, none, 963) = true := by decide +kernel
theorem zk_8_27 : zmtC (8, 2, yX8_dreams, cX8_dreams, 3, (some .int), 1040) = true := by decide +kernel
theorem zk_8_28 : zmtC (8, 2, yX8_wake, cX8_wake, 3, (some .boolean), 1046) = true := by decide +kernel
theorem zk_8_29 : zmtC (8, 2, yX8_tie, cX8_tie, 3, (some .boolean), 1051) = true := by decide +kernel
theorem zk_8_30 : zmtC (8, 2, yX8_slack, cX8_slack, 4, (some .int), 1055) = true := by decide +kernel
theorem zk_8_31 : zmtC (8, 2, yX8_swap, cX8_swap, 3, (some .boolean), 1059) = true := by decide +kernel
theorem zk_8_32 : zmtC (8, 0, yX8_undo, cX8_undo, 1, (some .boolean), 1067) = true := by decide +kernel
theorem zk_8_33 : zmtC (8, 1, yX8_seed, cX8_seed, 2, (some .boolean), 1075) = true := by decide +kernel
theorem zk_8_34 : zmtC (8, 3, yX8_feels, cX8_feels, 4, (some .int), 1079) = true := by decide +kernel
theorem zk_8_35 : zmtC (8, 2, yX8_wakes, cX8_wakes, 3, (some .int), 1084) = true := by decide +kernel
theorem zk_8_36 : zmtC (8, 2, yX8_least, cX8_least, 5, (some .int), 1088) = true := by decide +kernel
theorem zk_8_37 : zmtC (8, 0, yX8_bad, cX8_bad, 1, (some .int), 1092) = true := by decide +kernel
theorem zk_8_38 : zmtC (8, 1, yX8_best, cX8_best, 2, (some .int), 1114) = true := by decide +kernel
theorem zk_8_39 : zmtC (8, 1, yX8_exchange, cX8_exchange, 3, (some .int), 1125) = true := by decide +kernel
theorem zk_8_40 : zmtC (8, 0, yX8_lay, cX8_lay, 1, (some .int), 1135) = true := by decide +kernel
theorem zk_8_41 : zmtC (8, 1, yX8_two, cX8_two, 2, (some .int), 1140) = true := by decide +kernel
theorem zk_8_42 : zmtC (8, 0, yX8_hear, cX8_hear, 3, (some .boolean), 1148) = true := by decide +kernel
theorem zk_8_43 : zmtC (8, 1, yX8_pairOnTape, cX8_pairOnTape, 2, (some .int), 1152) = true := by decide +kernel
theorem zk_8_44 : zmtC (8, 1, yX8_onTape, cX8_onTape, 2, (some .int), 1156) = true := by decide +kernel
theorem zk_8_45 : zmtC (8, 2, yX8_pulled, cX8_pulled, 6, (some .int), 1160) = true := by decide +kernel
theorem zk_8_46 : zmtC (8, 2, yX8_oddsOfHaving, cX8_oddsOfHaving, 4, (some .int), 1164) = true := by decide +kernel
theorem zk_8_47 : zmtC (8, 2, yX8_cut, cX8_cut, 7, (some .int), 1168) = true := by decide +kernel
theorem zk_8_48 : zmtC (8, 1, yX8_areTied, cX8_areTied, 3, (some .boolean), 1173) = true := by decide +kernel
theorem zk_8_49 : zmtC (8, 2, yX8_inSet, cX8_inSet, 2, (some .boolean), 1176) = true := by decide +kernel
theorem zk_8_50 : zmtC (8, 1, yX8_heaviestPiece, cX8_heaviestPiece, 6, (some .int), 1180) = true := by decide +kernel
theorem zk_8_51 : zmtC (8, 2, yX8_knotOfSet, cX8_knotOfSet, 4, (some .int), 1183) = true := by decide +kernel
theorem zk_8_52 : zmtC (8, 1, yX8_walk, cX8_walk, 2, (some .int), 1187) = true := by decide +kernel
theorem zk_8_53 : zmtC (8, 2, yX8_takenBy, cX8_takenBy, 8, (some .int), 1191) = true := by decide +kernel
theorem zk_8_54 : zmtC (8, 2, yX8_beds, cX8_beds, 8, (some .int), 1195) = true := by decide +kernel
theorem zk_8_55 : zmtC (8, 3, yX8_nights, cX8_nights, 9, (some .int), 1199) = true := by decide +kernel
theorem zk_8_56 : zmtC (8, 0, yX8_allAwake, cX8_allAwake, 2, (some .boolean), 1204) = true := by decide +kernel
theorem zk_8_57 : zmtC (8, 0, yX8_image, cX8_image, 3, (some .int), 1208) = true := by decide +kernel
theorem zk_8_58 : zmtC (8, 1, yX8_putPair, cX8_putPair, 2, none, 1212) = true := by decide +kernel
theorem zk_8_59 : zmtC (8, 1, yX8_putOctet, cX8_putOctet, 2, none, 1216) = true := by decide +kernel
theorem zk_8_60 : zmtC (8, 2, yX8_sealOf, cX8_sealOf, 4, (some .int), 1220) = true := by decide +kernel
theorem zk_8_61 : zmtC (8, 1, yX8_octet, cX8_octet, 2, (some .int), 1224) = true := by decide +kernel
theorem zk_8_62 : zmtC (8, 0, yX8_on, cX8_on, 5, (some .boolean), 1228) = true := by decide +kernel
theorem zk_8_63 : zmtC (8, 1, yX8_isImage, cX8_isImage, 7, (some .boolean), 1232) = true := by decide +kernel
theorem zk_8_64 : zmtC (8, 2, yX8_isImageOfBoy, cX8_isImageOfBoy, 8, (some .boolean), 1236) = true := by decide +kernel
theorem zk_8_65 : zmtC (8, 1, yX8_status, cX8_status, 2, (some .int), 1240) = true := by decide +kernel
theorem zmt8_ok : ∀ t ∈ zmt8, zmtC t = true := List.forall_mem_cons.mpr ⟨zk_8_0, List.forall_mem_cons.mpr ⟨zk_8_1, List.forall_mem_cons.mpr ⟨zk_8_2, List.forall_mem_cons.mpr ⟨zk_8_3, List.forall_mem_cons.mpr ⟨zk_8_4, List.forall_mem_cons.mpr ⟨zk_8_5, List.forall_mem_cons.mpr ⟨zk_8_6, List.forall_mem_cons.mpr ⟨zk_8_7, List.forall_mem_cons.mpr ⟨zk_8_8, List.forall_mem_cons.mpr ⟨zk_8_9, List.forall_mem_cons.mpr ⟨zk_8_10, List.forall_mem_cons.mpr ⟨zk_8_11, List.forall_mem_cons.mpr ⟨zk_8_12, List.forall_mem_cons.mpr ⟨zk_8_13, List.forall_mem_cons.mpr ⟨zk_8_14, List.forall_mem_cons.mpr ⟨zk_8_15, List.forall_mem_cons.mpr ⟨zk_8_16, List.forall_mem_cons.mpr ⟨zk_8_17, List.forall_mem_cons.mpr ⟨zk_8_18, List.forall_mem_cons.mpr ⟨zk_8_19, List.forall_mem_cons.mpr ⟨zk_8_20, List.forall_mem_cons.mpr ⟨zk_8_21, List.forall_mem_cons.mpr ⟨zk_8_22, List.forall_mem_cons.mpr ⟨zk_8_23, List.forall_mem_cons.mpr ⟨zk_8_24, List.forall_mem_cons.mpr ⟨zk_8_25, List.forall_mem_cons.mpr ⟨zk_8_26, List.forall_mem_cons.mpr ⟨zk_8_27, List.forall_mem_cons.mpr ⟨zk_8_28, List.forall_mem_cons.mpr ⟨zk_8_29, List.forall_mem_cons.mpr ⟨zk_8_30, List.forall_mem_cons.mpr ⟨zk_8_31, List.forall_mem_cons.mpr ⟨zk_8_32, List.forall_mem_cons.mpr ⟨zk_8_33, List.forall_mem_cons.mpr ⟨zk_8_34, List.forall_mem_cons.mpr ⟨zk_8_35, List.forall_mem_cons.mpr ⟨zk_8_36, List.forall_mem_cons.mpr ⟨zk_8_37, List.forall_mem_cons.mpr ⟨zk_8_38, List.forall_mem_cons.mpr ⟨zk_8_39, List.forall_mem_cons.mpr ⟨zk_8_40, List.forall_mem_cons.mpr ⟨zk_8_41, List.forall_mem_cons.mpr ⟨zk_8_42, List.forall_mem_cons.mpr ⟨zk_8_43, List.forall_mem_cons.mpr ⟨zk_8_44, List.forall_mem_cons.mpr ⟨zk_8_45, List.forall_mem_cons.mpr ⟨zk_8_46, List.forall_mem_cons.mpr ⟨zk_8_47, List.forall_mem_cons.mpr ⟨zk_8_48, List.forall_mem_cons.mpr ⟨zk_8_49, List.forall_mem_cons.mpr ⟨zk_8_50, List.forall_mem_cons.mpr ⟨zk_8_51, List.forall_mem_cons.mpr ⟨zk_8_52, List.forall_mem_cons.mpr ⟨zk_8_53, List.forall_mem_cons.mpr ⟨zk_8_54, List.forall_mem_cons.mpr ⟨zk_8_55, List.forall_mem_cons.mpr ⟨zk_8_56, List.forall_mem_cons.mpr ⟨zk_8_57, List.forall_mem_cons.mpr ⟨zk_8_58, List.forall_mem_cons.mpr ⟨zk_8_59, List.forall_mem_cons.mpr ⟨zk_8_60, List.forall_mem_cons.mpr ⟨zk_8_61, List.forall_mem_cons.mpr ⟨zk_8_62, List.forall_mem_cons.mpr ⟨zk_8_63, List.forall_mem_cons.mpr ⟨zk_8_64, List.forall_mem_cons.mpr ⟨zk_8_65, fun _ h => absurd h List.not_mem_nil⟩⟩⟩⟩⟩⟩⟩⟩⟩⟩⟩⟩⟩⟩⟩⟩⟩⟩⟩⟩⟩⟩⟩⟩⟩⟩⟩⟩⟩⟩⟩⟩⟩⟩⟩⟩⟩⟩⟩⟩⟩⟩⟩⟩⟩⟩⟩⟩⟩⟩⟩⟩⟩⟩⟩⟩⟩⟩⟩⟩⟩⟩⟩⟩⟩⟩
theorem zk_11_0 : zmtC (11, 1, yJ6_bitCount_0f7a4, cJ6_bitCount_0f7a4, 1, (some .int), 1022) = true := by decide +kernel
theorem zmt11_ok : ∀ t ∈ zmt11, zmtC t = true := List.forall_mem_cons.mpr ⟨zk_11_0, fun _ h => absurd h List.not_mem_nil⟩
theorem zk_12_0 : zmtC (12, 2, yJ7_fill_53178, cJ7_fill_53178, 4, none, 662) = true := by decide +kernel
theorem zmt12_ok : ∀ t ∈ zmt12, zmtC t = true := List.forall_mem_cons.mpr ⟨zk_12_0, fun _ h => absurd h List.not_mem_nil⟩
end
section
theorem zk_9_0 : zmtC (9, 0, yX9_init, cX9_init, 1, none, 1245) = true := by decide +kernel
theorem zk_9_1 : zmtC (9, 5, yX9_feed, cX9_feed, 6, (some .int), 1498) = true := by decide +kernel
theorem zk_9_2 : zmtC (9, 1, yX9_refuses, cX9_refuses, 2, (some .int), 1502) = true := by decide +kernel
theorem zk_9_3 : zmtC (9, 1, yX9_put, cX9_put, 3, none, 1506) = true := by decide +kernel
theorem zk_9_4 : zmtC (9, 1, yX9_end, cX9_end, 2, (some .boolean), 1510) = true := by decide +kernel
theorem zk_9_5 : zmtC (9, 0, yX9_dorm, cX9_dorm, 2, (some .int), 1514) = true := by decide +kernel
theorem zk_9_6 : zmtC (9, 0, yX9_ahead, cX9_ahead, 6, none, 1518) = true := by decide +kernel
theorem zk_9_7 : zmtC (9, 1, yX9_isLetter, cX9_isLetter, 1, (some .boolean), 1521) = true := by decide +kernel
theorem zk_9_8 : zmtC (9, 1, yX9_isDigit, cX9_isDigit, 1, (some .boolean), 1524) = true := by decide +kernel
theorem zk_9_9 : zmtC (9, 2, yX9_blame, cX9_blame, 3, none, 1528) = true := by decide +kernel
theorem zk_9_10 : zmtC (9, 0, yX9_statement, cX9_statement, 1, none, 1532) = true := by decide +kernel
theorem zk_9_11 : zmtC (9, 1, yX9_isWord, cX9_isWord, 3, (some .boolean), 1537) = true := by decide +kernel
theorem zk_9_12 : zmtC (9, 0, yX9_boying, cX9_boying, 2, none, 1541) = true := by decide +kernel
theorem zk_9_13 : zmtC (9, 1, yX9_counts, cX9_counts, 2, (some .boolean), 1545) = true := by decide +kernel
theorem zk_9_14 : zmtC (9, 0, yX9_fresh, cX9_fresh, 3, (some .long), 1549) = true := by decide +kernel
theorem zk_9_15 : zmtC (9, 1, yX9_isOwn, cX9_isOwn, 3, (some .boolean), 1553) = true := by decide +kernel
theorem zk_9_16 : zmtC (9, 1, yX9_isThere, cX9_isThere, 4, (some .boolean), 1583) = true := by decide +kernel
theorem zk_9_17 : zmtC (9, 1, yX9_must_, cX9_must_, 3, none, 1587) = true := by decide +kernel
theorem zk_9_18 : zmtC (9, 2, yX9_number, cX9_number, 4, (some .int), 1591) = true := by decide +kernel
theorem zk_9_19 : zmtC (9, 3, yX9_is, cX9_is, 3, (some .boolean), 1594) = true := by decide +kernel
theorem zk_9_20 : zmtC (9, 1, yX9_marking, cX9_marking, 3, none, 1598) = true := by decide +kernel
theorem zk_9_21 : zmtC (9, 0, yX9_slacking, cX9_slacking, 3, none, 1602) = true := by decide +kernel
theorem zk_9_22 : zmtC (9, 0, yX9_dreaming, cX9_dreaming, 2, none, 1606) = true := by decide +kernel
theorem zk_9_23 : zmtC (9, 1, yX9_lawing, cX9_lawing, 3, none, 1610) = true := by decide +kernel
theorem zk_9_24 : zmtC (9, 1, yX9_reads, cX9_reads, 3, none, 1614) = true := by decide +kernel
theorem zk_9_25 : zmtC (9, 1, yX9_pushes, cX9_pushes, 2, none, 1618) = true := by decide +kernel
theorem zk_9_26 : zmtC (9, 0, yX9_operand, cX9_operand, 4, (some .boolean), 1622) = true := by decide +kernel
theorem zk_9_27 : zmtC (9, 1, yX9_isTest, cX9_isTest, 1, (some .boolean), 1625) = true := by decide +kernel
theorem zk_9_28 : zmtC (9, 1, yX9_holdsBack, cX9_holdsBack, 2, none, 1629) = true := by decide +kernel
theorem zk_9_29 : zmtC (9, 1, yX9_isSign, cX9_isSign, 2, (some .boolean), 1633) = true := by decide +kernel
theorem zk_9_30 : zmtC (9, 1, yX9_opens, cX9_opens, 2, none, 1637) = true := by decide +kernel
theorem zk_9_31 : zmtC (9, 2, yX9_add, cX9_add, 3, none, 1641) = true := by decide +kernel
theorem zk_9_32 : zmtC (9, 0, yX9_goesOn, cX9_goesOn, 5, (some .boolean), 1645) = true := by decide +kernel
theorem zk_9_33 : zmtC (9, 1, yX9_joins, cX9_joins, 2, none, 1649) = true := by decide +kernel
theorem zk_9_34 : zmtC (9, 1, yX9_rank, cX9_rank, 1, (some .int), 1652) = true := by decide +kernel
theorem zk_9_35 : zmtC (9, 1, yX9_ends, cX9_ends, 3, none, 1656) = true := by decide +kernel
theorem zk_9_36 : zmtC (9, 1, yX9_must, cX9_must, 2, none, 1660) = true := by decide +kernel
theorem zk_9_37 : zmtC (9, 0, yX9_begins, cX9_begins, 2, none, 1664) = true := by decide +kernel
theorem zk_9_38 : zmtC (9, 1, yX9_clears, cX9_clears, 2, none, 1668) = true := by decide +kernel
theorem zk_9_39 : zmtC (9, 1, yX9_fault, cX9_fault, 2, (some .int), 1672) = true := by decide +kernel
theorem zk_9_40 : zmtC (9, 1, yX9_status, cX9_status, 2, (some .int), 1676) = true := by decide +kernel
theorem zk_9_41 : zmtC (9, 0, yX9_undo, cX9_undo, 1, (some .boolean), 1680) = true := by decide +kernel
theorem zk_9_42 : zmtC (9, 1, yX9_ring, cX9_ring, 2, (some .int), 1684) = true := by decide +kernel
theorem zk_9_43 : zmtC (9, 2, yX9_copies, cX9_copies, 6, none, 1688) = true := by decide +kernel
theorem zk_9_44 : zmtC (9, 1, yX9_has, cX9_has, 4, (some .int), 1692) = true := by decide +kernel
theorem zk_9_45 : zmtC (9, 0, yX9_many, cX9_many, 1, (some .int), 1696) = true := by decide +kernel
theorem zk_9_46 : zmtC (9, 0, yX9_pieces, cX9_pieces, 3, (some .int), 1700) = true := by decide +kernel
theorem zk_9_47 : zmtC (9, 3, yX9_letter, cX9_letter, 9, (some .int), 1704) = true := by decide +kernel
theorem zk_9_48 : zmtC (9, 2, yX9_boy, cX9_boy, 3, (some .int), 1709) = true := by decide +kernel
theorem zk_9_49 : zmtC (9, 1, yX9_isBoy, cX9_isBoy, 2, (some .boolean), 1713) = true := by decide +kernel
theorem zk_9_50 : zmtC (9, 2, yX9_placeOf, cX9_placeOf, 4, (some .int), 1717) = true := by decide +kernel
theorem zk_9_51 : zmtC (9, 1, yX9_at, cX9_at, 2, (some .int), 1721) = true := by decide +kernel
theorem zk_9_52 : zmtC (9, 2, yX9_knot, cX9_knot, 3, (some .int), 1725) = true := by decide +kernel
theorem zk_9_53 : zmtC (9, 1, yX9_isKnot, cX9_isKnot, 2, (some .boolean), 1729) = true := by decide +kernel
theorem zk_9_54 : zmtC (9, 1, yX9_strain, cX9_strain, 6, (some .int), 1733) = true := by decide +kernel
theorem zk_9_55 : zmtC (9, 2, yX9_dream, cX9_dream, 5, (some .int), 1737) = true := by decide +kernel
theorem zk_9_56 : zmtC (9, 1, yX9_isDream, cX9_isDream, 2, (some .boolean), 1741) = true := by decide +kernel
theorem zk_9_57 : zmtC (9, 2, yX9_tug, cX9_tug, 3, (some .int), 1745) = true := by decide +kernel
theorem zk_9_58 : zmtC (9, 3, yX9_law, cX9_law, 4, (some .int), 1749) = true := by decide +kernel
theorem zk_9_59 : zmtC (9, 1, yX9_rowNow, cX9_rowNow, 3, none, 1753) = true := by decide +kernel
theorem zk_9_60 : zmtC (9, 2, yX9_passedOf, cX9_passedOf, 4, (some .int), 1757) = true := by decide +kernel
theorem zk_9_61 : zmtC (9, 1, yX9_isGhost, cX9_isGhost, 2, (some .boolean), 1761) = true := by decide +kernel
theorem zk_9_62 : zmtC (9, 2, yX9_meets, cX9_meets, 4, none, 1765) = true := by decide +kernel
theorem zk_9_63 : zmtC (9, 1, yX9_beside, cX9_beside, 3, (some .int), 1769) = true := by decide +kernel
theorem zk_9_64 : zmtC (9, 1, yX9_isTied, cX9_isTied, 2, (some .boolean), 1773) = true := by decide +kernel
theorem zk_9_65 : zmtC (9, 1, yX9_snores, cX9_snores, 2, (some .boolean), 1777) = true := by decide +kernel
theorem zk_9_66 : zmtC (9, 3, yX9_lawOf, cX9_lawOf, 7, (some .int), 1781) = true := by decide +kernel
theorem zk_9_67 : zmtC (9, 2, yX9_reckons, cX9_reckons, 6, (some .long), 1785) = true := by decide +kernel
theorem zk_9_68 : zmtC (9, 3, yX9_made, cX9_made, 5, (some .long), 1788) = true := by decide +kernel
theorem zk_9_69 : zmtC (9, 1, yX9_bounded, cX9_bounded, 2, (some .long), 1791) = true := by decide +kernel
theorem zk_9_70 : zmtC (9, 2, yX9_over, cX9_over, 6, (some .long), 1796) = true := by decide +kernel
theorem zk_9_71 : zmtC (9, 2, yX9_deepOf, cX9_deepOf, 3, (some .int), 1800) = true := by decide +kernel
theorem zk_9_72 : zmtC (9, 1, yX9_go, cX9_go, 3, (some .int), 1804) = true := by decide +kernel
theorem zk_9_73 : zmtC (9, 0, yX9_keeps, cX9_keeps, 1, none, 1808) = true := by decide +kernel
theorem zk_9_74 : zmtC (9, 1, yX9_minuteGoes, cX9_minuteGoes, 7, none, 1812) = true := by decide +kernel
theorem zk_9_75 : zmtC (9, 2, yX9_canDream, cX9_canDream, 3, (some .boolean), 1816) = true := by decide +kernel
theorem zk_9_76 : zmtC (9, 5, yX9_begin, cX9_begin, 9, (some .int), 1820) = true := by decide +kernel
theorem zk_9_77 : zmtC (9, 5, yX9_tells, cX9_tells, 7, none, 1824) = true := by decide +kernel
theorem zk_9_78 : zmtC (9, 2, yX9_tugs, cX9_tugs, 5, none, 1828) = true := by decide +kernel
theorem zk_9_79 : zmtC (9, 1, yX9_slackAt, cX9_slackAt, 2, (some .int), 1832) = true := by decide +kernel
theorem zk_9_80 : zmtC (9, 2, yX9_comes, cX9_comes, 4, (some .int), 1836) = true := by decide +kernel
theorem zk_9_81 : zmtC (9, 1, yX9_bits, cX9_bits, 3, (some .int), 1839) = true := by decide +kernel
theorem zk_9_82 : zmtC (9, 5, yX9_isFelt, cX9_isFelt, 8, none, 1843) = true := by decide +kernel
theorem zk_9_83 : zmtC (9, 2, yX9_wakesUp, cX9_wakesUp, 3, none, 1848) = true := by decide +kernel
theorem zk_9_84 : zmtC (9, 1, yX9_draw, cX9_draw, 2, (some .int), 1852) = true := by decide +kernel
theorem zk_9_85 : zmtC (9, 0, yX9_drawn, cX9_drawn, 3, (some .int), 1860) = true := by decide +kernel
theorem zk_9_86 : zmtC (9, 0, yX9_oddsAll, cX9_oddsAll, 3, (some .int), 1864) = true := by decide +kernel
theorem zk_9_87 : zmtC (9, 2, yX9_dreams, cX9_dreams, 3, (some .int), 1868) = true := by decide +kernel
theorem zk_9_88 : zmtC (9, 2, yX9_wake, cX9_wake, 3, (some .boolean), 1872) = true := by decide +kernel
theorem zk_9_89 : zmtC (9, 2, yX9_tie, cX9_tie, 3, (some .boolean), 1876) = true := by decide +kernel
theorem zk_9_90 : zmtC (9, 2, yX9_slack, cX9_slack, 4, (some .int), 1880) = true := by decide +kernel
theorem zk_9_91 : zmtC (9, 2, yX9_swap, cX9_swap, 4, (some .boolean), 1884) = true := by decide +kernel
theorem zk_9_92 : zmtC (9, 1, yX9_seed, cX9_seed, 2, (some .boolean), 1888) = true := by decide +kernel
theorem zk_9_93 : zmtC (9, 3, yX9_feels, cX9_feels, 4, (some .int), 1892) = true := by decide +kernel
theorem zk_9_94 : zmtC (9, 2, yX9_wakes, cX9_wakes, 3, (some .int), 1896) = true := by decide +kernel
theorem zk_9_95 : zmtC (9, 2, yX9_least, cX9_least, 4, (some .int), 1900) = true := by decide +kernel
theorem zk_9_96 : zmtC (9, 0, yX9_bad, cX9_bad, 1, (some .int), 1904) = true := by decide +kernel
theorem zk_9_97 : zmtC (9, 0, yX9_badness, cX9_badness, 4, (some .int), 1908) = true := by decide +kernel
theorem zk_9_98 : zmtC (9, 1, yX9_best, cX9_best, 7, (some .int), 1912) = true := by decide +kernel
theorem zk_9_99 : zmtC (9, 0, yX9_nextRow, cX9_nextRow, 5, (some .boolean), 1916) = true := by decide +kernel
theorem zk_9_100 : zmtC (9, 2, yX9_changes, cX9_changes, 4, none, 1920) = true := by decide +kernel
theorem zk_9_101 : zmtC (9, 1, yX9_exchange, cX9_exchange, 3, (some .int), 1924) = true := by decide +kernel
theorem zk_9_102 : zmtC (9, 0, yX9_exchanged, cX9_exchanged, 9, (some .int), 1928) = true := by decide +kernel
theorem zk_9_103 : zmtC (9, 0, yX9_lay, cX9_lay, 2, (some .int), 1932) = true := by decide +kernel
theorem zk_9_104 : zmtC (9, 1, yX9_two, cX9_two, 7, (some .int), 1936) = true := by decide +kernel
theorem zk_9_105 : zmtC (9, 1, yX9_ropeOf, cX9_ropeOf, 3, (some .int), 1940) = true := by decide +kernel
theorem zk_9_106 : zmtC (9, 0, yX9_hear, cX9_hear, 3, (some .boolean), 1944) = true := by decide +kernel
theorem zk_9_107 : zmtC (9, 2, yX9_pulled, cX9_pulled, 6, (some .int), 1948) = true := by decide +kernel
theorem zk_9_108 : zmtC (9, 0, yX9_allOdds, cX9_allOdds, 4, (some .int), 1952) = true := by decide +kernel
theorem zk_9_109 : zmtC (9, 2, yX9_oddsIf, cX9_oddsIf, 4, (some .int), 1956) = true := by decide +kernel
theorem zk_9_110 : zmtC (9, 2, yX9_cut, cX9_cut, 7, (some .int), 1960) = true := by decide +kernel
theorem zk_9_111 : zmtC (9, 1, yX9_firstCuts, cX9_firstCuts, 4, (some .boolean), 1964) = true := by decide +kernel
theorem zk_9_112 : zmtC (9, 1, yX9_nextTied, cX9_nextTied, 3, (some .int), 1968) = true := by decide +kernel
theorem zk_9_113 : zmtC (9, 1, yX9_heaviest, cX9_heaviest, 5, (some .int), 1972) = true := by decide +kernel
theorem zk_9_114 : zmtC (9, 2, yX9_isCut, cX9_isCut, 4, (some .boolean), 1976) = true := by decide +kernel
theorem zk_9_115 : zmtC (9, 1, yX9_nextCuts, cX9_nextCuts, 6, (some .boolean), 1980) = true := by decide +kernel
theorem zk_9_116 : zmtC (9, 1, yX9_walk, cX9_walk, 7, (some .int), 1984) = true := by decide +kernel
theorem zk_9_117 : zmtC (9, 2, yX9_beds, cX9_beds, 7, (some .int), 1988) = true := by decide +kernel
theorem zk_9_118 : zmtC (9, 3, yX9_nights, cX9_nights, 9, (some .int), 1992) = true := by decide +kernel
theorem zk_9_119 : zmtC (9, 0, yX9_image, cX9_image, 4, (some .int), 1996) = true := by decide +kernel
theorem zk_9_120 : zmtC (9, 1, yX9_writes, cX9_writes, 2, none, 2000) = true := by decide +kernel
theorem zk_9_121 : zmtC (9, 1, yX9_octet, cX9_octet, 2, (some .int), 2004) = true := by decide +kernel
theorem zk_9_122 : zmtC (9, 0, yX9_on, cX9_on, 5, (some .boolean), 2008) = true := by decide +kernel
theorem zk_9_123 : zmtC (9, 1, yX9_isImage, cX9_isImage, 5, (some .boolean), 2012) = true := by decide +kernel
theorem zk_9_124 : zmtC (9, 0, yX9_knotsMany, cX9_knotsMany, 1, (some .int), 2016) = true := by decide +kernel
theorem zk_9_125 : zmtC (9, 1, yX9_isBoyOn, cX9_isBoyOn, 5, (some .boolean), 2020) = true := by decide +kernel
theorem zmt9_ok : ∀ t ∈ zmt9, zmtC t = true := List.forall_mem_cons.mpr ⟨zk_9_0, List.forall_mem_cons.mpr ⟨zk_9_1, List.forall_mem_cons.mpr ⟨zk_9_2, List.forall_mem_cons.mpr ⟨zk_9_3, List.forall_mem_cons.mpr ⟨zk_9_4, List.forall_mem_cons.mpr ⟨zk_9_5, List.forall_mem_cons.mpr ⟨zk_9_6, List.forall_mem_cons.mpr ⟨zk_9_7, List.forall_mem_cons.mpr ⟨zk_9_8, List.forall_mem_cons.mpr ⟨zk_9_9, List.forall_mem_cons.mpr ⟨zk_9_10, List.forall_mem_cons.mpr ⟨zk_9_11, List.forall_mem_cons.mpr ⟨zk_9_12, List.forall_mem_cons.mpr ⟨zk_9_13, List.forall_mem_cons.mpr ⟨zk_9_14, List.forall_mem_cons.mpr ⟨zk_9_15, List.forall_mem_cons.mpr ⟨zk_9_16, List.forall_mem_cons.mpr ⟨zk_9_17, List.forall_mem_cons.mpr ⟨zk_9_18, List.forall_mem_cons.mpr ⟨zk_9_19, List.forall_mem_cons.mpr ⟨zk_9_20, List.forall_mem_cons.mpr ⟨zk_9_21, List.forall_mem_cons.mpr ⟨zk_9_22, List.forall_mem_cons.mpr ⟨zk_9_23, List.forall_mem_cons.mpr ⟨zk_9_24, List.forall_mem_cons.mpr ⟨zk_9_25, List.forall_mem_cons.mpr ⟨zk_9_26, List.forall_mem_cons.mpr ⟨zk_9_27, List.forall_mem_cons.mpr ⟨zk_9_28, List.forall_mem_cons.mpr ⟨zk_9_29, List.forall_mem_cons.mpr ⟨zk_9_30, List.forall_mem_cons.mpr ⟨zk_9_31, List.forall_mem_cons.mpr ⟨zk_9_32, List.forall_mem_cons.mpr ⟨zk_9_33, List.forall_mem_cons.mpr ⟨zk_9_34, List.forall_mem_cons.mpr ⟨zk_9_35, List.forall_mem_cons.mpr ⟨zk_9_36, List.forall_mem_cons.mpr ⟨zk_9_37, List.forall_mem_cons.mpr ⟨zk_9_38, List.forall_mem_cons.mpr ⟨zk_9_39, List.forall_mem_cons.mpr ⟨zk_9_40, List.forall_mem_cons.mpr ⟨zk_9_41, List.forall_mem_cons.mpr ⟨zk_9_42, List.forall_mem_cons.mpr ⟨zk_9_43, List.forall_mem_cons.mpr ⟨zk_9_44, List.forall_mem_cons.mpr ⟨zk_9_45, List.forall_mem_cons.mpr ⟨zk_9_46, List.forall_mem_cons.mpr ⟨zk_9_47, List.forall_mem_cons.mpr ⟨zk_9_48, List.forall_mem_cons.mpr ⟨zk_9_49, List.forall_mem_cons.mpr ⟨zk_9_50, List.forall_mem_cons.mpr ⟨zk_9_51, List.forall_mem_cons.mpr ⟨zk_9_52, List.forall_mem_cons.mpr ⟨zk_9_53, List.forall_mem_cons.mpr ⟨zk_9_54, List.forall_mem_cons.mpr ⟨zk_9_55, List.forall_mem_cons.mpr ⟨zk_9_56, List.forall_mem_cons.mpr ⟨zk_9_57, List.forall_mem_cons.mpr ⟨zk_9_58, List.forall_mem_cons.mpr ⟨zk_9_59, List.forall_mem_cons.mpr ⟨zk_9_60, List.forall_mem_cons.mpr ⟨zk_9_61, List.forall_mem_cons.mpr ⟨zk_9_62, List.forall_mem_cons.mpr ⟨zk_9_63, List.forall_mem_cons.mpr ⟨zk_9_64, List.forall_mem_cons.mpr ⟨zk_9_65, List.forall_mem_cons.mpr ⟨zk_9_66, List.forall_mem_cons.mpr ⟨zk_9_67, List.forall_mem_cons.mpr ⟨zk_9_68, List.forall_mem_cons.mpr ⟨zk_9_69, List.forall_mem_cons.mpr ⟨zk_9_70, List.forall_mem_cons.mpr ⟨zk_9_71, List.forall_mem_cons.mpr ⟨zk_9_72, List.forall_mem_cons.mpr ⟨zk_9_73, List.forall_mem_cons.mpr ⟨zk_9_74, List.forall_mem_cons.mpr ⟨zk_9_75, List.forall_mem_cons.mpr ⟨zk_9_76, List.forall_mem_cons.mpr ⟨zk_9_77, List.forall_mem_cons.mpr ⟨zk_9_78, List.forall_mem_cons.mpr ⟨zk_9_79, List.forall_mem_cons.mpr ⟨zk_9_80, List.forall_mem_cons.mpr ⟨zk_9_81, List.forall_mem_cons.mpr ⟨zk_9_82, List.forall_mem_cons.mpr ⟨zk_9_83, List.forall_mem_cons.mpr ⟨zk_9_84, List.forall_mem_cons.mpr ⟨zk_9_85, List.forall_mem_cons.mpr ⟨zk_9_86, List.forall_mem_cons.mpr ⟨zk_9_87, List.forall_mem_cons.mpr ⟨zk_9_88, List.forall_mem_cons.mpr ⟨zk_9_89, List.forall_mem_cons.mpr ⟨zk_9_90, List.forall_mem_cons.mpr ⟨zk_9_91, List.forall_mem_cons.mpr ⟨zk_9_92, List.forall_mem_cons.mpr ⟨zk_9_93, List.forall_mem_cons.mpr ⟨zk_9_94, List.forall_mem_cons.mpr ⟨zk_9_95, List.forall_mem_cons.mpr ⟨zk_9_96, List.forall_mem_cons.mpr ⟨zk_9_97, List.forall_mem_cons.mpr ⟨zk_9_98, List.forall_mem_cons.mpr ⟨zk_9_99, List.forall_mem_cons.mpr ⟨zk_9_100, List.forall_mem_cons.mpr ⟨zk_9_101, List.forall_mem_cons.mpr ⟨zk_9_102, List.forall_mem_cons.mpr ⟨zk_9_103, List.forall_mem_cons.mpr ⟨zk_9_104, List.forall_mem_cons.mpr ⟨zk_9_105, List.forall_mem_cons.mpr ⟨zk_9_106, List.forall_mem_cons.mpr ⟨zk_9_107, List.forall_mem_cons.mpr ⟨zk_9_108, List.forall_mem_cons.mpr ⟨zk_9_109, List.forall_mem_cons.mpr ⟨zk_9_110, List.forall_mem_cons.mpr ⟨zk_9_111, List.forall_mem_cons.mpr ⟨zk_9_112, List.forall_mem_cons.mpr ⟨zk_9_113, List.forall_mem_cons.mpr ⟨zk_9_114, List.forall_mem_cons.mpr ⟨zk_9_115, List.forall_mem_cons.mpr ⟨zk_9_116, List.forall_mem_cons.mpr ⟨zk_9_117, List.forall_mem_cons.mpr ⟨zk_9_118, List.forall_mem_cons.mpr ⟨zk_9_119, List.forall_mem_cons.mpr ⟨zk_9_120, List.forall_mem_cons.mpr ⟨zk_9_121, List.forall_mem_cons.mpr ⟨zk_9_122, List.forall_mem_cons.mpr ⟨zk_9_123, List.forall_mem_cons.mpr ⟨zk_9_124, List.forall_mem_cons.mpr ⟨zk_9_125, fun _ h => absurd h List.not_mem_nil⟩⟩⟩⟩⟩⟩⟩⟩⟩⟩⟩⟩⟩⟩⟩⟩⟩⟩⟩⟩⟩⟩⟩⟩⟩⟩⟩⟩⟩⟩⟩⟩⟩⟩⟩⟩⟩⟩⟩⟩⟩⟩⟩⟩⟩⟩⟩⟩⟩⟩⟩⟩⟩⟩⟩⟩⟩⟩⟩⟩⟩⟩⟩⟩⟩⟩⟩⟩⟩⟩⟩⟩⟩⟩⟩⟩⟩⟩⟩⟩⟩⟩⟩⟩⟩⟩⟩⟩⟩⟩⟩⟩⟩⟩⟩⟩⟩⟩⟩⟩⟩⟩⟩⟩⟩⟩⟩⟩⟩⟩⟩⟩⟩⟩⟩⟩⟩⟩⟩⟩⟩⟩⟩⟩⟩⟩
end
section
/-! the tables are right: each row's word stands in lw_tbl -/
def zW : List Jvm.Cond := lw_tbl.filter goodWord
theorem zhas_in {pos : Nat} {w : Jvm.Cond} (h : zhas pos w = true) : w ∈ zW := by
  unfold zhas at h
  rw [Bool.and_eq_true, decide_eq_true_eq] at h
  exact List.mem_filter.mpr ⟨List.mem_of_getElem? h.1, h.2⟩
theorem zW_tbl {w : Jvm.Cond} (h : w ∈ zW) : w ∈ lw_tbl := (List.mem_filter.mp h).1
theorem zW_good {w : Jvm.Cond} (h : w ∈ zW) : goodWord w = true := (List.mem_filter.mp h).2
def zlook {α : Type} (t : List (Nat × α)) (idx : Nat) : Option α := (t.find? (fun q => q.1 == idx)).map (fun q => q.2)
theorem zlook_mem {α : Type} {t : List (Nat × α)} {idx : Nat} {x : α} (h : zlook t idx = some x) : (idx, x) ∈ t := by
  unfold zlook at h
  cases hf : t.find? (fun q => q.1 == idx) with
  | none => rw [hf] at h; cases h
  | some q =>
    rw [hf] at h
    cases h
    have h1 := List.find?_some hf
    have h2 := List.mem_of_find?_eq_some hf
    simp only [beq_iff_eq] at h1
    rw [← h1]
    exact h2
-- the classes
def zlayC (ci : Nat) : Bool := (List.range (znf ci)).all (fun k => zhas ((zlayT ci).getD k 0) (u_lay (zcn ci) (ztb ci) k))
theorem zlay0 : zlayC 0 = true := by decide +kernel
theorem zlay1 : zlayC 1 = true := by decide +kernel
theorem zlay2 : zlayC 2 = true := by decide +kernel
theorem zlay3 : zlayC 3 = true := by decide +kernel
theorem zlay4 : zlayC 4 = true := by decide +kernel
theorem zlay5 : zlayC 5 = true := by decide +kernel
theorem zlay6 : zlayC 6 = true := by decide +kernel
theorem zlay7 : zlayC 7 = true := by decide +kernel
theorem zlay8 : zlayC 8 = true := by decide +kernel
theorem zlay9 : zlayC 9 = true := by decide +kernel
theorem zlay_in {ci : Nat} (h : zlayC ci = true) : ∀ w ∈ u_ws (zcn ci) (ztb ci) (znf ci), w ∈ zW := by
  intro w hw
  unfold u_ws at hw
  obtain ⟨k, hk, rfl⟩ := List.mem_map.mp hw
  unfold zlayC at h
  exact zhas_in (List.all_eq_true.mp h k hk)
/-- a class of the ten: its words, its types, its names are apart -/
def zClsOk (ci : Nat) : Prop := (∀ w ∈ u_ws (zcn ci) (ztb ci) (znf ci), w ∈ zW) ∧ (∀ k, k < znf ci → parseFieldDescriptor (ztb ci k).2.2.1 = some (zty ci k)) ∧ (∀ a, a < znf ci → ∀ b, b < znf ci → a ≠ b → (ztb ci a).2.1 ≠ (ztb ci b).2.1) ∧ vwCl[ci]? = some (zcn ci, ztb ci, znf ci) ∧ ∀ k, k < znf ci → (ztb ci k).1 = zcn ci
theorem zcls_ok {ci : Nat} (h : ci < 10) : zClsOk ci := by
  match ci, h with
  | 0, _ => exact ⟨zlay_in zlay0, tyX0_ok, nmX0, rfl, by decide +kernel⟩
  | 1, _ => exact ⟨zlay_in zlay1, tyX1_ok, nmX1, rfl, by decide +kernel⟩
  | 2, _ => exact ⟨zlay_in zlay2, tyX2_ok, nmX2, rfl, by decide +kernel⟩
  | 3, _ => exact ⟨zlay_in zlay3, tyX3_ok, nmX3, rfl, by decide +kernel⟩
  | 4, _ => exact ⟨zlay_in zlay4, tyX4_ok, nmX4, rfl, by decide +kernel⟩
  | 5, _ => exact ⟨zlay_in zlay5, tyX5_ok, nmX5, rfl, by decide +kernel⟩
  | 6, _ => exact ⟨zlay_in zlay6, tyX6_ok, nmX6, rfl, by decide +kernel⟩
  | 7, _ => exact ⟨zlay_in zlay7, tyX7_ok, nmX7, rfl, by decide +kernel⟩
  | 8, _ => exact ⟨zlay_in zlay8, tyX8_ok, nmX8, rfl, by decide +kernel⟩
  | 9, _ => exact ⟨zlay_in zlay9, tyX9_ok, nmX9, rfl, by decide +kernel⟩
-- fields
def zfld (own idx : Nat) : Option (Nat × Nat) := (zlook (zfldT own) idx).map (fun q => (q.1, q.2.1))
def zfldC (own : Nat) (q : Nat × Nat × Nat × Nat) : Bool := decide (q.2.1 < 10) && decide (q.2.2.1 < znf q.2.1) && zhas q.2.2.2 (.fieldLink (zcn own) q.1 (ztb q.2.1 q.2.2.1).1 (ztb q.2.1 q.2.2.1).2.1 (ztb q.2.1 q.2.2.1).2.2.1)
theorem zfldT_ok (own : Nat) : (zfldT own).all (zfldC own) = true := by
  unfold zfldT
  split <;> first | decide +kernel | rfl
theorem zfld_ok {own idx ci k : Nat} (h : zfld own idx = some (ci, k)) : ci < 10 ∧ k < znf ci ∧ .fieldLink (zcn own) idx (ztb ci k).1 (ztb ci k).2.1 (ztb ci k).2.2.1 ∈ zW := by
  unfold zfld at h
  cases hz : zlook (zfldT own) idx with
  | none => rw [hz] at h; cases h
  | some q =>
    rw [hz] at h
    cases h
    have h1 := List.all_eq_true.mp (zfldT_ok own) _ (zlook_mem hz)
    unfold zfldC at h1
    rw [Bool.and_eq_true, Bool.and_eq_true, decide_eq_true_eq, decide_eq_true_eq] at h1
    exact ⟨h1.1.1, h1.1.2, zhas_in h1.2⟩
-- new
def znew (own idx : Nat) : Option Nat := (zlook (znewT own) idx).map (fun q => q.1)
def znewC (own : Nat) (q : Nat × Nat × Nat × Nat × Nat) : Bool := decide (q.2.1 < 10) && zhas q.2.2.1 (.classLink (zcn own) q.1 (zcn q.2.1)) && zhas q.2.2.2.1 (.instantiable (zcn q.2.1) (znf q.2.1)) && zhas q.2.2.2.2 (.initialized (zcn q.2.1))
theorem znewT_ok (own : Nat) : (znewT own).all (znewC own) = true := by
  unfold znewT
  split <;> first | decide +kernel | rfl
theorem znew_ok {own idx ci : Nat} (h : znew own idx = some ci) : ci < 10 ∧ .classLink (zcn own) idx (zcn ci) ∈ zW ∧ .instantiable (zcn ci) (znf ci) ∈ zW ∧ .initialized (zcn ci) ∈ zW := by
  unfold znew at h
  cases hz : zlook (znewT own) idx with
  | none => rw [hz] at h; cases h
  | some q =>
    rw [hz] at h
    cases h
    have h1 := List.all_eq_true.mp (znewT_ok own) _ (zlook_mem hz)
    unfold znewC at h1
    rw [Bool.and_eq_true, Bool.and_eq_true, Bool.and_eq_true, decide_eq_true_eq] at h1
    exact ⟨h1.1.1.1, zhas_in h1.1.1.2, zhas_in h1.1.2, zhas_in h1.2⟩
-- constants
def zldc (own idx : Nat) : Option Int32 := (zlook (zldcT own) idx).map (fun q => q.1)
def zldcC (own : Nat) (q : Nat × Int32 × Nat) : Bool := zhas q.2.2 (.constant (zcn own) q.1 q.2.1)
theorem zldcT_ok (own : Nat) : (zldcT own).all (zldcC own) = true := by
  unfold zldcT
  split <;> first | decide +kernel | rfl
theorem zldc_ok {own idx : Nat} {v : Int32} (h : zldc own idx = some v) : .constant (zcn own) idx v ∈ zW := by
  unfold zldc at h
  cases hz : zlook (zldcT own) idx with
  | none => rw [hz] at h; cases h
  | some q =>
    rw [hz] at h
    cases h
    have h1 := List.all_eq_true.mp (zldcT_ok own) _ (zlook_mem hz)
    exact zhas_in h1
def zldl (own idx : Nat) : Option Int64 := (zlook (zldlT own) idx).map (fun q => q.1)
def zldlC (own : Nat) (q : Nat × Int64 × Nat) : Bool := zhas q.2.2 (.constantLong (zcn own) q.1 q.2.1)
theorem zldlT_ok (own : Nat) : (zldlT own).all (zldlC own) = true := by
  unfold zldlT
  split <;> first | decide +kernel | rfl
theorem zldl_ok {own idx : Nat} {v : Int64} (h : zldl own idx = some v) : .constantLong (zcn own) idx v ∈ zW := by
  unfold zldl at h
  cases hz : zlook (zldlT own) idx with
  | none => rw [hz] at h; cases h
  | some q =>
    rw [hz] at h
    cases h
    have h1 := List.all_eq_true.mp (zldlT_ok own) _ (zlook_mem hz)
    exact zhas_in h1
-- methods
theorem zmt_c {j : Nat} {t : zMt} (h : zmt j = some t) : zmtC t = true := by
  unfold zmt at h
  split at h
  · exact zmt0_ok _ (List.mem_of_getElem? h)
  · exact zmt1_ok _ (List.mem_of_getElem? h)
  · exact zmt2_ok _ (List.mem_of_getElem? h)
  · exact zmt3_ok _ (List.mem_of_getElem? h)
  · exact zmt4_ok _ (List.mem_of_getElem? h)
  · exact zmt5_ok _ (List.mem_of_getElem? h)
  · exact zmt6_ok _ (List.mem_of_getElem? h)
  · exact zmt7_ok _ (List.mem_of_getElem? h)
  · exact zmt8_ok _ (List.mem_of_getElem? h)
  · exact zmt9_ok _ (List.mem_of_getElem? h)
  · exact zmt11_ok _ (List.mem_of_getElem? h)
  · exact zmt12_ok _ (List.mem_of_getElem? h)
  · cases h
theorem zmt_ok {j ci na ml pos : Nat} {y : MethodName} {cc : ByteArray} {ret : Option FieldType} (h : zmt j = some (ci, na, y, cc, ml, ret, pos)) : ci < 13 ∧ y.cls = zcn ci ∧ plainName y.cls = true ∧ (y.cls ≠ "java/lang/invoke/MethodHandle" ∧ y.cls ≠ "java/lang/invoke/VarHandle") ∧ (parseMethodDescriptor y.desc).map (fun d => d.parameters.length) = some na ∧ ml ≤ 20 ∧ .code y cc ml ret ∈ zW := by
  have h1 := zmt_c h
  unfold zmtC at h1
  simp only [Bool.and_eq_true, decide_eq_true_eq] at h1
  obtain ⟨⟨⟨⟨⟨⟨a, b⟩, c⟩, d⟩, e⟩, f⟩, g⟩ := h1
  exact ⟨a, b, c, ⟨fun z => d (by rw [z]; decide), fun z => d (by rw [z]; decide)⟩, e, f, zhas_in g⟩
-- calls
def zcall (own idx : Nat) : Option (Nat × Nat) := (zlook (zcallT own) idx).map (fun q => (q.1, q.2.1))
def zcallC (own : Nat) (q : Nat × Nat × Nat × Nat × Nat × Nat × Nat) : Bool := match q with
  | (idx, kind, j, p0, p1, p2, p3) => match kind with
    | 4 => zhas p0 (.methodLink (zcn own) idx objectInit) && zhas p1 (.instanceMethod objectInit) && zhas p2 (.code objectInit ⟨#[0xb1]⟩ 1 none)
    | 5 => zhas p0 (.methodLink (zcn own) idx Lib.Math.max.name) && zhas p1 (.static Lib.Math.max.name) && zhas p2 (.initialized "java/lang/Math") && zhas p3 (.code Lib.Math.max.name Lib.Math.max.code 2 (some .int))
    | 6 => zhas p0 (.methodLink (zcn own) idx Lib.Math.min.name) && zhas p1 (.static Lib.Math.min.name) && zhas p2 (.initialized "java/lang/Math") && zhas p3 (.code Lib.Math.min.name Lib.Math.min.code 2 (some .int))
    | 7 => zhas p0 (.methodLink (zcn own) idx arraycopyName) && zhas p1 (.native arraycopyName) && zhas p2 (.static arraycopyName) && zhas p3 (.initialized "java/lang/System")
    | 0 => match zmt j with
      | some (ci, _, y, _) => decide (ci < 10) && zhas p0 (.methodLink (zcn own) idx y) && zhas p1 (.instanceMethod y) && zhas p2 (.selects (zcn ci) y y) && zhas p3 (.initialized (zcn ci))
      | none => false
    | 1 => match zmt j with
      | some (_, _, y, _) => zhas p0 (.methodLink (zcn own) idx y) && zhas p1 (.static y) && zhas p2 (.initialized y.cls)
      | none => false
    | 2 => match zmt j with
      | some (_, _, y, _, _, ret, _) => zhas p0 (.methodLink (zcn own) idx y) && zhas p1 (.instanceMethod y) && zhas p2 (.initialized y.cls) && decide (y.name = "<init>") && decide (ret = none)
      | none => false
    | 3 => match zmt j with
      | some (_, _, y, _, _, ret, _) => decide (lw_tbl[p0]? = some (.methodLinkNest (zcn own) idx y (zcn 8))) && zhas p1 (.instanceMethod y) && zhas p2 (.initialized y.cls) && decide (y.name = "<init>") && decide (ret = none)
      | none => false
    | 8 => zhas p0 (.methodLink (zcn own) idx yJ0_length_8abf5) && zhas p1 (.instanceMethod yJ0_length_8abf5) && zhas p2 (.selects RJ0 yJ0_length_8abf5 yJ0_length_8abf5) && zhas p3 (.initialized RJ0)
    | 9 => zhas p0 (.methodLink (zcn own) idx yJ0_charAt_5068e) && zhas p1 (.instanceMethod yJ0_charAt_5068e) && zhas p2 (.selects RJ0 yJ0_charAt_5068e yJ0_charAt_5068e) && zhas p3 (.initialized RJ0)
    | 10 => zhas p0 (.methodLink (zcn own) idx yJ0_indexOf_0f7a4) && zhas p1 (.instanceMethod yJ0_indexOf_0f7a4) && zhas p2 (.selects RJ0 yJ0_indexOf_0f7a4 yJ0_indexOf_0f7a4) && zhas p3 (.initialized RJ0)
    | _ => true
set_option maxRecDepth 100000 in
theorem zcallT_ok (own : Nat) : (zcallT own).all (zcallC own) = true := by
  unfold zcallT
  split <;> first | decide +kernel | rfl
theorem zcall_c {own idx kind j : Nat} (h : zcall own idx = some (kind, j)) : ∃ p0 p1 p2 p3, zcallC own (idx, kind, j, p0, p1, p2, p3) = true := by
  unfold zcall at h
  cases hz : zlook (zcallT own) idx with
  | none => rw [hz] at h; cases h
  | some q =>
    rw [hz] at h
    cases h
    exact ⟨_, _, _, _, List.all_eq_true.mp (zcallT_ok own) _ (zlook_mem hz)⟩
theorem zcall_0 {own idx j : Nat} (h : zcall own idx = some (0, j)) : ∃ ci na y cc ml ret pos, zmt j = some (ci, na, y, cc, ml, ret, pos) ∧ ci < 10 ∧ .methodLink (zcn own) idx y ∈ zW ∧ .instanceMethod y ∈ zW ∧ .selects (zcn ci) y y ∈ zW ∧ .initialized (zcn ci) ∈ zW := by
  obtain ⟨p0, p1, p2, p3, hc⟩ := zcall_c h
  simp only [zcallC] at hc
  split at hc
  · rename_i ci na y r hz
    obtain ⟨cc, ml, ret, pos⟩ := r
    simp only [Bool.and_eq_true, decide_eq_true_eq] at hc
    obtain ⟨⟨⟨⟨a, b⟩, c⟩, d⟩, e⟩ := hc
    exact ⟨ci, na, y, cc, ml, ret, pos, hz, a, zhas_in b, zhas_in c, zhas_in d, zhas_in e⟩
  · cases hc
theorem zcall_1 {own idx j : Nat} (h : zcall own idx = some (1, j)) : ∃ ci na y cc ml ret pos, zmt j = some (ci, na, y, cc, ml, ret, pos) ∧ .methodLink (zcn own) idx y ∈ zW ∧ .static y ∈ zW ∧ .initialized y.cls ∈ zW := by
  obtain ⟨p0, p1, p2, p3, hc⟩ := zcall_c h
  simp only [zcallC] at hc
  split at hc
  · rename_i ci na y r hz
    obtain ⟨cc, ml, ret, pos⟩ := r
    simp only [Bool.and_eq_true, decide_eq_true_eq] at hc
    obtain ⟨⟨b, c⟩, d⟩ := hc
    exact ⟨ci, na, y, cc, ml, ret, pos, hz, zhas_in b, zhas_in c, zhas_in d⟩
  · cases hc
theorem zcall_2 {own idx j : Nat} (h : zcall own idx = some (2, j)) : ∃ ci na y cc ml pos, zmt j = some (ci, na, y, cc, ml, none, pos) ∧ .methodLink (zcn own) idx y ∈ zW ∧ .instanceMethod y ∈ zW ∧ .initialized y.cls ∈ zW ∧ y.name = "<init>" := by
  obtain ⟨p0, p1, p2, p3, hc⟩ := zcall_c h
  simp only [zcallC] at hc
  split at hc
  · rename_i ci na y cc ml ret pos hz
    simp only [Bool.and_eq_true, decide_eq_true_eq] at hc
    obtain ⟨⟨⟨⟨b, c⟩, d⟩, e⟩, f⟩ := hc
    subst f
    exact ⟨ci, na, y, cc, ml, pos, hz, zhas_in b, zhas_in c, zhas_in d, e⟩
  · cases hc
theorem zcall_3 {own idx j : Nat} (h : zcall own idx = some (3, j)) : ∃ ci na y cc ml pos, zmt j = some (ci, na, y, cc, ml, none, pos) ∧ .methodLinkNest (zcn own) idx y (zcn 8) ∈ lw_tbl ∧ .instanceMethod y ∈ zW ∧ .initialized y.cls ∈ zW ∧ y.name = "<init>" := by
  obtain ⟨p0, p1, p2, p3, hc⟩ := zcall_c h
  simp only [zcallC] at hc
  split at hc
  · rename_i ci na y cc ml ret pos hz
    simp only [Bool.and_eq_true, decide_eq_true_eq] at hc
    obtain ⟨⟨⟨⟨b, c⟩, d⟩, e⟩, f⟩ := hc
    subst f
    exact ⟨ci, na, y, cc, ml, pos, hz, List.mem_of_getElem? b, zhas_in c, zhas_in d, e⟩
  · cases hc
theorem zcall_4 {own idx j : Nat} (h : zcall own idx = some (4, j)) : .methodLink (zcn own) idx objectInit ∈ zW ∧ .instanceMethod objectInit ∈ zW ∧ .code objectInit ⟨#[0xb1]⟩ 1 none ∈ zW := by
  obtain ⟨p0, p1, p2, p3, hc⟩ := zcall_c h
  simp only [zcallC, Bool.and_eq_true] at hc
  exact ⟨zhas_in hc.1.1, zhas_in hc.1.2, zhas_in hc.2⟩
theorem zcall_5 {own idx j : Nat} (h : zcall own idx = some (5, j)) : .methodLink (zcn own) idx Lib.Math.max.name ∈ zW ∧ .static Lib.Math.max.name ∈ zW ∧ .initialized "java/lang/Math" ∈ zW ∧ .code Lib.Math.max.name Lib.Math.max.code 2 (some .int) ∈ zW := by
  obtain ⟨p0, p1, p2, p3, hc⟩ := zcall_c h
  simp only [zcallC, Bool.and_eq_true] at hc
  exact ⟨zhas_in hc.1.1.1, zhas_in hc.1.1.2, zhas_in hc.1.2, zhas_in hc.2⟩
theorem zcall_6 {own idx j : Nat} (h : zcall own idx = some (6, j)) : .methodLink (zcn own) idx Lib.Math.min.name ∈ zW ∧ .static Lib.Math.min.name ∈ zW ∧ .initialized "java/lang/Math" ∈ zW ∧ .code Lib.Math.min.name Lib.Math.min.code 2 (some .int) ∈ zW := by
  obtain ⟨p0, p1, p2, p3, hc⟩ := zcall_c h
  simp only [zcallC, Bool.and_eq_true] at hc
  exact ⟨zhas_in hc.1.1.1, zhas_in hc.1.1.2, zhas_in hc.1.2, zhas_in hc.2⟩
theorem zcall_7 {own idx j : Nat} (h : zcall own idx = some (7, j)) : .methodLink (zcn own) idx arraycopyName ∈ zW ∧ .native arraycopyName ∈ zW ∧ .static arraycopyName ∈ zW ∧ .initialized "java/lang/System" ∈ zW := by
  obtain ⟨p0, p1, p2, p3, hc⟩ := zcall_c h
  simp only [zcallC, Bool.and_eq_true] at hc
  exact ⟨zhas_in hc.1.1.1, zhas_in hc.1.1.2, zhas_in hc.1.2, zhas_in hc.2⟩
theorem zcall_8 {own idx j : Nat} (h : zcall own idx = some (8, j)) : .methodLink (zcn own) idx yJ0_length_8abf5 ∈ zW ∧ .instanceMethod yJ0_length_8abf5 ∈ zW ∧ .selects RJ0 yJ0_length_8abf5 yJ0_length_8abf5 ∈ zW ∧ .initialized RJ0 ∈ zW := by
  obtain ⟨p0, p1, p2, p3, hc⟩ := zcall_c h
  simp only [zcallC, Bool.and_eq_true] at hc
  exact ⟨zhas_in hc.1.1.1, zhas_in hc.1.1.2, zhas_in hc.1.2, zhas_in hc.2⟩
theorem zcall_9 {own idx j : Nat} (h : zcall own idx = some (9, j)) : .methodLink (zcn own) idx yJ0_charAt_5068e ∈ zW ∧ .instanceMethod yJ0_charAt_5068e ∈ zW ∧ .selects RJ0 yJ0_charAt_5068e yJ0_charAt_5068e ∈ zW ∧ .initialized RJ0 ∈ zW := by
  obtain ⟨p0, p1, p2, p3, hc⟩ := zcall_c h
  simp only [zcallC, Bool.and_eq_true] at hc
  exact ⟨zhas_in hc.1.1.1, zhas_in hc.1.1.2, zhas_in hc.1.2, zhas_in hc.2⟩
theorem zcall_10 {own idx j : Nat} (h : zcall own idx = some (10, j)) : .methodLink (zcn own) idx yJ0_indexOf_0f7a4 ∈ zW ∧ .instanceMethod yJ0_indexOf_0f7a4 ∈ zW ∧ .selects RJ0 yJ0_indexOf_0f7a4 yJ0_indexOf_0f7a4 ∈ zW ∧ .initialized RJ0 ∈ zW := by
  obtain ⟨p0, p1, p2, p3, hc⟩ := zcall_c h
  simp only [zcallC, Bool.and_eq_true] at hc
  exact ⟨zhas_in hc.1.1.1, zhas_in hc.1.1.2, zhas_in hc.1.2, zhas_in hc.2⟩
end
section
/-! the small machine's cells and calls, its step, its runs -/
/-- the two texts (at the places zBig + 1, zBig + 2) -/
def zstr : Nat → Nat → Option Nat
  | 5, 35 => some 0
  | 5, 106 => some 1
  | _, _ => none
def ztx : Nat → List Nat
  | 0 => [102, 111, 114, 99, 101, 32, 119, 101, 105, 103, 104, 116, 32, 100, 101, 112, 116, 104, 32, 112, 108, 97, 99, 101, 32, 109, 105, 110, 117, 116, 101, 32, 98, 101, 115, 105, 100, 101, 32, 102, 101, 108, 116, 32, 98, 111, 121, 32, 111, 100, 100, 115, 32, 112, 117, 108, 108, 115, 32, 115, 110, 111, 114, 101, 115, 32, 103, 104, 111, 115, 116, 32, 115, 108, 97, 99, 107, 32, 97, 116, 32, 100, 114, 101, 97, 109, 32, 116, 117, 103, 32, 108, 97, 115, 116, 115, 32, 112, 97, 115, 115, 101, 115, 32, 112, 97, 115, 115, 32, 100, 101, 101, 112, 32, 119, 104, 101, 110, 32, 111, 114, 32, 97, 110, 100, 32, 110, 111, 116, 32, 97, 108, 108, 32, 109, 105, 110, 32, 109, 97, 120]
  | _ => [59, 91, 93, 40, 41, 60, 62, 61, 43, 45, 42, 47, 37, 44]
/-- where c stands in the text; -1 without -/
def zixF (c : Int32) : List Nat → Nat → Int32
  | [], _ => -1
  | b :: l, k => if nI b = c then nI k else zixF c l (k + 1)
/-- length, charAt, indexOf of the two texts -/
def zprm : Nat → List Value → zM → Option zRes
  | 3328, [.ref a], M => if a = zBig + 1 ∨ a = zBig + 2 then some (some (.int (nI (ztx (a - (zBig + 1))).length)), M) else none
  | 3329, [.ref a, .int i], M => if (a = zBig + 1 ∨ a = zBig + 2) ∧ ¬ (i < 0 ∨ (ztx (a - (zBig + 1))).length ≤ i.toNatClampNeg) then some (some (.int (nI ((ztx (a - (zBig + 1))).getD i.toNatClampNeg 0))), M) else none
  | 3330, [.ref a, .int c], M => if a = zBig + 1 ∨ a = zBig + 2 then some (some (.int (zixF c (ztx (a - (zBig + 1))) 0)), M) else none
  | _, _, _ => none
def zdef (ci : Nat) : List Value := (List.range (znf ci)).map (fun k => defaultValue (zty ci k))
/-- the arrays that 'newarray' makes: kind, what they hold at first -/
def zaty : ArrayType → Option (Nat × Value)
  | .int => some (10, .int 0)
  | .long => some (11, .long 0)
  | .boolean => some (12, .int 0)
  | _ => none
def zidx (vs : List Value) (i : Int32) : Option Nat := if i < 0 ∨ vs.length ≤ i.toNatClampNeg then none else some i.toNatClampNeg
/-- an array of that kind at a: what it holds -/
def zarr (M : zM) (a kind : Nat) : Option (List Value) := match M[a]? with
  | some (c, vs) => if c = kind then some vs else none
  | none => none
def zald (M : zM) (kind : Nat) : List Value → Option (List Value)
  | .int i :: .ref a :: r => match zarr M a kind with
    | some vs => match zidx vs i with
      | some k => (vs[k]?).map (fun v => v :: r)
      | none => none
    | none => none
  | _ => none
def zast (M : zM) (kind : Nat) (v : Value) : List Value → Option (List Value × zM)
  | .int i :: .ref a :: r => match zarr M a kind with
    | some vs => match zidx vs i with
      | some k => some (r, M.set a (kind, vs.set k v))
      | none => none
    | none => none
  | _ => none
/-- cells: the instruction's length, the stack and the cells behind it -/
def zmem (own : Nat) (ini : Bool) (X : List Int32) : Instr → List Value → zM → Option (Nat × List Value × zM)
  | .getfield idx, .ref a :: r, M => match zfld own idx with
    | some (ci, k) => match zarr M a ci with
      | some vs => (vs[k]?).map (fun v => (3, v :: r, M))
      | none => none
    | none => none
  | .putfield idx, v :: .ref a :: r, M => match zfld own idx with
    | some (ci, k) => match zarr M a ci with
      | some vs => if k < vs.length ∧ narrow (zty ci k) v = v ∧ fits (zty ci k) v = true ∧ ((ztb ci k).2.2.2 = true → ini = true ∧ own = ci) then some (3, r, M.set a (ci, vs.set k v)) else none
      | none => none
    | none => none
  | .iaload, .int i :: .ref a :: r, M => if a = zBig then (if own ≠ 10 ∨ i < 0 ∨ X.length ≤ i.toNatClampNeg then none else some (1, .int (X.getD i.toNatClampNeg 0) :: r, M)) else (zald M 10 (.int i :: .ref a :: r)).map (fun s => (1, s, M))
  | .laload, st, M => (zald M 11 st).map (fun s => (1, s, M))
  | .baload, st, M => (zald M 12 st).map (fun s => (1, s, M))
  | .aaload, st, M => (zald M 13 st).map (fun s => (1, s, M))
  | .iastore, .int x :: st, M => (zast M 10 (.int x) st).map (fun s => (1, s.1, s.2))
  | .lastore, .long x :: st, M => (zast M 11 (.long x) st).map (fun s => (1, s.1, s.2))
  | .bastore, .int x :: st, M => if narrow .boolean (.int x) = .int x then (zast M 12 (.int x) st).map (fun s => (1, s.1, s.2)) else none
  | .aastore, .ref v :: st, M => if (zarr M v 6).isSome then (zast M 13 (.ref v) st).map (fun s => (1, s.1, s.2)) else none
  | .arraylength, .ref a :: r, M => if a = zBig then (if own = 10 then some (1, .int (nI X.length) :: r, M) else none) else match M[a]? with
    | some (c, vs) => if 10 ≤ c ∧ c < 14 then some (1, .int (nI vs.length) :: r, M) else none
    | none => none
  | .new idx, st, M => match znew own idx with
    | some ci => if M.length < zBig then some (3, .ref M.length :: st, M ++ [(ci, zdef ci)]) else none
    | none => none
  | .newarray aty, .int n :: r, M => match zaty aty with
    | some (kind, v) => if ¬ n < 0 ∧ n.toNatClampNeg ≤ 100000 ∧ M.length < zBig then some (2, .ref M.length :: r, M ++ [(kind, List.replicate n.toNatClampNeg v)]) else none
    | none => none
  | .anewarray idx, .int n :: r, M => if znew own idx = some 6 ∧ ¬ n < 0 ∧ n.toNatClampNeg ≤ 100000 ∧ M.length < zBig then some (3, .ref M.length :: r, M ++ [(13, List.replicate n.toNatClampNeg .null)]) else none
  | .ldc idx, st, M => match zldc own idx with
    | some v => some (2, .int v :: st, M)
    | none => match zstr own idx with
      | some k => some (2, .ref (zBig + 1 + k) :: st, M)
      | none => none
  | .ldc_w idx, st, M => match zldc own idx with
    | some v => some (3, .int v :: st, M)
    | none => none
  | .ldc2_w idx, st, M => match zldl own idx with
    | some v => some (3, .long v :: st, M)
    | none => none
  | _, _, _ => none
def zcpy (f g : List Value) (sp dp n : Nat) : List Value := g.take dp ++ (f.drop sp).take n ++ g.drop (dp + n)
def zfitA : Nat → Value → Bool
  | 10, .int _ => true
  | 12, .int v => v == 0 || v == 1
  | _, _ => false
/-- System.arraycopy between two arrays of ints, of booleans -/
def zacpy (M : zM) : List Value → Option (List Value × zM)
  | .int n :: .int dp :: .ref a :: .int sp :: .ref b :: r => match M[b]?, M[a]? with
    | some (c0, f), some (c1, g) =>
      if c0 = c1 ∧ (c0 = 10 ∨ c0 = 12) ∧ ¬ sp < 0 ∧ ¬ dp < 0 ∧ ¬ n < 0 ∧ sp.toNatClampNeg + n.toNatClampNeg ≤ f.length ∧ dp.toNatClampNeg + n.toNatClampNeg ≤ g.length ∧ ((f.drop sp.toNatClampNeg).take n.toNatClampNeg).all (zfitA c0) = true ∧ zcat r ≤ 8
      then some (r, M.set a (c1, zcpy f g sp.toNatClampNeg dp.toNatClampNeg n.toNatClampNeg)) else none
    | _, _ => none
  | _ => none
/-- calls (three bytes each): the stack and the cells behind them -/
def zinv (own : Nat) (call : Nat → List Value → zM → Option zRes) : Instr → List Value → zM → Option (List Value × zM)
  | .invokevirtual idx, st, M => match zcall own idx with
    | some (0, j) => match zmt j with
      | some (ci, na, _) => match st.drop na with
        | .ref a :: r => match zarr M a ci with
          | some _ => if na ≤ st.length ∧ zcat r ≤ 8 then (call j (.ref a :: (st.take na).reverse) M).map (fun q => (q.1.toList ++ r, q.2)) else none
          | none => none
        | _ => none
      | none => none
    | some (8, _) => match st with
      | .ref a :: r => if (a = zBig + 1 ∨ a = zBig + 2) ∧ zcat r ≤ 8 then (call 3328 [.ref a] M).map (fun q => (q.1.toList ++ r, q.2)) else none
      | _ => none
    | some (9, _) => match st with
      | .int i :: .ref a :: r => if (a = zBig + 1 ∨ a = zBig + 2) ∧ zcat r ≤ 8 then (call 3329 [.ref a, .int i] M).map (fun q => (q.1.toList ++ r, q.2)) else none
      | _ => none
    | some (10, _) => match st with
      | .int i :: .ref a :: r => if (a = zBig + 1 ∨ a = zBig + 2) ∧ zcat r ≤ 8 then (call 3330 [.ref a, .int i] M).map (fun q => (q.1.toList ++ r, q.2)) else none
      | _ => none
    | _ => none
  | .invokestatic idx, st, M => match zcall own idx with
    | some (1, j) => match zmt j with
      | some (_, na, _) => if na ≤ st.length ∧ zcat (st.drop na) ≤ 8 then (call j (st.take na).reverse M).map (fun q => (q.1.toList ++ st.drop na, q.2)) else none
      | none => none
    | some (5, _) => match st with
      | .int y :: .int x :: r => if zcat r ≤ 8 then some (.int (if x < y then y else x) :: r, M) else none
      | _ => none
    | some (6, _) => match st with
      | .int y :: .int x :: r => if zcat r ≤ 8 then some (.int (if y < x then y else x) :: r, M) else none
      | _ => none
    | some (7, _) => zacpy M st
    | _ => none
  | .invokespecial idx, st, M => match zcall own idx with
    | some (2, j) => match zmt j with
      | some (_, na, _) => match st.drop na with
        | .ref a :: r => if na ≤ st.length ∧ zcat r ≤ 8 then (call j (.ref a :: (st.take na).reverse) M).map (fun q => (q.1.toList ++ r, q.2)) else none
        | _ => none
      | none => none
    | some (3, j) => match zmt j with
      | some (_, na, _) => match st.drop na with
        | .ref a :: r => if na ≤ st.length ∧ zcat r ≤ 8 then (call j (.ref a :: (st.take na).reverse) M).map (fun q => (q.1.toList ++ r, q.2)) else none
        | _ => none
      | none => none
    | some (4, _) => match st with
      | .ref _ :: r => if zcat r ≤ 8 then some (r, M) else none
      | _ => none
    | _ => none
  | _, _, _ => none
/-- the end of a method -/
def zret (ret : Option FieldType) : Instr → List Value → Option (Option Value)
  | .ireturn, [.int v] => match ret with
    | some ty => if narrow ty (.int v) = .int v then some (some (.int v)) else none
    | none => none
  | .lreturn, [.long v] => if ret = some .long then some (some (.long v)) else none
  | .return_, [] => if ret = none then some none else none
  | _, _ => none
/-- one step -/
def zstep (own : Nat) (ini : Bool) (ret : Option FieldType) (cc : ByteArray) (X : List Int32) (call : Nat → List Value → zM → Option zRes) (s : zS) : Option (zS ⊕ zRes) := match decode cc s.1 with
  | .error _ => none
  | .ok (i, len) => match zret ret i s.2.2.1 with
    | some v => if len = 1 then some (.inr (v, s.2.2.2)) else none
    | none => match zpure i s.2.2.1 with
      | some (n, st) => if n = len then some (.inl (s.1 + len, s.2.1, st, s.2.2.2)) else none
      | none => match zbr i s.1 len s.2.2.1 with
        | some (pc, st) => some (.inl (pc, s.2.1, st, s.2.2.2))
        | none => match zloc i s.2.1 s.2.2.1 with
          | some (n, ml, st) => if n = len then some (.inl (s.1 + len, ml, st, s.2.2.2)) else none
          | none => match zmem own ini X i s.2.2.1 s.2.2.2 with
            | some (n, st, M) => if n = len then some (.inl (s.1 + len, s.2.1, st, M)) else none
            | none => match zinv own call i s.2.2.1 s.2.2.2 with
              | some (st, M) => if len = 3 then some (.inl (s.1 + 3, s.2.1, st, M)) else none
              | none => none
def zloop (f : zS → Option (zS ⊕ zRes)) : Nat → zS → Option zRes
  | 0, _ => none
  | n + 1, s => match f s with
    | none => none
    | some (.inl s') => zloop f n s'
    | some (.inr r) => some r
/-- the locals at a method's entry -/
def zargs (vs : List Value) : zML := vs.flatMap fun v => if v.category = 2 then [some v, none] else [some v]
def zent (vs : List Value) (n : Nat) : zML := zargs vs ++ List.replicate (n - (zargs vs).length) none
/-- a method of number j, d calls deep at most, F steps each at most -/
def zev (X : List Int32) (F : Nat) : Nat → Nat → List Value → zM → Option zRes
  | 0, _, _, _ => none
  | d + 1, j, vs, M => match zmt j with
    | none => if 4 ≤ d + 1 then zprm j vs M else none
    | some (ci, _, y, cc, ml, ret, _) => if (zargs vs).length ≤ ml then zloop (zstep ci (decide (y.name = "<init>")) ret cc X (zev X F d)) F (0, zent vs ml, [], M) else none
end
section
/-! the small machine's cells in the real heap; its cell steps are the machine's -/
def zf (ad : Nat → Nat) (vs : List Value) : Nat → Value := fun j => ztr ad (vs.getD j .null)
theorem zf_at {ad : Nat → Nat} {vs : List Value} {k : Nat} {v : Value} (h : vs[k]? = some v) : zf ad vs k = ztr ad v := by
  unfold zf
  rw [List.getD_eq_getElem?_getD, h]
  rfl
theorem zf_set {ad : Nat → Nat} {vs : List Value} {k : Nat} {v : Value} (hk : k < vs.length) : zf ad (vs.set k v) = updV (zf ad vs) k (ztr ad v) := by
  funext j
  simp only [zf, updV, List.getD_eq_getElem?_getD, List.getElem?_set]
  by_cases hj : k = j
  · subst hj
    simp [hk]
  · simp [hj, Ne.symm hj]
theorem ztr_narrow {ad : Nat → Nat} {ty : FieldType} {v : Value} (h : narrow ty v = v) : narrow ty (ztr ad v) = ztr ad v := by
  cases v with
  | ref k => cases ty <;> rfl
  | _ => exact h
theorem ztr_fits {ad : Nat → Nat} {ty : FieldType} {v : Value} (h : fits ty v = true) : fits ty (ztr ad v) = true := by
  cases v with
  | ref k => cases ty <;> first | rfl | cases h
  | _ => exact h
def zat (D : va_G) (cy : Nat → ClassId) (ad : Nat → Nat) (q : Nat) (x : zE) (H : Heap) : Prop :=
  if x.1 < 10 then t_OB q (D.1 x.1) (znf x.1) (D.2 x.1) H (zf ad x.2) else H[q]? = some (arrV (cy x.1) x.2.length (zf ad x.2))
theorem zat.kept {D : va_G} {cy : Nat → ClassId} {ad : Nat → Nat} {q : Nat} {x : zE} {H H1 : Heap} (h : zat D cy ad q x H) (hq : H1[q]? = H[q]?) : zat D cy ad q x H1 := by
  unfold zat at h ⊢
  split
  · rename_i hc
    rw [if_pos hc] at h
    exact h.kept hq
  · rename_i hc
    rw [if_neg hc] at h
    exact hq.trans h
def zR (D : va_G) (cy : Nat → ClassId) (g : Nat → Nat) (base : Nat) (G : Heap) (M : zM) (H : Heap) : Prop :=
  H.size = base + M.length ∧ M.length ≤ zBig ∧ (∀ q : Nat, q < base → H[q]? = G[q]?) ∧ ∀ (k : Nat) (x : zE), M[k]? = some x → zat D cy (zad g base) (base + k) x H
def zTys (cy : Nat → ClassId) : List (ClassId × FieldType) := [(cy 10, .int), (cy 11, .long), (cy 12, .boolean), (cy 13, .object RX6)]
def zisNest : Jvm.Cond → Bool
  | .methodLinkNest _ _ _ _ => true
  | _ => false
/-- the texts, as the tables have them -/
def ztxS : Nat → String
  | 0 => "force weight depth place minute beside felt boy odds pulls snores ghost slack at dream tug lasts passes pass deep when or and not all min max"
  | _ => ";[]()<>=+-*/%,"
def ztxI : Nat → Nat
  | 0 => 35
  | _ => 106
def zbyt : List (List Int32) := [(ztx 0).map nI, (ztx 1).map nI]
def zlen : List Nat := [(ztx 0).length, (ztx 1).length]
/-- what is known of the texts and of the statics that their methods read -/
def zSt (g : Nat → Nat) (base : Nat) (G : Heap) (U : State) : Prop :=
  (∀ k : Nat, k < 2 → vk_R RX5 (ztxI k) (ztxS k) (g (1 + k)) U) ∧ vk_S 2 zlen zbyt (fun i => g (1 + i)) (fun i => g (3 + i)) (fun q => base ≤ q) U G ∧ (∀ k : Nat, k < 2 → g (1 + k) < base) ∧
  va_Z "java/lang/String" "COMPACT_STRINGS" "Z" (.int 1) (fun q => base ≤ q) U G ∧ va_Zq "jdk/internal/util/Preconditions" "SIOOBE_FORMATTER" "Ljava/util/function/BiFunction;" (fun q => base ≤ q) U G ∧ va_AO RX6 U
theorem zSt.warm {g : Nat → Nat} {base : Nat} {G : Heap} {u U : State} (hW : u.WarmedH U.vm) (h : zSt g base G u) : zSt g base G U := ⟨fun k hk => (h.1 k hk).warm hW, h.2.1.moved hW.alike, h.2.2.1, h.2.2.2.1.moved hW.alike, h.2.2.2.2.1.moved hW.alike, h.2.2.2.2.2.moved hW.alike⟩
theorem zSt.same {g : Nat → Nat} {base : Nat} {G : Heap} {u U : State} (hv : u.vm = U.vm) (h : zSt g base G u) : zSt g base G U := by
  have ha : u.vm.Alike U.vm := by rw [hv]; exact Vm.Alike.refl U.vm
  exact ⟨fun k hk => (h.1 k hk).same hv.symm, h.2.1.moved ha, h.2.2.1, h.2.2.2.1.moved ha, h.2.2.2.2.1.moved ha, h.2.2.2.2.2.moved ha⟩
def zKn (D : va_G) (cy : Nat → ClassId) (g : Nat → Nat) (base : Nat) (G : Heap) (X : List Int32) (U : State) : Prop :=
  va_K D vwCl (zTys cy) U ∧ va_X (g 0) X.length (fun j => X.getD j 0) U G ∧ g 0 < base ∧ (∀ w ∈ lw_tbl, zisNest w = true → va_Nw w U) ∧ zSt g base G U
theorem zKn.warm {D : va_G} {cy : Nat → ClassId} {g : Nat → Nat} {base : Nat} {G : Heap} {X : List Int32} {u U : State} (hW : u.WarmedH U.vm) (h : zKn D cy g base G X u) : zKn D cy g base G X U := by
  refine ⟨h.1.moved hW.alike, h.2.1.moved hW.alike, h.2.2.1, fun w hw hn => ?_, h.2.2.2.2.warm hW⟩
  have h1 := h.2.2.2.1 w hw hn
  cases w with
  | methodLinkNest a i x h => exact va_Nw.warmM hW h1
  | _ => cases hn
theorem zKn.same {D : va_G} {cy : Nat → ClassId} {g : Nat → Nat} {base : Nat} {G : Heap} {X : List Int32} {u U : State} (hv : u.vm = U.vm) (h : zKn D cy g base G X u) : zKn D cy g base G X U := by
  have ha : u.vm.Alike U.vm := by rw [hv]; exact Vm.Alike.refl U.vm
  refine ⟨h.1.moved ha, h.2.1.moved ha, h.2.2.1, fun w hw hn => ?_, h.2.2.2.2.same hv⟩
  have h1 := h.2.2.2.1 w hw hn
  cases w with
  | methodLinkNest a i x h => exact va_Nw.same rfl hv h1
  | _ => cases hn
def zLo (base : Nat) (locs : List Loc) : Prop := ∀ q ∈ locs, base ≤ q.base
def zsl (M : zM) : Nat := (M.map fun x => x.2.length).sum
theorem zsl_app (M : zM) (x : zE) : zsl (M ++ [x]) = zsl M + x.2.length := by
  unfold zsl
  rw [List.map_append, List.sum_append]
  simp
theorem zsl_set : ∀ {M : zM} {a : Nat} {x y : zE}, M[a]? = some x → y.2.length = x.2.length → zsl (M.set a y) = zsl M
  | [], _, _, _, h, _ => by cases h
  | z :: M, 0, x, y, h, e => by
    cases h
    show (y.2.length :: _).sum = (z.2.length :: _).sum
    rw [List.sum_cons, List.sum_cons, e]
  | z :: M, a + 1, x, y, h, e => by
    show (z.2.length :: ((M.set a y).map fun x => x.2.length)).sum = (z.2.length :: _).sum
    rw [List.sum_cons, List.sum_cons]
    exact congrArg (z.2.length + ·) (zsl_set (M := M) (a := a) h e)
theorem zarr_some {M : zM} {a kind : Nat} {vs : List Value} (h : zarr M a kind = some vs) : M[a]? = some (kind, vs) := by
  unfold zarr at h
  split at h
  · split at h
    · rename_i hc
      cases h
      subst hc
      assumption
    · cases h
  · cases h
theorem zald_inv {M : zM} {kind : Nat} {st st' : List Value} (h : zald M kind st = some st') : ∃ (i : Int32) (a : Nat) (r vs : List Value) (v : Value), st = .int i :: .ref a :: r ∧ zarr M a kind = some vs ∧ ¬ (i < 0 ∨ vs.length ≤ i.toNatClampNeg) ∧ vs[i.toNatClampNeg]? = some v ∧ st' = v :: r := by
  unfold zald at h
  split at h
  · split at h
    · rename_i vs hz
      split at h
      · rename_i k hk
        unfold zidx at hk
        split at hk
        · cases hk
        · rename_i hc
          cases hk
          rw [Option.map_eq_some_iff] at h
          obtain ⟨v, hv, rfl⟩ := h
          exact ⟨_, _, _, vs, v, rfl, hz, hc, hv, rfl⟩
      · cases h
    · cases h
  · cases h
theorem zast_inv {M M' : zM} {kind : Nat} {v : Value} {st st' : List Value} (h : zast M kind v st = some (st', M')) : ∃ (i : Int32) (a : Nat) (vs : List Value), st = .int i :: .ref a :: st' ∧ zarr M a kind = some vs ∧ ¬ (i < 0 ∨ vs.length ≤ i.toNatClampNeg) ∧ M' = M.set a (kind, vs.set i.toNatClampNeg v) := by
  unfold zast at h
  split at h
  · split at h
    · rename_i vs hz
      split at h
      · rename_i k hk
        unfold zidx at hk
        split at hk
        · cases hk
        · rename_i hc
          cases hk
          cases h
          exact ⟨_, _, vs, rfl, hz, hc, rfl⟩
      · cases h
    · cases h
  · cases h
section ZM
variable {p : Program} {l : Launch} {e : Env} {R : Room} {s : State} {m : MethodId} {args : Array Value} {below : List Frame} {meth : Method} {c : Code} {H : Heap} {locs : List Loc} {cells slots : Nat} {Q : State → Prop} {cc : ByteArray} {pc : Nat} {ls : Array Slot}
variable {D : va_G} {cy : Nat → ClassId} {g : Nat → Nat} {base : Nat} {G : Heap} {X : List Int32} {own : Nat} {M M' : zM}
theorem zR.ad (h : zR D cy g base G M H) {k : Nat} {x : zE} (hk : M[k]? = some x) : zad g base k = base + k := by
  have h1 := (List.getElem?_eq_some_iff.mp hk).1
  have h2 := h.2.1
  unfold zad
  rw [if_pos (by omega)]
theorem zR.obj (h : zR D cy g base G M H) {a ci : Nat} {vs : List Value} (ha : zarr M a ci = some vs) (hc : ci < 10) : t_OB (zad g base a) (D.1 ci) (znf ci) (D.2 ci) H (zf (zad g base) vs) := by
  have h1 := h.2.2.2 a _ (zarr_some ha)
  unfold zat at h1
  rw [if_pos hc] at h1
  rw [h.ad (zarr_some ha)]
  exact h1
theorem zR.arr (h : zR D cy g base G M H) {a ci : Nat} {vs : List Value} (ha : M[a]? = some (ci, vs)) (hc : 10 ≤ ci) : H[zad g base a]? = some (arrV (cy ci) vs.length (zf (zad g base) vs)) := by
  have h1 := h.2.2.2 a _ ha
  unfold zat at h1
  rw [if_neg (by show ¬ ci < 10; omega)] at h1
  rw [h.ad ha]
  exact h1
theorem zR.set {H1 : Heap} (h : zR D cy g base G M H) {k : Nat} {x y : zE} (hk : M[k]? = some x) (z : H1.size = H.size) (oq : ∀ q : Nat, q ≠ zad g base k → H1[q]? = H[q]?) (hy : zat D cy (zad g base) (base + k) y H1) : zR D cy g base G (M.set k y) H1 := by
  have hl := (List.getElem?_eq_some_iff.mp hk).1
  have ea := h.ad hk
  refine ⟨by rw [z, List.length_set]; exact h.1, by rw [List.length_set]; exact h.2.1, fun q hq => ?_, fun j w hj => ?_⟩
  · rw [oq q (by omega)]
    exact h.2.2.1 q hq
  · rw [List.getElem?_set] at hj
    split at hj
    · rename_i hkj
      subst hkj
      first | (rw [if_pos hl] at hj; cases hj; exact hy) | (cases hj; exact hy)
    · rename_i hkj
      exact (h.2.2.2 j w hj).kept (oq _ (by omega))
theorem zR.push {H1 : Heap} (h : zR D cy g base G M H) {y : zE} (z : H1.size = H.size + 1) (oq : ∀ q : Nat, q < H.size → H1[q]? = H[q]?) (hy : zat D cy (zad g base) H.size y H1) (hl : M.length < zBig) : zR D cy g base G (M ++ [y]) H1 := by
  refine ⟨by rw [z, List.length_append, h.1]; simp; omega, by rw [List.length_append]; simp; omega, fun q hq => ?_, fun j w hj => ?_⟩
  · rw [oq q (by rw [h.1]; omega)]
    exact h.2.2.1 q hq
  · by_cases hlt : j < M.length
    · rw [List.getElem?_append_left hlt] at hj
      exact (h.2.2.2 j w hj).kept (oq _ (by rw [h.1]; omega))
    · rw [List.getElem?_append_right (by omega)] at hj
      have hz : j - M.length < 1 := (List.getElem?_eq_some_iff.mp hj).1
      have hj0 : j - M.length = 0 := by omega
      rw [hj0] at hj
      cases hj
      rw [show base + j = H.size by rw [h.1]; omega]
      exact hy
theorem zR.new (h : zR D cy g base G M H) (hl : M.length < zBig) : zad g base M.length = H.size := by
  unfold zad
  rw [if_pos hl, h.1]
theorem zLo.put (h : zLo base locs) {a k : Nat} (ha : base ≤ a) : zLo base (locs ++ [⟨a, k⟩]) := by
  intro q hq
  rcases List.mem_append.mp hq with h1 | h1
  · exact h q h1
  · rw [List.mem_singleton.mp h1]
    exact ha
theorem zget_sim (hx : p.tables.exec = Jvm.exec) (hb : c.code = cc) (hts : ∀ w ∈ zW, w.before args s = true) (hown : s.vm.findClass (zcn own) = some m.cls) (hK : zKn D cy g base G X s) (hR : zR D cy g base G M H) {idx ci k a : Nat} {vs r : List Value} {v : Value} (hf : zfld own idx = some (ci, k)) (ha : zarr M a ci = some vs) (hv : vs[k]? = some v) (hd : decode cc pc = .ok (.getfield idx, 3))
    (kk : W p l e R s m args below meth c H locs cells slots Q (F0 m (pc + 3) ls ((v :: r).map (ztr (zad g base))))) : W p l e R s m args below meth c H locs cells slots Q (F0 m pc ls ((Value.ref a :: r).map (ztr (zad g base)))) := by
  obtain ⟨hci, hk, hw⟩ := zfld_ok hf
  obtain ⟨hin, hty, hnm, hc, hdecl⟩ := zcls_ok hci
  obtain ⟨cell, q1, q2, q3, q4⟩ := hR.obj ha hci
  obtain ⟨hS, hfc, kC, hkC, hkind⟩ := hK.1.1 ci _ hc
  obtain ⟨cf, kf, fi, f, hi, hsl⟩ := hS k hk
  refine W.getf hx hb hown (hts _ hw) hi (u_facts hfc hkC (u_lays hts hin hk) hi).1 q1 (by rw [q3]; exact fun h => by cases h) (v := ztr (zad g base) v) ?_ rfl rfl hd kk
  rw [hsl, q4 k hk, zf_at hv]
theorem zput_sim (hx : p.tables.exec = Jvm.exec) (hb : c.code = cc) (hts : ∀ w ∈ zW, w.before args s = true) (hown : s.vm.findClass (zcn own) = some m.cls) (hK : zKn D cy g base G X s) (hR : zR D cy g base G M H) (hLo : zLo base locs) {idx ci k a : Nat} {vs r : List Value} {v : Value} (hf : zfld own idx = some (ci, k)) (ha : zarr M a ci = some vs) (hk2 : k < vs.length) (hn : narrow (zty ci k) v = v) (hft : fits (zty ci k) v = true) (hfin : (ztb ci k).2.2.2 = true → meth.name = "<init>" ∧ own = ci) (hd : decode cc pc = .ok (.putfield idx, 3))
    (kk : ∀ H' locs', zR D cy g base G (M.set a (ci, vs.set k v)) H' → zLo base locs' → W p l e R s m args below meth c H' locs' cells slots Q (F0 m (pc + 3) ls (r.map (ztr (zad g base))))) : W p l e R s m args below meth c H locs cells slots Q (F0 m pc ls ((v :: Value.ref a :: r).map (ztr (zad g base)))) := by
  obtain ⟨hci, hk, hw⟩ := zfld_ok hf
  obtain ⟨hin, hty, hnm, hc, hdecl⟩ := zcls_ok hci
  have hap := va_apart (own := zcn own) hts hin (zty ci) hty hnm hK.1 hc
  obtain ⟨cell, q1, q2, q3, q4⟩ := hR.obj ha hci
  obtain ⟨hS, hfc, kC, hkC, hkind⟩ := hK.1.1 ci _ hc
  obtain ⟨cf, kf, fi, f, hi, hsl⟩ := hS k hk
  have hst := (u_facts hfc hkC (u_lays hts hin hk) hi).1
  have ea := hR.ad (zarr_some ha)
  have fin : ∀ H' : Heap, H'[zad g base a]? = some (cell.setSlot f.slot (ztr (zad g base) v)) → H'.size = H.size → (∀ q, q ≠ zad g base a → H'[q]? = H[q]?) → zR D cy g base G (M.set a (ci, vs.set k v)) H' := by
    intro H' e1 e2 e3
    refine hR.set (zarr_some ha) e2 e3 ?_
    unfold zat
    rw [if_pos hci, ← ea]
    rw [hsl] at e1
    show t_OB _ _ _ _ _ (zf (zad g base) (vs.set k v))
    rw [zf_set hk2]
    exact ⟨_, e1, q2, q3, t_set q4 hap hk _⟩
  by_cases hfl : (ztb ci k).2.2.2 = true
  · obtain ⟨hini, hoc⟩ := hfin hfl
    have hlay := hts _ (hin _ (u_in_lay hk))
    unfold u_lay at hlay
    rw [if_pos hfl] at hlay
    have hcf : m.cls = cf := by
      obtain ⟨_, _, c', _, _, _, -, -, hf', -, -, -, hown2, -⟩ := Cond.laysFinal_spec hlay
      have e1 : c' = cf := by have := hi.symm.trans hf'; simp at this; exact this.1.symm
      rw [hdecl k hk, ← hoc] at hown2
      rw [← e1]; exact Option.some.inj (hown.symm.trans hown2)
    have h6 := u_fits hfc hkC hkind (Or.inr hlay) hi (hty k hk) (ztr_narrow hn) (ztr_fits (ad := zad g base) hft)
    exact W.putFinK hx hb hown (hts _ hw) hi hst hcf hini (by rw [q2]; exact h6) q1 q3 (by rw [hsl]; exact k2_hasslot (q4 k hk)) rfl rfl hd fun H' e1 e2 e3 => kk H' _ (fin H' e1 e2 e3) (hLo.put (by rw [ea]; omega))
  · have hlay := hts _ (hin _ (u_in_lay hk))
    unfold u_lay at hlay
    rw [if_neg hfl] at hlay
    have h6 := u_store hfc hkC hkind hlay hi (hty k hk) (ztr_narrow hn) (ztr_fits (ad := zad g base) hft)
    exact W.putK hx hb (f := f) ⟨hown, hts _ hw, ⟨_, _, _, hi⟩, hst⟩ (by rw [q2]; exact h6) q1 q3 (by rw [hsl]; exact k2_hasslot (q4 k hk)) rfl rfl hd fun H' e1 e2 e3 => kk H' _ (fin H' e1 e2 e3) (hLo.put (by rw [ea]; omega))
theorem zarr_put (hR : zR D cy g base G M H) {a kind k : Nat} {vs : List Value} {v : Value} (ha : M[a]? = some (kind, vs)) (hk : 10 ≤ kind) (hlt : k < vs.length) {H' : Heap} (e1 : H'[zad g base a]? = some ((arrV (cy kind) vs.length (zf (zad g base) vs)).setSlot k (ztr (zad g base) v))) (e2 : H'.size = H.size) (e3 : ∀ q, q ≠ zad g base a → H'[q]? = H[q]?) : zR D cy g base G (M.set a (kind, vs.set k v)) H' := by
  refine hR.set ha e2 e3 ?_
  unfold zat
  rw [if_neg (by show ¬ kind < 10; omega), ← hR.ad ha]
  show _ = some (arrV _ (vs.set k v).length (zf _ (vs.set k v)))
  rw [e1, arrV_store, List.length_set, zf_set hlt]
end ZM
end
section
/-! the small machine's cell steps are the machine's -/
theorem zw_int : .arrayClass .int ∈ zW := zhas_in (pos := 203) (by decide +kernel)
theorem zw_boolean : .arrayClass .boolean ∈ zW := zhas_in (pos := 204) (by decide +kernel)
theorem zw_long : .arrayClass .long ∈ zW := zhas_in (pos := 1494) (by decide +kernel)
theorem zad_big (g : Nat → Nat) (base k : Nat) : zad g base (zBig + k) = g k := by
  unfold zad
  rw [if_neg (by omega), Nat.add_sub_cancel_left]
theorem ztr_default (ad : Nat → Nat) (t : FieldType) : ztr ad (defaultValue t) = defaultValue t := by cases t <;> rfl
theorem zdef_len (ci : Nat) : (zdef ci).length = znf ci := by simp [zdef]
theorem zdef_at (ad : Nat → Nat) {ci k : Nat} (hk : k < znf ci) : zf ad (zdef ci) k = defaultValue (zty ci k) := by
  rw [zf_at (v := defaultValue (zty ci k)) (by simp [zdef, hk])]
  exact ztr_default ad _
theorem zf_rep (ad : Nat → Nat) (n : Nat) (v : Value) (hv : ztr ad v = v) (c : ClassId) : arrV c n (zf ad (List.replicate n v)) = arrV c n (fun _ => v) := by
  unfold arrV
  congr 1
  apply Array.ext
  · simp
  · intro i h1 h2
    simp only [Array.size_ofFn] at h1
    simp only [Array.getElem_ofFn]
    rw [zf_at (v := v) (by simp [h1])]
    exact hv
section ZM3
variable {p : Program} {l : Launch} {e : Env} {R : Room} {s : State} {m : MethodId} {args : Array Value} {below : List Frame} {meth : Method} {c : Code} {H : Heap} {locs : List Loc} {cells slots : Nat} {Q : State → Prop} {cc : ByteArray} {pc : Nat} {ls : Array Slot}
variable {D : va_G} {cy : Nat → ClassId} {g : Nat → Nat} {base : Nat} {G : Heap} {X : List Int32} {own : Nat} {M M' : zM}
theorem zR.in (hR : zR D cy g base G M H) {a kind : Nat} {vs : List Value} {i : Int32} (hi : ¬ (i < 0 ∨ vs.length ≤ i.toNatClampNeg)) : ¬ (i < 0 ∨ (arrV (cy kind) vs.length (zf (zad g base) vs)).slots.size ≤ i.toNatClampNeg) := by
  rw [arrV_size]
  exact hi
theorem znewa_sim (hx : p.tables.exec = Jvm.exec) (hb : c.code = cc) (hK : zKn D cy g base G X s) (hR : zR D cy g base G M H) {aty : ArrayType} {kind t0 : Nat} {dv : Value} {n : Int32} {r : List Value} (harr : (Jvm.Cond.arrayClass (newarray.typeOf aty)).before args s = true) (ht : (zTys cy)[t0]? = some (cy kind, newarray.typeOf aty)) (hk : 10 ≤ kind) (hdv : defaultValue (newarray.typeOf aty) = dv) (htv : ztr (zad g base) dv = dv) (hno : ∀ C, newarray.typeOf aty ≠ .object C) (hn : ¬ n < 0) (hN : n.toNatClampNeg ≤ 100000) (hl : M.length < zBig) (hcb : componentBytes (newarray.typeOf aty) ≤ 8) (hc : cells + 1 ≤ R.cells) (hs : slots + n.toNatClampNeg ≤ R.slots) (hd : decode cc pc = .ok (.newarray aty, 2))
    (kk : ∀ H', zR D cy g base G (M ++ [(kind, List.replicate n.toNatClampNeg dv)]) H' → W p l e R s m args below meth c H' locs (cells + 1) (slots + n.toNatClampNeg) Q (F0 m (pc + 2) ls ((Value.ref M.length :: r).map (ztr (zad g base))))) : W p l e R s m args below meth c H locs cells slots Q (F0 m pc ls ((Value.int n :: r).map (ztr (zad g base)))) := by
  refine W.newa hx hb harr rfl hd rfl hn (Nat.le_trans (Nat.mul_le_mul hN hcb) (Nat.le_of_ble_eq_true rfl)) hc hs fun cA kA comp h1 h2 h3 => ?_
  have hfc := (hK.1.2 t0 _ ht).2
  have hcA : cA = cy kind := by
    have h4 : s.vm.findClass ("[" ++ (newarray.typeOf aty).toString) = some (cy kind) := by
      unfold va_RA at hfc
      split at hfc
      · rename_i C hC
        exact absurd hC (hno C)
      · exact hfc
    exact Option.some.inj (h1.symm.trans h4)
  subst hcA
  have hz := kk (H.push { cls := cy kind, slots := Array.replicate n.toNatClampNeg (defaultValue (newarray.typeOf aty)), vm := .none }) (hR.push (by simp) (fun q hq => by rw [Array.getElem?_push, if_neg (Nat.ne_of_lt hq)]) (by
    unfold zat
    rw [if_neg (by show ¬ kind < 10; omega)]
    rw [Array.getElem?_push_size, arrV_new, hdv]
    show _ = some (arrV (cy kind) (List.replicate n.toNatClampNeg dv).length (zf _ (List.replicate n.toNatClampNeg dv)))
    rw [List.length_replicate, zf_rep _ _ _ htv]) hl)
  have hq : (Value.ref M.length :: r).map (ztr (zad g base)) = Value.ref H.size :: r.map (ztr (zad g base)) := by
    show Value.ref (zad g base M.length) :: _ = _
    rw [hR.new hl]
  rw [hq] at hz
  exact hz
theorem znewq_sim (hx : p.tables.exec = Jvm.exec) (hb : c.code = cc) (hts : ∀ w ∈ zW, w.before args s = true) (hown : s.vm.findClass (zcn own) = some m.cls) (hK : zKn D cy g base G X s) (hR : zR D cy g base G M H) {idx : Nat} {n : Int32} {r : List Value} (hnw : znew own idx = some 6) (hn : ¬ n < 0) (hN : n.toNatClampNeg ≤ 100000) (hl : M.length < zBig) (hc : cells + 1 ≤ R.cells) (hs : slots + n.toNatClampNeg ≤ R.slots) (hd : decode cc pc = .ok (.anewarray idx, 3))
    (kk : ∀ H', zR D cy g base G (M ++ [(13, List.replicate n.toNatClampNeg .null)]) H' → W p l e R s m args below meth c H' locs (cells + 1) (slots + n.toNatClampNeg) Q (F0 m (pc + 3) ls ((Value.ref M.length :: r).map (ztr (zad g base))))) : W p l e R s m args below meth c H locs cells slots Q (F0 m pc ls ((Value.int n :: r).map (ztr (zad g base)))) := by
  obtain ⟨-, hw, -, -⟩ := znew_ok hnw
  refine W.anew hx hb hown (hts _ hw) hK.2.2.2.2.2.2.2.2.2.use rfl hd rfl hn (Nat.le_trans (Nat.mul_le_mul hN (Nat.le_refl 4)) (Nat.le_of_ble_eq_true rfl)) hc hs fun cA kA comp f1 f2 f3 f4 => ?_
  obtain ⟨kA', comp', g1, g2, g3, g4⟩ := (hK.1.2 3 _ rfl).2
  have hcA : cA = cy 13 := Option.some.inj (f1.symm.trans g4)
  subst hcA
  have hz := kk (H.push { cls := cy 13, slots := Array.replicate n.toNatClampNeg .null, vm := .none }) (hR.push (by simp) (fun q hq => by rw [Array.getElem?_push, if_neg (Nat.ne_of_lt hq)]) (by
    unfold zat
    rw [if_neg (by show ¬ 13 < 10; omega)]
    rw [Array.getElem?_push_size, arrV_new]
    show _ = some (arrV (cy 13) (List.replicate n.toNatClampNeg Value.null).length (zf _ (List.replicate n.toNatClampNeg .null)))
    rw [List.length_replicate, zf_rep _ _ _ rfl]) hl)
  have hq : (Value.ref M.length :: r).map (ztr (zad g base)) = Value.ref H.size :: r.map (ztr (zad g base)) := by
    show Value.ref (zad g base M.length) :: _ = _
    rw [hR.new hl]
  rw [hq] at hz
  exact hz
theorem znew_sim (hx : p.tables.exec = Jvm.exec) (hb : c.code = cc) (hts : ∀ w ∈ zW, w.before args s = true) (hown : s.vm.findClass (zcn own) = some m.cls) (hK : zKn D cy g base G X s) (hR : zR D cy g base G M H) {idx ci : Nat} {r : List Value} (hnw : znew own idx = some ci) (hl : M.length < zBig) (hc : cells + 1 ≤ R.cells) (hs : slots + znf ci ≤ R.slots) (hd : decode cc pc = .ok (.new idx, 3))
    (kk : ∀ H', zR D cy g base G (M ++ [(ci, zdef ci)]) H' → W p l e R s m args below meth c H' locs (cells + 1) (slots + znf ci) Q (F0 m (pc + 3) ls ((Value.ref M.length :: r).map (ztr (zad g base))))) : W p l e R s m args below meth c H locs cells slots Q (F0 m pc ls (r.map (ztr (zad g base)))) := by
  obtain ⟨hci, w1, w2, w3⟩ := znew_ok hnw
  obtain ⟨hin, hty, hnm, hcl, -⟩ := zcls_ok hci
  have hKn := hK.1.1 ci _ hcl
  refine W.newcK hx hb hown (hts _ w1) (hts _ w2) (hts _ w3) rfl hd hc hs hKn.2.1 rfl fun H1 kC hkC e1 z1 o1 => ?_
  have hz := kk H1 (hR.push z1 o1 (by
    unfold zat
    rw [if_pos (by exact hci)]
    exact (u_born (zty ci) hts hin hKn hkC e1 hty).to (fun j hj => (zdef_at _ hj).symm)) hl)
  have hq : (Value.ref M.length :: r).map (ztr (zad g base)) = Value.ref H.size :: r.map (ztr (zad g base)) := by
    show Value.ref (zad g base M.length) :: _ = _
    rw [hR.new hl]
  rw [hq] at hz
  exact hz
theorem zmem_sim (hx : p.tables.exec = Jvm.exec) (hb : c.code = cc) (hts : ∀ w ∈ zW, w.before args s = true) (hown : s.vm.findClass (zcn own) = some m.cls) (hK : zKn D cy g base G X s) {ini : Bool} (hini : ini = true → meth.name = "<init>") (hR : zR D cy g base G M H) (hLo : zLo base locs) {i : Instr} {len n : Nat} {st st' : List Value} (hd : decode cc pc = .ok (i, len)) (h : zmem own ini X i st M = some (n, st', M')) (hn : n = len) (hc : cells + M'.length ≤ R.cells + M.length) (hs : slots + zsl M' ≤ R.slots + zsl M)
    (kk : ∀ H' locs' cells' slots', zR D cy g base G M' H' → zLo base locs' → cells' + M.length = cells + M'.length → slots' + zsl M = slots + zsl M' → W p l e R s m args below meth c H' locs' cells' slots' Q (F0 m (pc + len) ls (st'.map (ztr (zad g base))))) : W p l e R s m args below meth c H locs cells slots Q (F0 m pc ls (st.map (ztr (zad g base)))) := by
  subst hn
  unfold zmem at h
  split at h
  · split at h
    · split at h
      · rename_i hf _ _ ha
        rw [Option.map_eq_some_iff] at h
        obtain ⟨v, hv, hq⟩ := h
        cases hq
        exact zget_sim hx hb hts hown hK hR hf ha hv hd (kk H locs cells slots hR hLo rfl rfl)
      · cases h
    · cases h
  · split at h
    · split at h
      · rename_i hf _ vs ha
        split at h
        · rename_i hq
          cases h
          exact zput_sim hx hb hts hown hK hR hLo hf ha hq.1 hq.2.1 hq.2.2.1 (fun z => ⟨hini (hq.2.2.2 z).1, (hq.2.2.2 z).2⟩) hd (fun H' locs' g1 g2 => kk H' locs' cells slots g1 g2 (by rw [List.length_set]) (by rw [zsl_set (zarr_some ha) (by simp)]))
        · cases h
      · cases h
    · cases h
  · split at h
    · rename_i ha
      subst ha
      split at h
      · cases h
      · rename_i hq0
        have hq := fun z => hq0 (Or.inr z)
        cases h
        obtain ⟨scr, h1, h2, h3, h4, h5⟩ := hK.2.1
        have e1 : zad g base zBig = g 0 := zad_big g base 0
        refine W.iald (v := .int (X.getD _ 0)) hx hb (by rw [e1, hR.2.2.1 (g 0) hK.2.2.1]; exact h1) h2 h3 (by rw [h4]; exact hq) (h5 _ (Nat.not_le.mp fun z => hq (Or.inr z))) rfl rfl hd (kk H locs cells slots hR hLo rfl rfl)
    · rw [Option.map_eq_some_iff] at h
      obtain ⟨st1, hz, hq⟩ := h
      cases hq
      obtain ⟨j, a, r, vs, v, e0, ha, hin, hv, rfl⟩ := zald_inv hz
      rw [e0]
      exact W.iald (v := ztr (zad g base) v) hx hb (hR.arr (zarr_some ha) (by omega)) ((hK.1.2 0 _ rfl).1 _ _) (fun q => by cases q) (hR.in (a := a) hin) (by rw [arrV_read _ _ (Nat.not_le.mp fun z => hin (Or.inr z)), zf_at hv]) rfl rfl hd (kk H locs cells slots hR hLo rfl rfl)
  · rw [Option.map_eq_some_iff] at h
    obtain ⟨st1, hz, hq⟩ := h
    cases hq
    obtain ⟨j, a, r, vs, v, rfl, ha, hin, hv, rfl⟩ := zald_inv hz
    exact W.lald (v := ztr (zad g base) v) hx hb (hR.arr (zarr_some ha) (by omega)) ((hK.1.2 1 _ rfl).1 _ _) (fun q => by cases q) (hR.in (a := a) hin) (by rw [arrV_read _ _ (Nat.not_le.mp fun z => hin (Or.inr z)), zf_at hv]) rfl rfl hd (kk H locs cells slots hR hLo rfl rfl)
  · rw [Option.map_eq_some_iff] at h
    obtain ⟨st1, hz, hq⟩ := h
    cases hq
    obtain ⟨j, a, r, vs, v, rfl, ha, hin, hv, rfl⟩ := zald_inv hz
    exact W.zald (v := ztr (zad g base) v) hx hb (hR.arr (zarr_some ha) (by omega)) ((hK.1.2 2 _ rfl).1 _ _) (fun q => by cases q) (hR.in (a := a) hin) (by rw [arrV_read _ _ (Nat.not_le.mp fun z => hin (Or.inr z)), zf_at hv]) rfl rfl hd (kk H locs cells slots hR hLo rfl rfl)
  · rw [Option.map_eq_some_iff] at h
    obtain ⟨st1, hz, hq⟩ := h
    cases hq
    obtain ⟨j, a, r, vs, v, rfl, ha, hin, hv, rfl⟩ := zald_inv hz
    exact W.aald (v := ztr (zad g base) v) hx hb (hR.arr (zarr_some ha) (by omega)) ((hK.1.2 3 _ rfl).1 _ _) rfl (fun q => by cases q) (hR.in (a := a) hin) (by rw [arrV_read _ _ (Nat.not_le.mp fun z => hin (Or.inr z)), zf_at hv]) rfl rfl hd (kk H locs cells slots hR hLo rfl rfl)
  · rw [Option.map_eq_some_iff] at h
    obtain ⟨⟨st1, M1⟩, hz, hq⟩ := h
    cases hq
    obtain ⟨j, a, vs, rfl, ha, hin, rfl⟩ := zast_inv hz
    have hlt : j.toNatClampNeg < vs.length := Nat.not_le.mp fun z => hin (Or.inr z)
    exact W.iast hx hb (hR.arr (zarr_some ha) (by omega)) ((hK.1.2 0 _ rfl).1 _ _) (fun q => by cases q) (hR.in (a := a) hin) rfl rfl hd fun H1 e1 z oq => kk H1 _ cells slots (zarr_put hR (zarr_some ha) (by omega) hlt e1 z oq) (hLo.put (by rw [hR.ad (zarr_some ha)]; omega)) (by rw [List.length_set]) (by rw [zsl_set (zarr_some ha) (by simp)])
  · rw [Option.map_eq_some_iff] at h
    obtain ⟨⟨st1, M1⟩, hz, hq⟩ := h
    cases hq
    obtain ⟨j, a, vs, rfl, ha, hin, rfl⟩ := zast_inv hz
    have hlt : j.toNatClampNeg < vs.length := Nat.not_le.mp fun z => hin (Or.inr z)
    exact W.last hx hb (hR.arr (zarr_some ha) (by omega)) ((hK.1.2 1 _ rfl).1 _ _) (fun q => by cases q) (hR.in (a := a) hin) rfl rfl hd fun H1 e1 z oq => kk H1 _ cells slots (zarr_put hR (zarr_some ha) (by omega) hlt e1 z oq) (hLo.put (by rw [hR.ad (zarr_some ha)]; omega)) (by rw [List.length_set]) (by rw [zsl_set (zarr_some ha) (by simp)])
  · split at h
    · rename_i hnar
      rw [Option.map_eq_some_iff] at h
      obtain ⟨⟨st1, M1⟩, hz, hq⟩ := h
      cases hq
      obtain ⟨j, a, vs, rfl, ha, hin, rfl⟩ := zast_inv hz
      have hlt : j.toNatClampNeg < vs.length := Nat.not_le.mp fun z => hin (Or.inr z)
      exact W.zast hx hb (hR.arr (zarr_some ha) (by omega)) ((hK.1.2 2 _ rfl).1 _ _) (fun q => by cases q) (hR.in (a := a) hin) rfl rfl hd fun H1 e1 z oq => kk H1 _ cells slots (zarr_put (v := .int _) hR (zarr_some ha) (by omega) hlt (by rw [hnar] at e1; exact e1) z oq) (hLo.put (by rw [hR.ad (zarr_some ha)]; omega)) (by rw [List.length_set]) (by rw [zsl_set (zarr_some ha) (by simp)])
    · cases h
  · split at h
    · rename_i hsome
      obtain ⟨vs6, hv6⟩ := Option.isSome_iff_exists.mp hsome
      rw [Option.map_eq_some_iff] at h
      obtain ⟨⟨st1, M1⟩, hz, hq⟩ := h
      cases hq
      obtain ⟨j, a, vs, rfl, ha, hin, rfl⟩ := zast_inv hz
      have hlt : j.toNatClampNeg < vs.length := Nat.not_le.mp fun z => hin (Or.inr z)
      obtain ⟨cellV, q1, q2, q3, q4⟩ := hR.obj hv6 (by omega)
      have hcls := (hK.1.1 6 _ rfl).2
      obtain ⟨kA, comp, k1, k2, k3, -⟩ := (hK.1.2 3 _ rfl).2
      have hcomp : comp = D.1 6 := Option.some.inj (k3.symm.trans hcls.1)
      subst hcomp
      obtain ⟨kC, hkC, -⟩ := hcls.2
      exact W.aast hx hb (hR.arr (zarr_some ha) (by omega)) (fun q h => by cases h) (fun h => by cases h) k1 k2 rfl hkC ⟨fun q => hin (Or.inl q), by rw [arrV_size]; exact hlt⟩ q1 (fun q h => by rw [q3] at h; cases h) (by rw [q2]; exact hkC) (by rw [q2]; exact va_assign hcls) rfl rfl hd fun H1 e1 z oq => kk H1 _ cells slots (zarr_put (v := .ref _) hR (zarr_some ha) (by omega) hlt e1 z oq) (hLo.put (by rw [hR.ad (zarr_some ha)]; omega)) (by rw [List.length_set]) (by rw [zsl_set (zarr_some ha) (by simp)])
    · cases h
  · split at h
    · rename_i ha
      subst ha
      split at h
      · cases h
        obtain ⟨scr, h1, h2, h3, h4, h5⟩ := hK.2.1
        have e1 : zad g base zBig = g 0 := zad_big g base 0
        exact W.alen (n := Int32.ofNat X.length) hx hb (by rw [e1, hR.2.2.1 (g 0) hK.2.2.1]; exact h1) h2 (by rw [h4] <;> rfl) rfl rfl hd (kk H locs cells slots hR hLo rfl rfl)
      · cases h
    · split at h
      · rename_i kd vs ha
        split at h
        · rename_i hq
          cases h
          have hcell := hR.arr ha hq.1
          have ho : kd = 10 ∨ kd = 11 ∨ kd = 12 ∨ kd = 13 := by omega
          rcases ho with rfl | rfl | rfl | rfl
          · exact W.alen (n := Int32.ofNat vs.length) hx hb hcell ((hK.1.2 0 _ rfl).1 _ _) (by rw [arrV_size] <;> rfl) rfl rfl hd (kk H locs cells slots hR hLo rfl rfl)
          · exact W.alen (n := Int32.ofNat vs.length) hx hb hcell ((hK.1.2 1 _ rfl).1 _ _) (by rw [arrV_size] <;> rfl) rfl rfl hd (kk H locs cells slots hR hLo rfl rfl)
          · exact W.alen (n := Int32.ofNat vs.length) hx hb hcell ((hK.1.2 2 _ rfl).1 _ _) (by rw [arrV_size] <;> rfl) rfl rfl hd (kk H locs cells slots hR hLo rfl rfl)
          · exact W.alen (n := Int32.ofNat vs.length) hx hb hcell ((hK.1.2 3 _ rfl).1 _ _) (by rw [arrV_size] <;> rfl) rfl rfl hd (kk H locs cells slots hR hLo rfl rfl)
        · cases h
      · cases h
  · split at h
    · rename_i ci hnw
      split at h
      · rename_i hl
        cases h
        have hlen := List.length_append (as := M) (bs := [(ci, zdef ci)])
        have hsl := zsl_app M (ci, zdef ci)
        simp only [List.length_cons, List.length_nil] at hlen
        dsimp only at hsl
        rw [zdef_len] at hsl
        exact znew_sim hx hb hts hown hK hR hnw hl (by omega) (by omega) hd fun H' g1 => kk H' locs _ _ g1 hLo (by omega) (by omega)
      · cases h
    · cases h
  · split at h
    · rename_i kind v hat
      split at h
      · rename_i hq
        cases h
        have hlen := List.length_append (as := M) (bs := [(kind, List.replicate (Int32.toNatClampNeg ‹Int32›) v)])
        have hsl := zsl_app M (kind, List.replicate (Int32.toNatClampNeg ‹Int32›) v)
        simp only [List.length_cons, List.length_nil] at hlen
        dsimp only at hsl
        rw [List.length_replicate] at hsl
        unfold zaty at hat
        split at hat
        · cases hat
          exact znewa_sim (aty := .int) (t0 := 0) hx hb hK hR (hts _ zw_int) rfl (by omega) rfl rfl (fun C z => by cases z) hq.1 hq.2.1 hq.2.2 (by decide) (by omega) (by omega) hd fun H' g1 => kk H' locs _ _ g1 hLo (by omega) (by omega)
        · cases hat
          exact znewa_sim (aty := .long) (t0 := 1) hx hb hK hR (hts _ zw_long) rfl (by omega) rfl rfl (fun C z => by cases z) hq.1 hq.2.1 hq.2.2 (by decide) (by omega) (by omega) hd fun H' g1 => kk H' locs _ _ g1 hLo (by omega) (by omega)
        · cases hat
          exact znewa_sim (aty := .boolean) (t0 := 2) hx hb hK hR (hts _ zw_boolean) rfl (by omega) rfl rfl (fun C z => by cases z) hq.1 hq.2.1 hq.2.2 (by decide) (by omega) (by omega) hd fun H' g1 => kk H' locs _ _ g1 hLo (by omega) (by omega)
        · cases hat
      · cases h
    · cases h
  · split at h
    · rename_i hq
      cases h
      have hlen := List.length_append (as := M) (bs := [(13, List.replicate (Int32.toNatClampNeg ‹Int32›) Value.null)])
      have hsl := zsl_app M (13, List.replicate (Int32.toNatClampNeg ‹Int32›) Value.null)
      simp only [List.length_cons, List.length_nil] at hlen
      dsimp only at hsl
      rw [List.length_replicate] at hsl
      exact znewq_sim hx hb hts hown hK hR hq.1 hq.2.1 hq.2.2.1 hq.2.2.2 (by omega) (by omega) hd fun H' g1 => kk H' locs _ _ g1 hLo (by omega) (by omega)
    · cases h
  · split at h
    · rename_i hv
      cases h
      exact lv_ldc hx hb hown (hts _ (zldc_ok hv)) hd (kk H locs cells slots hR hLo rfl rfl)
    · split at h
      · rename_i k hk
        cases h
        have e1 : zad g base (zBig + 1 + k) = g (1 + k) := by rw [Nat.add_assoc]; exact zad_big g base (1 + k)
        have hz := kk H locs cells slots hR hLo rfl rfl
        have hq : (Value.ref (zBig + 1 + k) :: st).map (ztr (zad g base)) = Value.ref (g (1 + k)) :: st.map (ztr (zad g base)) := by
          show Value.ref (zad g base (zBig + 1 + k)) :: _ = _
          rw [e1]
        rw [hq] at hz
        unfold zstr at hk
        split at hk
        · cases hk
          exact va_ldcS hx hb hown (hK.2.2.2.2.1 0 (by omega)) hd hz
        · cases hk
          exact va_ldcS hx hb hown (hK.2.2.2.2.1 1 (by omega)) hd hz
        · cases hk
      · cases h
  · split at h
    · rename_i hv
      cases h
      exact lv_ldcw hx hb hown (hts _ (zldc_ok hv)) hd (kk H locs cells slots hR hLo rfl rfl)
    · cases h
  · split at h
    · rename_i hv
      cases h
      exact lv_ldc2 hx hb hown (hts _ (zldl_ok hv)) hd (kk H locs cells slots hR hLo rfl rfl)
    · cases h
  · cases h
end ZM3
end
section
/-! the small machine's calls, steps and runs are the machine's -/
def zroom (d mc ms : Nat) : Jvm.Room := { frames := d, cells := mc, slots := ms, locals := 40 * d }
abbrev zws (y : MethodName) (cc : ByteArray) (ml : Nat) (ret : Option FieldType) : List Jvm.Cond := .code y cc ml ret :: zW
theorem zGood {ws : List Jvm.Cond} (h : ∀ w ∈ ws, w ∈ zW) : GoodIn zW ws := fun w hw => ⟨h w hw, good_of_word (zW_good (h w hw))⟩
theorem zGoodM {y : MethodName} {cc : ByteArray} {ml : Nat} {ret : Option FieldType} (h : .code y cc ml ret ∈ zW) : ∀ w ∈ zws y cc ml ret, w ∈ zW := fun w hw => (List.mem_cons.mp hw).elim (fun z => by rw [z]; exact h) id
def zPc (D : va_G) (cy : Nat → ClassId) (g : Nat → Nat) (base : Nat) (G : Heap) (X : List Int32) (vs : List Value) (M : zM) : Array Value → State → Prop := va_Pc (vs.map (ztr (zad g base))) (fun U => zR D cy g base G M U.heap ∧ zKn D cy g base G X U)
def zQc (D : va_G) (cy : Nat → ClassId) (g : Nat → Nat) (base : Nat) (G : Heap) (r : zRes) : Array Value → State → Outcome → State → Prop := fun _ _ o t => o = .returned (r.1.map (ztr (zad g base))) ∧ zR D cy g base G r.2 t.heap
/-- a method's contract out of one run of the small machine -/
def zMet (l : Launch) (D : va_G) (cy : Nat → ClassId) (g : Nat → Nat) (base : Nat) (G : Heap) (X : List Int32) (d : Nat) (y : MethodName) (cc : ByteArray) (ml : Nat) (ret : Option FieldType) (vs : List Value) (M : zM) (r : zRes) : Prop :=
  Met l y (zws y cc ml ret) (zroom d (r.2.length - M.length) (zsl r.2 - zsl M)) (zPc D cy g base G X vs M) (zQc D cy g base G r) (r.2.length - M.length) (zsl r.2 - zsl M) (fun q => base ≤ q)
/-- the members of the texts: their names, codes -/
def zsy : Nat → MethodName × ByteArray × Nat × Nat
  | 3328 => (yJ0_length_8abf5, cJ0_length_8abf5, 1, 0)
  | 3329 => (yJ0_charAt_5068e, cJ0_charAt_5068e, 2, 1)
  | _ => (yJ0_indexOf_0f7a4, cJ0_indexOf_0f7a4, 2, 1)
def zsr : Nat → Option FieldType
  | 3329 => some .char
  | _ => some .int
/-- what the texts' members must do -/
def zStrOK (l : Launch) (D : va_G) (cy : Nat → ClassId) (g : Nat → Nat) (base : Nat) (G : Heap) (X : List Int32) : Prop :=
  ∀ (j : Nat) (vs : List Value) (M : zM) (r : zRes), zprm j vs M = some r → zMet l D cy g base G X 4 (zsy j).1 (zsy j).2.1 (zsy j).2.2.1 (zsr j) vs M r
def zCallOK (l : Launch) (D : va_G) (cy : Nat → ClassId) (g : Nat → Nat) (base : Nat) (G : Heap) (X : List Int32) (d : Nat) (call : Nat → List Value → zM → Option zRes) : Prop :=
  ∀ (j : Nat) (vs : List Value) (M : zM) (r : zRes), call j vs M = some r → (∀ ci na y cc ml ret pos, zmt j = some (ci, na, y, cc, ml, ret, pos) → zMet l D cy g base G X d y cc ml ret vs M r) ∧ (zmt j = none → zprm j vs M = some r ∧ 4 ≤ d) ∧ M.length ≤ r.2.length ∧ zsl M ≤ zsl r.2
theorem zBlind {D : va_G} {cy : Nat → ClassId} {g : Nat → Nat} {base : Nat} {G : Heap} {X : List Int32} {vs : List Value} {M : zM} : FrameBlind (zPc D cy g base G X vs M) := fun a U f mk h => ⟨h.1, h.2.1, zKn.same (u := U) (U := U.calling f mk a) rfl h.2.2⟩
theorem zsy0 : .code yJ0_length_8abf5 cJ0_length_8abf5 1 (some .int) ∈ zW := zhas_in (pos := 304) (by decide +kernel)
theorem zsy1 : .code yJ0_charAt_5068e cJ0_charAt_5068e 2 (some .char) ∈ zW := zhas_in (pos := 314) (by decide +kernel)
theorem zsy2 : .code yJ0_indexOf_0f7a4 cJ0_indexOf_0f7a4 2 (some .int) ∈ zW := zhas_in (pos := 678) (by decide +kernel)
theorem zarrV_congr {cI : ClassId} {N : Nat} {f f' : Nat → Value} (h : ∀ j, j < N → f j = f' j) : arrV cI N f = arrV cI N f' := by
  unfold arrV
  congr 1
  apply Array.ext
  · simp
  · intro i h1 h2
    simp only [Array.size_ofFn] at h1
    simp only [Array.getElem_ofFn]
    exact h i h1
theorem zcpy_len {f g : List Value} {sp dp n : Nat} (h4 : sp + n ≤ f.length) (h5 : dp + n ≤ g.length) : (zcpy f g sp dp n).length = g.length := by
  simp only [zcpy, List.length_append, List.length_take, List.length_drop]
  omega
theorem zcpy_get {f g : List Value} {sp dp n j : Nat} (h4 : sp + n ≤ f.length) (h5 : dp + n ≤ g.length) : (zcpy f g sp dp n)[j]? = if dp ≤ j ∧ j < dp + n then f[sp + (j - dp)]? else g[j]? := by
  have e1 : (g.take dp).length = dp := by simp; omega
  have e2 : ((f.drop sp).take n).length = n := by simp; omega
  unfold zcpy
  rw [List.append_assoc, List.getElem?_append, e1]
  by_cases c1 : j < dp
  · rw [if_pos c1, if_neg (by omega), List.getElem?_take, if_pos c1]
  · rw [if_neg c1, List.getElem?_append, e2]
    by_cases c2 : j - dp < n
    · rw [if_pos c2, if_pos (by omega), List.getElem?_take, if_pos c2, List.getElem?_drop]
    · rw [if_neg c2, if_neg (by omega), List.getElem?_drop]
      congr 1
      omega
theorem zcpy_zf {ad : Nat → Nat} {f g : List Value} {sp dp n j : Nat} (h4 : sp + n ≤ f.length) (h5 : dp + n ≤ g.length) : zf ad (zcpy f g sp dp n) j = va_cpy (zf ad f) (zf ad g) sp dp n j := by
  simp only [zf, va_cpy, List.getD_eq_getElem?_getD, zcpy_get h4 h5]
  split <;> rfl
theorem zfitA_fits {kd : Nat} {v : Value} (h : zfitA kd v = true) : ∃ x : Int32, v = .int x ∧ (kd = 10 ∨ kd = 12 ∧ fits .boolean (.int x) = true) := by
  unfold zfitA at h
  split at h
  · exact ⟨_, rfl, Or.inl rfl⟩
  · exact ⟨_, rfl, Or.inr ⟨rfl, h⟩⟩
  · cases h
section ZC0
variable {p : Program} {l : Launch} {e : Env} {R : Room} {s : State} {m : MethodId} {args : Array Value} {below : List Frame} {meth : Method} {c : Code} {H : Heap} {locs : List Loc} {cells slots : Nat} {Q : State → Prop} {cc : ByteArray} {pc : Nat} {ls : Array Slot}
variable {D : va_G} {cy : Nat → ClassId} {g : Nat → Nat} {base : Nat} {G : Heap} {X : List Int32} {own : Nat} {M M' : zM}
theorem zacpy_aux {idx : Nat} (hx : p.tables.exec = Jvm.exec) (hb : c.code = cc) (hml : c.maxLocals = ls.size) (hown : s.vm.findClass (zcn own) = some m.cls) (hlink : (Jvm.Cond.methodLink (zcn own) idx arraycopyName).before args s = true) (hnat : (Jvm.Cond.native arraycopyName).before args s = true) (hstat : (Jvm.Cond.static arraycopyName).before args s = true) (hini : (Jvm.Cond.initialized "java/lang/System").before args s = true) (hK : zKn D cy g base G X s) (hR : zR D cy g base G M H) (hLo : zLo base locs) (hfr : 1 ≤ R.frames) (hlo : 40 ≤ R.locals) {r f gg : List Value} {a b kd t0 : Nat} {ty : FieldType} {n dp sp : Int32} (hd : decode cc pc = .ok (.invokestatic idx, 3))
    (hb0 : M[b]? = some (kd, f)) (ha0 : M[a]? = some (kd, gg)) (hk10 : 10 ≤ kd) (ht : (zTys cy)[t0]? = some (cy kd, ty)) (hprim : refKind ty = false) (h1 : ¬ sp < 0) (h2 : ¬ dp < 0) (h3 : ¬ n < 0) (h4 : sp.toNatClampNeg + n.toNatClampNeg ≤ f.length) (h5 : dp.toNatClampNeg + n.toNatClampNeg ≤ gg.length) (hfit : ∀ v ∈ (f.drop sp.toNatClampNeg).take n.toNatClampNeg, ∃ x : Int32, v = .int x ∧ fits ty (.int x) = true) (hcat : zcat r ≤ 8)
    (kk : ∀ H' locs', zR D cy g base G (M.set a (kd, zcpy f gg sp.toNatClampNeg dp.toNatClampNeg n.toNatClampNeg)) H' → zLo base locs' → W p l e R s m args below meth c H' locs' cells slots Q (F0 m (pc + 3) ls (r.map (ztr (zad g base))))) : W p l e R s m args below meth c H locs cells slots Q (F0 m pc ls ((Value.int n :: .int dp :: .ref a :: .int sp :: .ref b :: r).map (ztr (zad g base)))) := by
  have nn : ∀ z : Int32, ¬ z < 0 → z.toInt = (z.toNatClampNeg : Int) := by
    intro z hz
    have hz0 : (0 : Int) ≤ z.toInt := by
      have := Int32.not_lt.mp hz
      simpa using Int32.le_iff_toInt_le.mp this
    show z.toInt = ((z.toInt.toNat : Nat) : Int)
    omega
  have hc0 := hR.arr hb0 hk10
  have hc1 := hR.arr ha0 hk10
  have eb := hR.ad hb0
  have ea := hR.ad ha0
  have hfitv : ∀ (i : Nat), i < n.toNatClampNeg → ∃ x : Int32, zf (zad g base) f (sp.toNatClampNeg + i) = .int x ∧ fits ty (.int x) = true := by
    intro i hi
    have hlt : sp.toNatClampNeg + i < f.length := by omega
    obtain ⟨v, hv⟩ : ∃ v, f[sp.toNatClampNeg + i]? = some v := ⟨_, List.getElem?_eq_getElem hlt⟩
    obtain ⟨x, rfl, hx2⟩ := hfit v (List.mem_of_getElem? (i := i) (by rw [List.getElem?_take, if_pos hi, List.getElem?_drop]; exact hv))
    exact ⟨x, zf_at hv, hx2⟩
  intro T hT X1
  obtain ⟨-, k0, hk0, cm0, hkk0⟩ := (hK.1.2 t0 _ ht).1 f.length (zf (zad g base) f)
  obtain ⟨-, k1, hk1, cm1, hkk1⟩ := (hK.1.2 t0 _ ht).1 gg.length (zf (zad g base) gg)
  obtain ⟨vm', X', step⟩ := X1.arraycopy hx hown hlink hnat hstat hini (src := zad g base b) (dst := zad g base a) (cs := arrV (cy kd) f.length (zf (zad g base) f)) (cd := arrV (cy kd) gg.length (zf (zad g base) gg)) (srcPos := sp) (destPos := dp) (n := n) (by rw [hT]; exact hc0) (by rw [hT]; exact hc1)
    (fun _ h => by cases h) (fun _ h => by cases h) (fun h => by cases h) (fun h => by cases h) hk0 hk1 hkk0 hkk1 (by simp [hprim]) h1 h2 h3
    (by rw [nn sp h1, nn n h3, arrV_size]; omega)
    (by rw [nn dp h2, nn n h3, arrV_size]; omega)
    (fun vm₁ _ i hi => by
      obtain ⟨x, ex, hx2⟩ := hfitv i hi
      have e : (arrV (cy kd) f.length (zf (zad g base) f)).slots.getD (sp.toNatClampNeg + i) .null = .int x := by
        rw [Array.getD_eq_getD_getElem?, arrV_read _ _ (by omega), ex]
        rfl
      refine ⟨?_, ?_⟩
      · rw [e]
        exact hx2
      · rw [e]
        exact trivial)
    (g := F0 m pc ls ((Value.int n :: .int dp :: .ref a :: .int sp :: .ref b :: r).map (ztr (zad g base)))) rfl (by rw [hml]) (rest := r.map (ztr (zad g base))) rfl (by rw [hb]; exact hd) hfr (by rw [zcat_tr]; show 2 * 0 + _ + (nativeFrameWords "java/lang/System" "arraycopy" 5 + 11) ≤ _; rw [show nativeFrameWords "java/lang/System" "arraycopy" 5 = 7 from by decide +kernel]; omega)
  have e1 : copied (arrV (cy kd) f.length (zf (zad g base) f)) (arrV (cy kd) gg.length (zf (zad g base) gg)) sp dp n = arrV (cy kd) (zcpy f gg sp.toNatClampNeg dp.toNatClampNeg n.toNatClampNeg).length (zf (zad g base) (zcpy f gg sp.toNatClampNeg dp.toNatClampNeg n.toNatClampNeg)) := by
    rw [zcpy_len h4 h5, zarrV_congr (f := zf (zad g base) (zcpy f gg _ _ _)) (fun j _ => zcpy_zf h4 h5)]
    exact va_copied (fun z => z) (cy kd) (cy kd) (zf (zad g base) f) (zf (zad g base) gg) h4
  rw [e1] at X' step
  have hl : zad g base a < H.size := (Array.getElem?_eq_some_iff.mp hc1).1
  obtain ⟨t, a1, b1⟩ := kk (H.setIfInBounds (zad g base a) (arrV (cy kd) (zcpy f gg sp.toNatClampNeg dp.toNatClampNeg n.toNatClampNeg).length (zf (zad g base) (zcpy f gg sp.toNatClampNeg dp.toNatClampNeg n.toNatClampNeg)))) _ (hR.set ha0 (by simp) (fun q hq => by simp [Array.getElem?_setIfInBounds, Ne.symm hq]) (by
      unfold zat
      rw [if_neg (by show ¬ kd < 10; omega), ← ea]
      simp [Array.getElem?_setIfInBounds, hl])) (fun q hq => by
      rcases List.mem_append.mp hq with h | h
      · exact hLo q h
      · obtain ⟨z, -, hz⟩ := List.mem_map.mp h
        rw [← hz, ea]
        show base ≤ base + a
        omega) _ (by rw [← hT]; rfl) X'
  exact ⟨t, step t a1, b1⟩
theorem zacpy_sim {idx : Nat} (hx : p.tables.exec = Jvm.exec) (hb : c.code = cc) (hml : c.maxLocals = ls.size) (hown : s.vm.findClass (zcn own) = some m.cls) (hlink : (Jvm.Cond.methodLink (zcn own) idx arraycopyName).before args s = true) (hnat : (Jvm.Cond.native arraycopyName).before args s = true) (hstat : (Jvm.Cond.static arraycopyName).before args s = true) (hini : (Jvm.Cond.initialized "java/lang/System").before args s = true) (hK : zKn D cy g base G X s) (hR : zR D cy g base G M H) (hLo : zLo base locs) (hfr : 1 ≤ R.frames) (hlo : 40 ≤ R.locals) {st st' : List Value} (hd : decode cc pc = .ok (.invokestatic idx, 3)) (h : zacpy M st = some (st', M'))
    (kk : ∀ H' locs' cells' slots', zR D cy g base G M' H' → zLo base locs' → cells' + M.length = cells + M'.length → slots' + zsl M = slots + zsl M' → W p l e R s m args below meth c H' locs' cells' slots' Q (F0 m (pc + 3) ls (st'.map (ztr (zad g base))))) : W p l e R s m args below meth c H locs cells slots Q (F0 m pc ls (st.map (ztr (zad g base)))) := by
  unfold zacpy at h
  split at h
  · split at h
    · rename_i hb0 ha0
      split at h
      · rename_i hq
        obtain ⟨rfl, hkd, h1, h2, h3, h4, h5, hall, hcat⟩ := hq
        cases h
        rcases hkd with rfl | rfl
        · exact zacpy_aux (t0 := 0) (ty := .int) hx hb hml hown hlink hnat hstat hini hK hR hLo hfr hlo hd hb0 ha0 (by omega) rfl rfl h1 h2 h3 h4 h5 (fun v hv => by
            obtain ⟨x, rfl, -⟩ := zfitA_fits (List.all_eq_true.mp hall v hv)
            exact ⟨x, rfl, rfl⟩) hcat (fun H' locs' g1 g2 => kk H' locs' _ _ g1 g2 (by rw [List.length_set]) (by rw [zsl_set ha0 (zcpy_len h4 h5)]))
        · exact zacpy_aux (t0 := 2) (ty := .boolean) hx hb hml hown hlink hnat hstat hini hK hR hLo hfr hlo hd hb0 ha0 (by omega) rfl rfl h1 h2 h3 h4 h5 (fun v hv => by
            obtain ⟨x, rfl, hx2⟩ := zfitA_fits (List.all_eq_true.mp hall v hv)
            rcases hx2 with hx2 | hx2
            · omega
            · exact ⟨x, rfl, hx2.2⟩) hcat (fun H' locs' g1 g2 => kk H' locs' _ _ g1 g2 (by rw [List.length_set]) (by rw [zsl_set ha0 (zcpy_len h4 h5)]))
      · cases h
    · cases h
  · cases h
end ZC0
section ZC
variable {p : Program} {l : Launch} {e : Env} {R : Room} {s : State} {m : MethodId} {args : Array Value} {below : List Frame} {meth : Method} {c : Code} {H : Heap} {locs : List Loc} {cells slots : Nat} {Q : State → Prop} {cc : ByteArray} {pc : Nat} {ls : Array Slot}
variable {D : va_G} {cy : Nat → ClassId} {g : Nat → Nat} {base : Nat} {G : Heap} {X : List Int32} {own : Nat} {M M' : zM}
theorem zcall_go {r : zRes} {a : Array Value} {st0 rest : List Value} {mc ms : Nat} (hr : va_Run p l e R s m args below meth c H locs cells slots mc ms (F0 m pc ls st0) rest (zQc D cy g base G r a) (fun q => base ≤ q)) (hLo : zLo base locs)
    (kk : ∀ H1 locs1, zR D cy g base G r.2 H1 → zLo base locs1 → W p l e R s m args below meth c H1 locs1 (cells + mc) (slots + ms) Q (F0 m (pc + 3) ls ((r.1.map (ztr (zad g base))).toList ++ rest))) : W p l e R s m args below meth c H locs cells slots Q (F0 m pc ls st0) := by
  intro T hT X
  obtain ⟨v, st₀, t, T', L, h0, X', hL, e1, e2, ⟨hv, hz⟩, st⟩ := hr T hT X
  cases hv
  obtain ⟨t2, a1, b1⟩ := kk T'.heap (locs ++ L) (by rw [e1]; exact hz) (fun q hq => by
    rcases List.mem_append.mp hq with h | h
    · exact hLo q h
    · exact hL q h) T' rfl X'
  exact ⟨t2, st t2 a1, b1⟩
theorem zopt_list (ad : Nat → Nat) (o : Option Value) (r : List Value) : (o.toList ++ r).map (ztr ad) = (o.map (ztr ad)).toList ++ r.map (ztr ad) := by cases o <;> rfl
theorem zinv_sim {d : Nat} {call : Nat → List Value → zM → Option zRes} (hx : p.tables.exec = Jvm.exec) (hb : c.code = cc) (hml : c.maxLocals = ls.size) (hts : ∀ w ∈ zW, w.before args s = true) (hown : s.vm.findClass (zcn own) = some m.cls) (hK : zKn D cy g base G X s) (hcall : zCallOK l D cy g base G X d call) (hstr : zStrOK l D cy g base G X) (hfr : d + 1 ≤ R.frames) (hlo : 40 * (d + 1) ≤ R.locals) (hR : zR D cy g base G M H) (hLo : zLo base locs) {i : Instr} {st st' : List Value} (hd : decode cc pc = .ok (i, 3)) (h : zinv own call i st M = some (st', M')) (hc : cells + M'.length ≤ R.cells + M.length) (hs : slots + zsl M' ≤ R.slots + zsl M) (hc0 : cells ≤ R.cells) (hs0 : slots ≤ R.slots)
    (kk : ∀ H' locs' cells' slots', zR D cy g base G M' H' → zLo base locs' → cells' + M.length = cells + M'.length → slots' + zsl M = slots + zsl M' → W p l e R s m args below meth c H' locs' cells' slots' Q (F0 m (pc + 3) ls (st'.map (ztr (zad g base))))) : W p l e R s m args below meth c H locs cells slots Q (F0 m pc ls (st.map (ztr (zad g base)))) := by
  have hW : ∀ {r : List Value}, zcat r ≤ 8 → 2 * (F0 m pc ls (st.map (ztr (zad g base)))).monitorRoom + ((r.map (ztr (zad g base))).map fun v => v.category).sum ≤ 8 := fun h => by rw [zcat_tr]; show 2 * 0 + _ ≤ _; omega
  have hlen : ∀ {na : Nat}, na ≤ st.length → ((st.take na).reverse.map (ztr (zad g base))).length = na := fun h => by simp [h]
  have hstk : ∀ {na : Nat} {w : List Value}, st.drop na = w → st.map (ztr (zad g base)) = ((st.take na).reverse.map (ztr (zad g base))).reverse ++ w.map (ztr (zad g base)) := fun {na w} h => by
    rw [← h, List.map_reverse, List.reverse_reverse, ← List.map_append, List.take_append_drop]
  have hpre : ∀ (vs : List Value) (U : State), U.heap = H → s.WarmedH U.vm → zPc D cy g base G X vs M (vs.map (ztr (zad g base))).toArray U := fun vs U hU hWm => ⟨rfl, by rw [hU]; exact hR, hK.warm hWm⟩
  unfold zinv at h
  split at h
  · -- invokevirtual
    split at h
    · rename_i j hcl
      obtain ⟨ci, na, y, c2, ml, ret, pos, hz, hci, w1, w2, w3, w4⟩ := zcall_0 hcl
      rw [hz] at h
      dsimp only at h
      obtain ⟨q1, q2, q3, q4, q5, q6, q7⟩ := zmt_ok hz
      split at h
      · rename_i a r hdr
        split at h
        · rename_i vs ha
          split at h
          · rename_i hq
            rw [Option.map_eq_some_iff] at h
            obtain ⟨⟨v, M1⟩, hcv, hq2⟩ := h
            cases hq2
            obtain ⟨hM, -, hl1, hl2⟩ := hcall _ _ _ _ hcv
            dsimp only at hl1 hl2 hc hs kk
            have hM := hM _ _ _ _ _ _ _ hz
            unfold zMet at hM
            obtain ⟨hin, hty, hnm, hcc, -⟩ := zcls_ok hci
            obtain ⟨cellB, b1, b2, b3, -⟩ := hR.obj ha hci
            refine zcall_go (va_runV (As := (st.take na).reverse.map (ztr (zad g base))) (rest := r.map (ztr (zad g base))) ⟨hx, hb, hml, hown, hts⟩ hM (cwV (C := zcn ci) na hts (zGood (fun w hw => ?_)) rfl rfl rfl ⟨q2, q4.1, q4.2, q5⟩ ⟨?_, ?_⟩) ⟨zBlind, ⟨cellB, b1, by rw [b3]; rfl, by rw [b2]; exact (hK.1.1 ci _ hcc).2.1⟩, fun U hU hWm => hpre _ U hU hWm⟩ rfl (hlen hq.1) rfl ?_ (hW hq.2) hd ⟨?_, ?_⟩) hLo (fun H1 locs1 g1 g2 => ?_)
            · unfold wsV at hw
              rcases List.mem_append.mp hw with h1 | h1
              · simp only [List.mem_cons, List.not_mem_nil, or_false] at h1
                rcases h1 with rfl | rfl | rfl | rfl
                · exact w1
                · exact w2
                · exact w3
                · exact w4
              · exact zGoodM q7 w h1
            · exact hfr
            · show 8 + (ml + 11) + 40 * d ≤ _; omega
            · exact hstk hdr
            · show cells + (M1.length - M.length) ≤ _; omega
            · show slots + (zsl M1 - zsl M) ≤ _; omega
            · have := kk H1 locs1 _ _ g1 g2 (by show cells + (M1.length - M.length) + M.length = _; omega) (by show slots + (zsl M1 - zsl M) + zsl M = _; omega)
              rw [zopt_list] at this
              exact this
          · cases h
        · cases h
      · cases h
    · -- length
      rename_i j hcl
      obtain ⟨w1, w2, w3, w4⟩ := zcall_8 hcl
      split at h
      · rename_i a r
        split at h
        · rename_i hq
          rw [Option.map_eq_some_iff] at h
          obtain ⟨⟨v, M1⟩, hcv, hq2⟩ := h
          cases hq2
          obtain ⟨-, hM, hl1, hl2⟩ := hcall _ _ _ _ hcv
          dsimp only at hl1 hl2 hc hs kk
          obtain ⟨hM, h4⟩ := hM rfl
          have hM := hstr _ _ _ _ hM
          unfold zMet at hM
          obtain ⟨k, hk, ea⟩ : ∃ k, k < 2 ∧ zad g base a = g (1 + k) := by
            rcases hq.1 with rfl | rfl
            · exact ⟨0, by omega, zad_big g base 1⟩
            · exact ⟨1, by omega, zad_big g base 2⟩
          obtain ⟨cellB, b1, b2, b3, -⟩ := ((hK.2.2.2.2.2.1.1 k hk).1.kept (H1 := H) (fun q _ hn => hR.2.2.1 q (Nat.not_le.mp hn)))
          refine zcall_go (va_runV (As := []) (rest := r.map (ztr (zad g base))) ⟨hx, hb, hml, hown, hts⟩ hM (cwV (C := RJ0) 0 hts (zGood (fun w hw => ?_)) rfl rfl rfl ⟨rfl, by decide +kernel, by decide +kernel, by decide +kernel⟩ ⟨?_, ?_⟩) ⟨zBlind, ⟨cellB, by rw [ea]; exact b1, b2, b3⟩, fun U hU hWm => hpre [.ref a] U hU hWm⟩ rfl rfl rfl rfl (hW hq.2) hd ⟨?_, ?_⟩) hLo (fun H1 locs1 g1 g2 => ?_)
          · unfold wsV at hw
            rcases List.mem_append.mp hw with h1 | h1
            · simp only [List.mem_cons, List.not_mem_nil, or_false] at h1
              rcases h1 with rfl | rfl | rfl | rfl
              · exact w1
              · exact w2
              · exact w3
              · exact w4
            · exact zGoodM zsy0 w h1
          · show 4 + 1 ≤ _; omega
          · show 8 + (1 + 11) + 40 * 4 ≤ _; omega
          · show cells + (M1.length - M.length) ≤ _; omega
          · show slots + (zsl M1 - zsl M) ≤ _; omega
          · have := kk H1 locs1 _ _ g1 g2 (by show cells + (M1.length - M.length) + M.length = _; omega) (by show slots + (zsl M1 - zsl M) + zsl M = _; omega)
            rw [zopt_list] at this
            exact this
        · cases h
      · cases h
    · -- charAt
      rename_i j hcl
      obtain ⟨w1, w2, w3, w4⟩ := zcall_9 hcl
      split at h
      · rename_i i0 a r
        split at h
        · rename_i hq
          rw [Option.map_eq_some_iff] at h
          obtain ⟨⟨v, M1⟩, hcv, hq2⟩ := h
          cases hq2
          obtain ⟨-, hM, hl1, hl2⟩ := hcall _ _ _ _ hcv
          dsimp only at hl1 hl2 hc hs kk
          obtain ⟨hM, h4⟩ := hM rfl
          have hM := hstr _ _ _ _ hM
          unfold zMet at hM
          obtain ⟨k, hk, ea⟩ : ∃ k, k < 2 ∧ zad g base a = g (1 + k) := by
            rcases hq.1 with rfl | rfl
            · exact ⟨0, by omega, zad_big g base 1⟩
            · exact ⟨1, by omega, zad_big g base 2⟩
          obtain ⟨cellB, b1, b2, b3, -⟩ := ((hK.2.2.2.2.2.1.1 k hk).1.kept (H1 := H) (fun q _ hn => hR.2.2.1 q (Nat.not_le.mp hn)))
          refine zcall_go (va_runV (As := [.int i0]) (rest := r.map (ztr (zad g base))) ⟨hx, hb, hml, hown, hts⟩ hM (cwV (C := RJ0) 1 hts (zGood (fun w hw => ?_)) rfl rfl rfl ⟨rfl, by decide +kernel, by decide +kernel, by decide +kernel⟩ ⟨?_, ?_⟩) ⟨zBlind, ⟨cellB, by rw [ea]; exact b1, b2, b3⟩, fun U hU hWm => hpre [.ref a, .int i0] U hU hWm⟩ rfl rfl rfl rfl (hW hq.2) hd ⟨?_, ?_⟩) hLo (fun H1 locs1 g1 g2 => ?_)
          · unfold wsV at hw
            rcases List.mem_append.mp hw with h1 | h1
            · simp only [List.mem_cons, List.not_mem_nil, or_false] at h1
              rcases h1 with rfl | rfl | rfl | rfl
              · exact w1
              · exact w2
              · exact w3
              · exact w4
            · exact zGoodM zsy1 w h1
          · show 4 + 1 ≤ _; omega
          · show 8 + (2 + 11) + 40 * 4 ≤ _; omega
          · show cells + (M1.length - M.length) ≤ _; omega
          · show slots + (zsl M1 - zsl M) ≤ _; omega
          · have := kk H1 locs1 _ _ g1 g2 (by show cells + (M1.length - M.length) + M.length = _; omega) (by show slots + (zsl M1 - zsl M) + zsl M = _; omega)
            rw [zopt_list] at this
            exact this
        · cases h
      · cases h
    · -- indexOf
      rename_i j hcl
      obtain ⟨w1, w2, w3, w4⟩ := zcall_10 hcl
      split at h
      · rename_i i0 a r
        split at h
        · rename_i hq
          rw [Option.map_eq_some_iff] at h
          obtain ⟨⟨v, M1⟩, hcv, hq2⟩ := h
          cases hq2
          obtain ⟨-, hM, hl1, hl2⟩ := hcall _ _ _ _ hcv
          dsimp only at hl1 hl2 hc hs kk
          obtain ⟨hM, h4⟩ := hM rfl
          have hM := hstr _ _ _ _ hM
          unfold zMet at hM
          obtain ⟨k, hk, ea⟩ : ∃ k, k < 2 ∧ zad g base a = g (1 + k) := by
            rcases hq.1 with rfl | rfl
            · exact ⟨0, by omega, zad_big g base 1⟩
            · exact ⟨1, by omega, zad_big g base 2⟩
          obtain ⟨cellB, b1, b2, b3, -⟩ := ((hK.2.2.2.2.2.1.1 k hk).1.kept (H1 := H) (fun q _ hn => hR.2.2.1 q (Nat.not_le.mp hn)))
          refine zcall_go (va_runV (As := [.int i0]) (rest := r.map (ztr (zad g base))) ⟨hx, hb, hml, hown, hts⟩ hM (cwV (C := RJ0) 1 hts (zGood (fun w hw => ?_)) rfl rfl rfl ⟨rfl, by decide +kernel, by decide +kernel, by decide +kernel⟩ ⟨?_, ?_⟩) ⟨zBlind, ⟨cellB, by rw [ea]; exact b1, b2, b3⟩, fun U hU hWm => hpre [.ref a, .int i0] U hU hWm⟩ rfl rfl rfl rfl (hW hq.2) hd ⟨?_, ?_⟩) hLo (fun H1 locs1 g1 g2 => ?_)
          · unfold wsV at hw
            rcases List.mem_append.mp hw with h1 | h1
            · simp only [List.mem_cons, List.not_mem_nil, or_false] at h1
              rcases h1 with rfl | rfl | rfl | rfl
              · exact w1
              · exact w2
              · exact w3
              · exact w4
            · exact zGoodM zsy2 w h1
          · show 4 + 1 ≤ _; omega
          · show 8 + (2 + 11) + 40 * 4 ≤ _; omega
          · show cells + (M1.length - M.length) ≤ _; omega
          · show slots + (zsl M1 - zsl M) ≤ _; omega
          · have := kk H1 locs1 _ _ g1 g2 (by show cells + (M1.length - M.length) + M.length = _; omega) (by show slots + (zsl M1 - zsl M) + zsl M = _; omega)
            rw [zopt_list] at this
            exact this
        · cases h
      · cases h
    · cases h
  · -- invokestatic
    split at h
    · rename_i j hcl
      obtain ⟨ci, na, y, c2, ml, ret, pos, hz, w1, w2, w3⟩ := zcall_1 hcl
      rw [hz] at h
      dsimp only at h
      obtain ⟨q1, q2, q3, q4, q5, q6, q7⟩ := zmt_ok hz
      split at h
      · rename_i hq
        rw [Option.map_eq_some_iff] at h
        obtain ⟨⟨v, M1⟩, hcv, hq2⟩ := h
        cases hq2
        obtain ⟨hM, -, hl1, hl2⟩ := hcall _ _ _ _ hcv
        dsimp only at hl1 hl2 hc hs kk
        have hM := hM _ _ _ _ _ _ _ hz
        unfold zMet at hM
        refine zcall_go (va_runS (As := (st.take na).reverse.map (ztr (zad g base))) (rest := (st.drop na).map (ztr (zad g base))) ⟨hx, hb, hml, hown, hts⟩ hM (va_cwS na hts (zGood (fun w hw => ?_)) rfl rfl rfl ⟨q4.1, q4.2, q5⟩ ⟨?_, ?_⟩) ⟨zBlind, fun U hU hWm => hpre _ U hU hWm⟩ rfl (hlen hq.1) rfl ?_ (hW hq.2) hd ⟨?_, ?_⟩) hLo (fun H1 locs1 g1 g2 => ?_)
        · unfold va_wsS at hw
          rcases List.mem_append.mp hw with h1 | h1
          · simp only [List.mem_cons, List.not_mem_nil, or_false] at h1
            rcases h1 with rfl | rfl | rfl
            · exact w1
            · exact w2
            · exact w3
          · exact zGoodM q7 w h1
        · exact hfr
        · show 8 + (ml + 11) + 40 * d ≤ _; omega
        · exact hstk rfl
        · show cells + (M1.length - M.length) ≤ _; omega
        · show slots + (zsl M1 - zsl M) ≤ _; omega
        · have := kk H1 locs1 _ _ g1 g2 (by show cells + (M1.length - M.length) + M.length = _; omega) (by show slots + (zsl M1 - zsl M) + zsl M = _; omega)
          rw [zopt_list] at this
          exact this
      · cases h
    · rename_i j hcl
      obtain ⟨w1, w2, w3, w4⟩ := zcall_5 hcl
      split at h
      · split at h
        · rename_i hq
          cases h
          exact va_mmax hx hb hml hown (hts _ w1) (hts _ w2) (hts _ w3) (hts _ w4) (by omega) (by rw [zcat_tr]; omega) hc0 hs0 hd (kk H locs cells slots hR hLo rfl rfl)
        · cases h
      · cases h
    · rename_i j hcl
      obtain ⟨w1, w2, w3, w4⟩ := zcall_6 hcl
      split at h
      · split at h
        · rename_i hq
          cases h
          exact va_mmin hx hb hml hown (hts _ w1) (hts _ w2) (hts _ w3) (hts _ w4) (by omega) (by rw [zcat_tr]; omega) hc0 hs0 hd (kk H locs cells slots hR hLo rfl rfl)
        · cases h
      · cases h
    · rename_i j hcl
      obtain ⟨w1, w2, w3, w4⟩ := zcall_7 hcl
      exact zacpy_sim hx hb hml hown (hts _ w1) (hts _ w2) (hts _ w3) (hts _ w4) hK hR hLo (by omega) (by omega) hd h kk
    · cases h
  · -- invokespecial
    split at h
    · rename_i j hcl
      obtain ⟨ci, na, y, c2, ml, pos, hz, w1, w2, w3, w4⟩ := zcall_2 hcl
      rw [hz] at h
      dsimp only at h
      obtain ⟨q1, q2, q3, q4, q5, q6, q7⟩ := zmt_ok hz
      split at h
      · rename_i a r hdr
        split at h
        · rename_i hq
          rw [Option.map_eq_some_iff] at h
          obtain ⟨⟨v, M1⟩, hcv, hq2⟩ := h
          cases hq2
          obtain ⟨hM, -, hl1, hl2⟩ := hcall _ _ _ _ hcv
          dsimp only at hl1 hl2 hc hs kk
          have hM := hM _ _ _ _ _ _ _ hz
          unfold zMet at hM
          refine zcall_go (va_runI (As := (st.take na).reverse.map (ztr (zad g base))) (rest := r.map (ztr (zad g base))) ⟨hx, hb, hml, hown, hts⟩ hM (cwI na hts (zGood (zGoodM q7)) rfl rfl rfl (hts _ w3) (hts _ w1) (hts _ w2) w4 ⟨q4.1, q4.2, q5⟩ ⟨?_, ?_⟩) ⟨zBlind, fun U hU hWm => hpre _ U hU hWm⟩ rfl (hlen hq.1) rfl ?_ (hW hq.2) hd ⟨?_, ?_⟩) hLo (fun H1 locs1 g1 g2 => ?_)
          · exact hfr
          · show 8 + (ml + 11) + 40 * d ≤ _; omega
          · exact hstk hdr
          · show cells + (M1.length - M.length) ≤ _; omega
          · show slots + (zsl M1 - zsl M) ≤ _; omega
          · have := kk H1 locs1 _ _ g1 g2 (by show cells + (M1.length - M.length) + M.length = _; omega) (by show slots + (zsl M1 - zsl M) + zsl M = _; omega)
            rw [zopt_list] at this
            exact this
        · cases h
      · cases h
    · rename_i j hcl
      obtain ⟨ci, na, y, c2, ml, pos, hz, w1, w2, w3, w4⟩ := zcall_3 hcl
      rw [hz] at h
      dsimp only at h
      obtain ⟨q1, q2, q3, q4, q5, q6, q7⟩ := zmt_ok hz
      split at h
      · rename_i a r hdr
        split at h
        · rename_i hq
          rw [Option.map_eq_some_iff] at h
          obtain ⟨⟨v, M1⟩, hcv, hq2⟩ := h
          cases hq2
          obtain ⟨hM, -, hl1, hl2⟩ := hcall _ _ _ _ hcv
          dsimp only at hl1 hl2 hc hs kk
          have hM := hM _ _ _ _ _ _ _ hz
          unfold zMet at hM
          refine zcall_go (va_runIN (As := (st.take na).reverse.map (ztr (zad g base))) (rest := r.map (ztr (zad g base))) ⟨hx, hb, hml, hown, hts⟩ hM ⟨va_cnB na hts (zGood (zGoodM q7)) rfl rfl rfl (hK.2.2.2.1 _ w1 rfl) (hts _ w3) ⟨q4.1, q4.2, q5⟩ ⟨?_, ?_⟩, w4, hts _ w2⟩ ⟨zBlind, fun U hU hWm => hpre _ U hU hWm⟩ rfl (hlen hq.1) rfl ?_ (hW hq.2) hd ⟨?_, ?_⟩) hLo (fun H1 locs1 g1 g2 => ?_)
          · exact hfr
          · show 8 + (ml + 11) + 40 * d ≤ _; omega
          · exact hstk hdr
          · show cells + (M1.length - M.length) ≤ _; omega
          · show slots + (zsl M1 - zsl M) ≤ _; omega
          · have := kk H1 locs1 _ _ g1 g2 (by show cells + (M1.length - M.length) + M.length = _; omega) (by show slots + (zsl M1 - zsl M) + zsl M = _; omega)
            rw [zopt_list] at this
            exact this
        · cases h
      · cases h
    · rename_i j hcl
      obtain ⟨w1, w2, w3⟩ := zcall_4 hcl
      split at h
      · split at h
        · rename_i hq
          cases h
          exact W.objInit hx hb hown (hts _ w1) (hts _ w2) (hts _ w3) rfl hml.symm rfl hd (by omega) (by rw [zcat_tr]; show 2 * 0 + _ + 12 ≤ _; omega) (kk H locs cells slots hR hLo rfl rfl)
        · cases h
      · cases h
    · cases h
  · cases h
end ZC
end
section
/-! steps and runs of the small machine are the machine's -/
def zMle (M M' : zM) : Prop := M.length ≤ M'.length ∧ zsl M ≤ zsl M'
theorem zMle.rf {M : zM} : zMle M M := ⟨Nat.le_refl _, Nat.le_refl _⟩
theorem zMle.tr {A B C : zM} (h : zMle A B) (h2 : zMle B C) : zMle A C := ⟨Nat.le_trans h.1 h2.1, Nat.le_trans h.2 h2.2⟩
theorem zMle.set {M : zM} {a : Nat} {x y : zE} (h : M[a]? = some x) (e : y.2.length = x.2.length) : zMle M (M.set a y) := ⟨by rw [List.length_set]; exact Nat.le_refl _, by rw [zsl_set h e]; exact Nat.le_refl _⟩
theorem zMle.app {M : zM} {x : zE} : zMle M (M ++ [x]) := ⟨by simp, by rw [zsl_app]; omega⟩
theorem zmem_mono {own : Nat} {ini : Bool} {X : List Int32} {i : Instr} {st st' : List Value} {M M' : zM} {n : Nat} (h : zmem own ini X i st M = some (n, st', M')) : zMle M M' := by
  unfold zmem at h
  split at h
  · split at h
    · split at h
      · rw [Option.map_eq_some_iff] at h
        obtain ⟨v, hv, hq⟩ := h
        cases hq
        exact zMle.rf
      · cases h
    · cases h
  · split at h
    · split at h
      · rename_i ha
        split at h
        · cases h
          exact zMle.set (zarr_some ha) (by simp)
        · cases h
      · cases h
    · cases h
  · split at h
    · split at h
      · cases h
      · cases h
        exact zMle.rf
    · rw [Option.map_eq_some_iff] at h
      obtain ⟨st1, hz, hq⟩ := h
      cases hq
      exact zMle.rf
  · rw [Option.map_eq_some_iff] at h
    obtain ⟨st1, hz, hq⟩ := h
    cases hq
    exact zMle.rf
  · rw [Option.map_eq_some_iff] at h
    obtain ⟨st1, hz, hq⟩ := h
    cases hq
    exact zMle.rf
  · rw [Option.map_eq_some_iff] at h
    obtain ⟨st1, hz, hq⟩ := h
    cases hq
    exact zMle.rf
  · rw [Option.map_eq_some_iff] at h
    obtain ⟨⟨st1, M1⟩, hz, hq⟩ := h
    cases hq
    obtain ⟨j, a, vs, rfl, ha, hin, rfl⟩ := zast_inv hz
    exact zMle.set (zarr_some ha) (by simp)
  · rw [Option.map_eq_some_iff] at h
    obtain ⟨⟨st1, M1⟩, hz, hq⟩ := h
    cases hq
    obtain ⟨j, a, vs, rfl, ha, hin, rfl⟩ := zast_inv hz
    exact zMle.set (zarr_some ha) (by simp)
  · split at h
    · rw [Option.map_eq_some_iff] at h
      obtain ⟨⟨st1, M1⟩, hz, hq⟩ := h
      cases hq
      obtain ⟨j, a, vs, rfl, ha, hin, rfl⟩ := zast_inv hz
      exact zMle.set (zarr_some ha) (by simp)
    · cases h
  · split at h
    · rw [Option.map_eq_some_iff] at h
      obtain ⟨⟨st1, M1⟩, hz, hq⟩ := h
      cases hq
      obtain ⟨j, a, vs, rfl, ha, hin, rfl⟩ := zast_inv hz
      exact zMle.set (zarr_some ha) (by simp)
    · cases h
  · split at h
    · split at h
      · cases h
        exact zMle.rf
      · cases h
    · split at h
      · split at h
        · cases h
          exact zMle.rf
        · cases h
      · cases h
  · split at h
    · split at h
      · cases h
        exact zMle.app
      · cases h
    · cases h
  · split at h
    · split at h
      · cases h
        exact zMle.app
      · cases h
    · cases h
  · split at h
    · cases h
      exact zMle.app
    · cases h
  · split at h
    · cases h
      exact zMle.rf
    · split at h
      · cases h
        exact zMle.rf
      · cases h
  · split at h
    · cases h
      exact zMle.rf
    · cases h
  · split at h
    · cases h
      exact zMle.rf
    · cases h
  · cases h
theorem zacpy_mono {st st' : List Value} {M M' : zM} (h : zacpy M st = some (st', M')) : zMle M M' := by
  unfold zacpy at h
  split at h
  · split at h
    · rename_i hb0 ha0
      split at h
      · rename_i hq
        obtain ⟨rfl, hkd, h1, h2, h3, h4, h5, hall, hcat⟩ := hq
        cases h
        exact zMle.set ha0 (zcpy_len h4 h5)
      · cases h
    · cases h
  · cases h
theorem zinv_mono {own : Nat} {call : Nat → List Value → zM → Option zRes} (hcall : ∀ j vs M r, call j vs M = some r → zMle M r.2) {i : Instr} {st st' : List Value} {M M' : zM} (h : zinv own call i st M = some (st', M')) : zMle M M' := by
  have key : ∀ {j : Nat} {vs r : List Value}, (call j vs M).map (fun q => (q.1.toList ++ r, q.2)) = some (st', M') → zMle M M' := by
    intro j vs r h
    rw [Option.map_eq_some_iff] at h
    obtain ⟨⟨v, M1⟩, hcv, hq2⟩ := h
    cases hq2
    exact hcall _ _ _ _ hcv
  unfold zinv at h
  split at h
  · split at h
    · split at h
      · split at h
        · split at h
          · split at h
            · exact key h
            · cases h
          · cases h
        · cases h
      · cases h
    · split at h
      · split at h
        · exact key h
        · cases h
      · cases h
    · split at h
      · split at h
        · exact key h
        · cases h
      · cases h
    · split at h
      · split at h
        · exact key h
        · cases h
      · cases h
    · cases h
  · split at h
    · split at h
      · split at h
        · exact key h
        · cases h
      · cases h
    · split at h
      · split at h
        · cases h
          exact zMle.rf
        · cases h
      · cases h
    · split at h
      · split at h
        · cases h
          exact zMle.rf
        · cases h
      · cases h
    · exact zacpy_mono h
    · cases h
  · split at h
    · split at h
      · split at h
        · split at h
          · exact key h
          · cases h
        · cases h
      · cases h
    · split at h
      · split at h
        · split at h
          · exact key h
          · cases h
        · cases h
      · cases h
    · split at h
      · split at h
        · cases h
          exact zMle.rf
        · cases h
      · cases h
    · cases h
  · cases h
theorem zstep_mono {own : Nat} {ini : Bool} {ret : Option FieldType} {cc : ByteArray} {X : List Int32} {call : Nat → List Value → zM → Option zRes} (hcall : ∀ j vs M r, call j vs M = some r → zMle M r.2) {st : zS} {o : zS ⊕ zRes} (h : zstep own ini ret cc X call st = some o) : (∀ s', o = .inl s' → zMle st.2.2.2 s'.2.2.2) ∧ ∀ r, o = .inr r → r.2 = st.2.2.2 := by
  unfold zstep at h
  split at h
  · cases h
  · split at h
    · split at h
      · cases h
        exact ⟨fun s' e => (by cases e), fun r e => (by cases e; rfl)⟩
      · cases h
    · split at h
      · split at h
        · cases h
          exact ⟨fun s' e => by cases e; exact zMle.rf, fun r e => by cases e⟩
        · cases h
      · split at h
        · cases h
          exact ⟨fun s' e => by cases e; exact zMle.rf, fun r e => by cases e⟩
        · split at h
          · split at h
            · cases h
              exact ⟨fun s' e => by cases e; exact zMle.rf, fun r e => by cases e⟩
            · cases h
          · split at h
            · rename_i hz
              split at h
              · cases h
                exact ⟨fun s' e => by cases e; exact zmem_mono hz, fun r e => by cases e⟩
              · cases h
            · split at h
              · rename_i hz
                split at h
                · cases h
                  exact ⟨fun s' e => by cases e; exact zinv_mono hcall hz, fun r e => by cases e⟩
                · cases h
              · cases h
theorem zloop_mono {f : zS → Option (zS ⊕ zRes)} (hf : ∀ st o, f st = some o → (∀ s', o = .inl s' → zMle st.2.2.2 s'.2.2.2) ∧ ∀ r, o = .inr r → r.2 = st.2.2.2) : ∀ (n : Nat) (st : zS) (r : zRes), zloop f n st = some r → zMle st.2.2.2 r.2 := by
  intro n
  induction n with
  | zero => intro st r h; cases h
  | succ n ih =>
    intro st r h
    unfold zloop at h
    split at h
    · cases h
    · rename_i s' hs
      exact ((hf _ _ hs).1 s' rfl).tr (ih s' r h)
    · rename_i r' hs
      cases h
      rw [(hf _ _ hs).2 _ rfl]
      exact zMle.rf
theorem zprm_mono {j : Nat} {vs : List Value} {M : zM} {r : zRes} (h : zprm j vs M = some r) : r.2 = M := by
  unfold zprm at h
  split at h <;> first | (split at h <;> cases h <;> rfl) | cases h
theorem zev_mono (X : List Int32) (F : Nat) : ∀ (d j : Nat) (vs : List Value) (M : zM) (r : zRes), zev X F d j vs M = some r → zMle M r.2 := by
  intro d
  induction d with
  | zero => intro j vs M r h; cases h
  | succ d ih =>
    intro j vs M r h
    unfold zev at h
    split at h
    · split at h
      · rw [zprm_mono h]
        exact zMle.rf
      · cases h
    · split at h
      · exact zloop_mono (fun st o ho => zstep_mono ih ho) F _ r h
      · cases h
theorem zloc_len {i : Instr} {n : Nat} {ml ml' : zML} {st st' : List Value} (h : zloc i ml st = some (n, ml', st')) : ml'.length = ml.length := by
  have key : ∀ {k : Nat} {v : Value} {n0 : Nat} {s0 : List Value}, (zst ml k v).map (fun ml' => (n0, ml', s0)) = some (n, ml', st') → ml'.length = ml.length := by
    intro k v n0 s0 h
    rw [Option.map_eq_some_iff] at h
    obtain ⟨q, hz, hq⟩ := h
    cases hq
    exact zst_len hz
  unfold zloc at h
  split at h
  · split at h <;> cases h; rfl
  · split at h <;> cases h; rfl
  · split at h <;> cases h; rfl
  · split at h <;> cases h; rfl
  · split at h <;> cases h <;> rfl
  · split at h <;> cases h <;> rfl
  · exact key h
  · exact key h
  · exact key h
  · exact key h
  · exact key h
  · exact key h
  · exact key h
  · exact key h
  · split at h
    · exact key h
    · cases h
  · cases h
section ZR5
variable {p : Program} {l : Launch} {e : Env} {R : Room} {s : State} {m : MethodId} {args : Array Value} {below : List Frame} {meth : Method} {c : Code} {cells slots : Nat} {Q : State → Prop} {cc : ByteArray}
variable {D : va_G} {cy : Nat → ClassId} {g : Nat → Nat} {base : Nat} {G : Heap} {X : List Int32} {own d : Nat} {ini : Bool} {ret : Option FieldType} {call : Nat → List Value → zM → Option zRes}
theorem zstep_sim (hx : p.tables.exec = Jvm.exec) (hb : c.code = cc) (hts : ∀ w ∈ zW, w.before args s = true) (hown : s.vm.findClass (zcn own) = some m.cls) (hK : zKn D cy g base G X s) (hini : ini = true → meth.name = "<init>") (hcall : zCallOK l D cy g base G X d call) (hstr : zStrOK l D cy g base G X) (hfr : d + 1 ≤ R.frames) (hlo : 40 * (d + 1) ≤ R.locals)
    {st st' : zS} (h : zstep own ini ret cc X call st = some (.inl st')) {H : Heap} {locs : List Loc} {ls : Array Slot} (hR : zR D cy g base G st.2.2.2 H) (hLo : zLo base locs) (hl : zL (zad g base) st.2.1 ls) (hml : c.maxLocals = st.2.1.length) (hc : cells + st'.2.2.2.length ≤ R.cells + st.2.2.2.length) (hs : slots + zsl st'.2.2.2 ≤ R.slots + zsl st.2.2.2) (hc0 : cells ≤ R.cells) (hs0 : slots ≤ R.slots)
    (kk : ∀ H' locs' cells' slots' ls', zR D cy g base G st'.2.2.2 H' → zLo base locs' → zL (zad g base) st'.2.1 ls' → st'.2.1.length = st.2.1.length → cells' + st.2.2.2.length = cells + st'.2.2.2.length → slots' + zsl st.2.2.2 = slots + zsl st'.2.2.2 → W p l e R s m args below meth c H' locs' cells' slots' Q (F0 m st'.1 ls' (st'.2.2.1.map (ztr (zad g base))))) : W p l e R s m args below meth c H locs cells slots Q (F0 m st.1 ls (st.2.2.1.map (ztr (zad g base)))) := by
  unfold zstep at h
  split at h
  · cases h
  · rename_i i len hd
    split at h
    · split at h <;> cases h
    · split at h
      · rename_i hz
        split at h
        · rename_i hn
          cases h
          exact zpure_sim hx hb hd hz hn (kk H locs cells slots ls hR hLo hl rfl rfl rfl)
        · cases h
      · split at h
        · rename_i hz
          cases h
          exact zbr_sim hx hb hd hz (kk H locs cells slots ls hR hLo hl rfl rfl rfl)
        · split at h
          · rename_i hz
            split at h
            · rename_i hn
              cases h
              exact zloc_sim hx hb hd hz hn hl (fun ls' hl' => kk H locs cells slots ls' hR hLo hl' (zloc_len hz) rfl rfl)
            · cases h
          · split at h
            · rename_i hz
              split at h
              · rename_i hn
                cases h
                exact zmem_sim hx hb hts hown hK hini hR hLo hd hz hn hc hs (fun H' locs' cells' slots' g1 g2 g3 g4 => kk H' locs' cells' slots' ls g1 g2 hl rfl g3 g4)
              · cases h
            · split at h
              · rename_i hz
                split at h
                · rename_i hn
                  subst hn
                  cases h
                  exact zinv_sim hx hb (by rw [hml]; exact hl.1.symm) hts hown hK hcall hstr hfr hlo hR hLo hd hz hc hs hc0 hs0 (fun H' locs' cells' slots' g1 g2 g3 g4 => kk H' locs' cells' slots' ls g1 g2 hl rfl g3 g4)
                · cases h
              · cases h
/-- the end of a run: the machine stands at a return -/
theorem zstep_end {st : zS} {r : zRes} (h : zstep own ini ret cc X call st = some (.inr r)) : ∃ i, decode cc st.1 = .ok (i, 1) ∧ zret ret i st.2.2.1 = some r.1 ∧ r.2 = st.2.2.2 := by
  unfold zstep at h
  split at h
  · cases h
  · rename_i i len hd
    split at h
    · rename_i v hz
      split at h
      · rename_i hn
        subst hn
        cases h
        exact ⟨i, hd, hz, rfl⟩
      · cases h
    · split at h
      · split at h <;> cases h
      · split at h
        · cases h
        · split at h
          · split at h <;> cases h
          · split at h
            · split at h <;> cases h
            · split at h
              · split at h <;> cases h
              · cases h
theorem zloop_sim (hx : p.tables.exec = Jvm.exec) (hb : c.code = cc) (hts : ∀ w ∈ zW, w.before args s = true) (hown : s.vm.findClass (zcn own) = some m.cls) (hK : zKn D cy g base G X s) (hini : ini = true → meth.name = "<init>") (hcall : zCallOK l D cy g base G X d call) (hstr : zStrOK l D cy g base G X) (hfr : d + 1 ≤ R.frames) (hlo : 40 * (d + 1) ≤ R.locals) {c0 s0 : Nat} {r : zRes} (hc : r.2.length ≤ R.cells + c0) (hs : zsl r.2 ≤ R.slots + s0)
    (fin : ∀ (st : zS) (i : Instr) (H : Heap) (locs : List Loc) (cells slots : Nat) (ls : Array Slot), decode cc st.1 = .ok (i, 1) → zret ret i st.2.2.1 = some r.1 → st.2.2.2 = r.2 → zR D cy g base G r.2 H → zLo base locs → cells + c0 = r.2.length → slots + s0 = zsl r.2 → W p l e R s m args below meth c H locs cells slots Q (F0 m st.1 ls (st.2.2.1.map (ztr (zad g base))))) :
    ∀ (F : Nat) (st : zS), zloop (zstep own ini ret cc X call) F st = some r → ∀ (H : Heap) (locs : List Loc) (cells slots : Nat) (ls : Array Slot), zR D cy g base G st.2.2.2 H → zLo base locs → zL (zad g base) st.2.1 ls → c.maxLocals = st.2.1.length → cells + c0 = st.2.2.2.length → slots + s0 = zsl st.2.2.2 → W p l e R s m args below meth c H locs cells slots Q (F0 m st.1 ls (st.2.2.1.map (ztr (zad g base)))) := by
  have hcm : ∀ j vs M r, call j vs M = some r → zMle M r.2 := fun j vs M r h => (hcall j vs M r h).2.2
  intro F
  induction F with
  | zero => intro st h; cases h
  | succ F ih =>
    intro st h H locs cells slots ls hR hLo hl hml e1 e2
    have hm0 := zloop_mono (fun st o ho => zstep_mono hcm ho) (F + 1) st r h
    unfold zloop at h
    split at h
    · cases h
    · rename_i st' hst
      have hm1 := (zstep_mono hcm hst).1 st' rfl
      have hm2 := zloop_mono (fun st o ho => zstep_mono hcm ho) F st' r h
      have a1 := hm0.1
      have a2 := hm0.2
      have b1 := hm1.1
      have b2 := hm1.2
      have d1 := hm2.1
      have d2 := hm2.2
      exact zstep_sim hx hb hts hown hK hini hcall hstr hfr hlo hst hR hLo hl hml (by omega) (by omega) (by omega) (by omega) (fun H' locs' cells' slots' ls' g1 g2 g3 g4 g5 g6 => ih st' h H' locs' cells' slots' ls' g1 g2 g3 (by rw [g4]; exact hml) (by omega) (by omega))
    · rename_i r' hst
      cases h
      obtain ⟨i, h1, h2, h3⟩ := zstep_end hst
      exact fin st i H locs cells slots ls h1 h2 h3.symm (by rw [h3]; exact hR) hLo (by rw [h3]; exact e1) (by rw [h3]; exact e2)
end ZR5
theorem zargs_lv (ad : Nat → Nat) : ∀ (vs : List Value) (k j : Nat) (v : Value), (zargs vs)[j]? = some (some v) → (k + j, ztr ad v) ∈ lv_args k (vs.map (ztr ad)) := by
  intro vs
  induction vs with
  | nil => intro k j v h; simp [zargs] at h
  | cons w vs ih =>
    intro k j v h
    have e : zargs (w :: vs) = (if w.category = 2 then [some w, none] else [some w]) ++ zargs vs := rfl
    rw [e] at h
    show _ ∈ lv_args k (ztr ad w :: vs.map (ztr ad))
    unfold lv_args
    rw [ztr_cat]
    by_cases hc : w.category = 2
    · rw [if_pos hc] at h
      rcases j with _ | _ | j
      · cases h; exact List.mem_cons_self
      · cases h
      · have h1 : (zargs vs)[j]? = some (some v) := h
        have := ih (k + 2) j v h1
        rw [show k + 2 + j = k + (j + 1 + 1) by omega] at this
        rw [if_pos hc]
        exact List.mem_cons_of_mem _ this
    · rw [if_neg hc] at h
      rcases j with _ | j
      · cases h; exact List.mem_cons_self
      · have h1 : (zargs vs)[j]? = some (some v) := h
        have := ih (k + 1) j v h1
        rw [show k + 1 + j = k + (j + 1) by omega] at this
        rw [if_neg hc]
        exact List.mem_cons_of_mem _ this
theorem zargs_len (ad : Nat → Nat) (vs : List Value) : (lg_sl (vs.map (ztr ad))).length = (zargs vs).length := by
  induction vs with
  | nil => rfl
  | cons w vs ih =>
    show ((if (ztr ad w).category = 2 then [Slot.val (ztr ad w), .second] else [.val (ztr ad w)]) ++ lg_sl (vs.map (ztr ad))).length = ((if w.category = 2 then [some w, none] else [some w]) ++ zargs vs).length
    rw [ztr_cat, List.length_append, List.length_append, ih]
    by_cases hc : w.category = 2
    · rw [if_pos hc, if_pos hc]; rfl
    · rw [if_neg hc, if_neg hc]; rfl
theorem zent_len {vs : List Value} {n : Nat} (h : (zargs vs).length ≤ n) : (zent vs n).length = n := by
  unfold zent
  rw [List.length_append, List.length_replicate]
  omega
theorem zent_L (ad : Nat → Nat) {vs : List Value} {n : Nat} (h : (zargs vs).length ≤ n) : zL ad (zent vs n) ((lg_sl (vs.map (ztr ad)) ++ List.replicate (n - (lg_sl (vs.map (ztr ad))).length) Slot.unset).toArray) := by
  have h0 := lv_entry (vs.map (ztr ad)) (n := n) (by rw [zargs_len]; exact h)
  refine ⟨by rw [zent_len h]; exact h0.1, h0.2.1, fun q hq => h0.2.2 q ?_⟩
  obtain ⟨v, h1, h2⟩ := zlv_mem.mp hq
  have h3 : (zargs vs)[q.1]? = some (some v) := by
    unfold zent at h1
    rw [List.getElem?_append] at h1
    split at h1
    · exact h1
    · rw [List.getElem?_replicate] at h1
      split at h1 <;> cases h1
  have h4 := zargs_lv ad vs 0 q.1 v h3
  rw [Nat.zero_add, ← h2] at h4
  exact h4
set_option maxHeartbeats 4000000 in
/-- EVERY RUN OF THE SMALL MACHINE IS A CONTRACT OF THE MACHINE'S -/
theorem zev_met {l : Launch} {D : va_G} {cy : Nat → ClassId} {g : Nat → Nat} {base : Nat} {G : Heap} {X : List Int32} (hstr : zStrOK l D cy g base G X) (F : Nat) : ∀ d : Nat, zCallOK l D cy g base G X d (zev X F d) := by
  intro d
  induction d with
  | zero => intro j vs M r h; cases h
  | succ d ih =>
    intro j vs M r h
    refine ⟨fun ci na y cc ml ret pos hz => ?_, fun hz => ?_, zev_mono X F _ _ _ _ _ h⟩
    · have hmo := zev_mono X F _ _ _ _ _ h
      unfold zev at h
      rw [hz] at h
      dsimp only at h
      split at h
      · rename_i hal
        obtain ⟨q1, q2, q3, q4, q5, q6, q7⟩ := zmt_ok hz
        unfold zMet
        refine Met.ofW (cc := cc) (maxL := ml) (ret := ret) q3 rfl ?_
        intro p e s m args below meth c s₁ B hml hv
        obtain ⟨rfl, hR, hK⟩ := hv
        have hx := B.exec
        have hb := B.bytes
        have hr := B.returns
        have hts0 := atoms_spec (ws := zws y cc ml ret) B.pre
        have hts : ∀ w ∈ zW, w.before ((vs.map (ztr (zad g base))).toArray) s = true := fun w hw => hts0 w (List.mem_cons_of_mem _ hw)
        have hown : s.vm.findClass (zcn ci) = some m.cls := by rw [← q2]; exact findClass_of_methodNamed B.named
        have hlocks := B.notSynchronized
        have hname : meth.name = y.name := (name_of_methodNamed B.named B.method).1
        have a1 := hmo.1
        have a2 := hmo.2
        rw [lg_entry_eq]
        refine zloop_sim (own := ci) (ini := decide (y.name = "<init>")) (ret := ret) (call := zev X F d) (d := d) (r := r) (c0 := M.length) (s0 := zsl M) hx hb hts hown hK (fun hi => by rw [hname]; exact of_decide_eq_true hi) ih hstr ?_ ?_ ?_ ?_ ?_ F (0, zent vs ml, [], M) h s.heap [] 0 0 _ hR (fun q hq => by cases hq) (zent_L _ hal) (by rw [hml]; exact (zent_len hal).symm) (Nat.zero_add _) (Nat.zero_add _)
        · exact Nat.le_refl _
        · exact Nat.le_refl _
        · show _ ≤ (r.2.length - M.length) + M.length; omega
        · show _ ≤ (zsl r.2 - zsl M) + zsl M; omega
        · intro st i H locs cells slots ls hd hzr hst hR2 hLo e1 e2
          obtain rfl : cells = r.2.length - M.length := by omega
          obtain rfl : slots = zsl r.2 - zsl M := by omega
          obtain ⟨pc, ml2, stk, M2⟩ := st
          dsimp only at hd hzr hst ⊢
          have hqq : ∀ t : State, t.heap = H → s.WarmedH t.vm → zQc D cy g base G r ((vs.map (ztr (zad g base))).toArray) s (.returned (r.1.map (ztr (zad g base)))) t := fun t ht _ => ⟨rfl, by rw [ht]; exact hR2⟩
          unfold zret at hzr
          split at hzr
          · split at hzr
            · split at hzr
              · rename_i hn
                have e3 := Option.some.inj hzr
                rw [← e3] at hqq
                exact W.zret hx hb hr hn hqq hLo hd
              · cases hzr
            · cases hzr
          · split at hzr
            · rename_i hty
              have e3 := Option.some.inj hzr
              rw [← e3] at hqq
              exact W.lret hx hb (hr.trans hty) hqq hLo hd
            · cases hzr
          · split at hzr
            · rename_i hty
              have e3 := Option.some.inj hzr
              rw [← e3] at hqq
              exact W.vret hx hb (hr.trans hty) hqq hLo hd
            · cases hzr
          · cases hzr
      · cases h
    · unfold zev at h
      rw [hz] at h
      dsimp only at h
      split at h
      · rename_i h4
        exact ⟨h, h4⟩
      · cases h
end
section
/-! the members of the two texts: length, charAt, indexOf (laid by wip/whole/mk13.py) -/
theorem zSt.kept {g : Nat → Nat} {base : Nat} {G H : Heap} {U : State} (h : zSt g base G U) (hq : ∀ q : Nat, q < base → H[q]? = G[q]?) : zSt g base H U := by
  have h1 : ∀ a : Nat, a < G.size → ¬ (fun q : Nat => base ≤ q) a → H[a]? = G[a]? := fun a _ hn => hq a (Nat.not_le.mp hn)
  exact ⟨h.1, h.2.1.kept h1, h.2.2.1, h.2.2.2.1.kept h1, h.2.2.2.2.1.kept h1, h.2.2.2.2.2⟩
def zKc (g : Nat → Nat) (base : Nat) (av : List Value) : Array Value → State → Prop := va_Pc av (fun U => zSt g base U.heap U)
def zKq (r : Option Value) : Array Value → State → Outcome → State → Prop := fun _ st o t => o = .returned r ∧ t.heap = st.heap
theorem zKb {g : Nat → Nat} {base : Nat} {av : List Value} : FrameBlind (zKc g base av) := fun a U f mk h => ⟨h.1, zSt.same (u := U) (U := U.calling f mk a) rfl h.2⟩
theorem zw_at (w : Jvm.Cond) (pos : Nat) (h : zhas pos w = true) : w ∈ zW := zhas_in h
section ZK
variable {p : Program} {l : Launch} {e : Env} {R : Room} {s : State} {m : MethodId} {args : Array Value} {below : List Frame} {meth : Method} {c : Code} {H : Heap} {locs : List Loc} {cells slots : Nat} {Q : State → Prop} {pc : Nat} {ls : Array Slot}
theorem zk_go {r : Option Value} {a : Array Value} {st0 rest : List Value} (hr : va_Run p l e R s m args below meth c H locs cells slots 0 0 (F0 m pc ls st0) rest (zKq r a) (fun _ => False))
    (kk : W p l e R s m args below meth c H locs cells slots Q (F0 m (pc + 3) ls (r.toList ++ rest))) : W p l e R s m args below meth c H locs cells slots Q (F0 m pc ls st0) := by
  intro T hT X
  obtain ⟨v, st₀, t, T', L, h0, X', hL, e1, e2, ⟨hv, hz⟩, st⟩ := hr T hT X
  cases hv
  have hn : L = [] := by
    cases L with
    | nil => rfl
    | cons q L => exact (hL q List.mem_cons_self).elim
  subst hn
  rw [List.append_nil] at X'
  obtain ⟨t2, a1, b1⟩ := kk T' (by rw [e1, hz, h0]) X'
  exact ⟨t2, st t2 a1, b1⟩
end ZK
theorem zs_all : ∀ k, k < 2 → (∀ b ∈ ztx k, b < 128) ∧ (ztx k).length < 200 ∧ zlen.getD k 0 = (ztx k).length ∧ zbyt.getD k [] = (ztx k).map nI := by decide +kernel
theorem zs_c128 : ∀ b, b < 128 → nI b &&& 255 = nI b ∧ ((nI b).toUInt32 % 65536).toInt32 = nI b ∧ narrow .char (.int (nI b)) = .int (nI b) ∧ (nI b).toInt8.toInt32 = nI b := by decide +kernel
theorem zs_byte {k : Nat} (hk : k < 2) {i : Int32} (hi : ¬ (i < 0 ∨ zlen.getD k 0 ≤ i.toNatClampNeg)) : i < nI (zlen.getD k 0) ∧ (zbyt.getD k []).getD i.toNatClampNeg 0 = nI ((ztx k).getD i.toNatClampNeg 0) ∧ nI ((ztx k).getD i.toNatClampNeg 0) &&& 255 = nI ((ztx k).getD i.toNatClampNeg 0) ∧ ((nI ((ztx k).getD i.toNatClampNeg 0)).toUInt32 % 65536).toInt32 = nI ((ztx k).getD i.toNatClampNeg 0) ∧ narrow .char (.int (nI ((ztx k).getD i.toNatClampNeg 0))) = .int (nI ((ztx k).getD i.toNatClampNeg 0)) := by
  obtain ⟨h1, h2, h3, h4⟩ := zs_all k hk
  rw [h3] at hi ⊢
  have hlt : i.toNatClampNeg < (ztx k).length := Nat.not_le.mp fun z => hi (Or.inr z)
  have hm : (ztx k).getD i.toNatClampNeg 0 ∈ ztx k := by
    rw [List.getD_eq_getElem?_getD, List.getElem?_eq_getElem hlt]
    exact List.getElem_mem hlt
  obtain ⟨c1, c2, c3, -⟩ := zs_c128 _ (h1 _ hm)
  refine ⟨?_, ?_, c1, c2, c3⟩
  · obtain ⟨j, hj, rfl⟩ := nI_of (fun q => hi (Or.inl q))
    rw [nI_clamp hj] at hlt
    exact nI_lt hlt (by omega)
  · rw [h4, List.getD_eq_getElem?_getD, List.getElem?_map, List.getD_eq_getElem?_getD, List.getElem?_eq_getElem hlt]
    rfl
set_option maxRecDepth 100000 in
theorem zs_coder (l : Launch) (n : Nat) {g : Nat → Nat} {base : Nat} {k : Nat} (hk : k < 2) : Met l yJ0_coder_7d493 (zws yJ0_coder_7d493 cJ0_coder_7d493 1 (some .byte)) (zroom (n + 0) 0 0) (zKc g base [.ref (g (1 + k))]) (zKq (some (.int 0))) 0 0 (fun _ => False) := by
  refine Met.ofW (cc := cJ0_coder_7d493) (maxL := 1) (ret := (some .byte)) (by decide +kernel) rfl ?_
  intro p e s m args below meth co s₁ B hml hv
  obtain ⟨rfl, hST⟩ := hv
  have hx := B.exec
  have hb := B.bytes
  have hr := B.returns
  have hts0 := atoms_spec (ws := zws yJ0_coder_7d493 cJ0_coder_7d493 1 (some .byte)) B.pre
  have hts : ∀ w ∈ zW, w.before ([.ref (g (1 + k))] : List Value).toArray s = true := fun w hw => hts0 w (List.mem_cons_of_mem _ hw)
  have hown : s.vm.findClass RJ0 = some m.cls := findClass_of_methodNamed B.named
  have hlocks := B.notSynchronized
  have hS : va_S (fun q : Nat => base ≤ q) s.heap s.heap [] := va_S.rf
  have hpre : ∀ (vs : List Value) (U : State), U.heap = s.heap → s.WarmedH U.vm → zKc g base vs vs.toArray U := fun vs U hU hWm => ⟨rfl, by show zSt g base U.heap U; rw [hU]; exact hST.warm hWm⟩
  rw [lg_entry_eq]
  have hl := lv_entry ([.ref (g (1 + k))] : List Value) (n := 1) (Nat.le_of_ble_eq_true rfl)
  generalize (lg_sl ([.ref (g (1 + k))] : List Value) ++ List.replicate (1 - (lg_sl ([.ref (g (1 + k))] : List Value)).length) Slot.unset).toArray = ls at hl ⊢
  have hl : lv_has ls 1 [(0, .ref (g (1 + k)))] := hl
  refine va_gets (ref := "java/lang/String") hx hb hST.2.2.2.1 hS hown (hts _ (zw_at (.fieldLink RJ0 38 "java/lang/String" "COMPACT_STRINGS" "Z") 309 (by decide +kernel))) (fun _ h => h) (show decode cJ0_coder_7d493 0 = .ok (.getstatic 38, 3) by decide +kernel) ?_
  refine lv_if_eq (tgt := 13) hx hb (show decode cJ0_coder_7d493 3 = .ok (.ifCond .eq 10, 3) by decide +kernel) (by decide) (fun c9 => absurd c9 (by decide)) (fun c9 => ?_)
  refine lv_aload_n hx hb (show decode cJ0_coder_7d493 6 = .ok (.aload_n 0, 1) by decide +kernel) rfl (lv_at hl 0 rfl) ?_
  refine vk_getf hx hb ((hST.2.1.1 k hk).2.1) hS hown (hts _ (zw_at (.fieldLink RJ0 15 "java/lang/String" "coder" "B") 2022 (by decide +kernel))) (fun _ h => h) (show decode cJ0_coder_7d493 7 = .ok (.getfield 15, 3) by decide +kernel) ?_
  refine lv_goto (tgt := 14) hx hb (show decode cJ0_coder_7d493 10 = .ok (.goto 4, 3) by decide +kernel) (by decide) ?_
  exact W.zret (v := 0) hx hb hr (rfl) (fun t ht _ => ⟨rfl, ht⟩) (fun q hq => by cases hq) (show decode cJ0_coder_7d493 14 = .ok (.ireturn, 1) by decide +kernel)
set_option maxRecDepth 100000 in
theorem zs_lat (l : Launch) (n : Nat) {g : Nat → Nat} {base : Nat} {k : Nat} (hk : k < 2) : Met l yJ0_isLatin1_aae02 (zws yJ0_isLatin1_aae02 cJ0_isLatin1_aae02 1 (some .boolean)) (zroom (n + 0) 0 0) (zKc g base [.ref (g (1 + k))]) (zKq (some (.int 1))) 0 0 (fun _ => False) := by
  refine Met.ofW (cc := cJ0_isLatin1_aae02) (maxL := 1) (ret := (some .boolean)) (by decide +kernel) rfl ?_
  intro p e s m args below meth co s₁ B hml hv
  obtain ⟨rfl, hST⟩ := hv
  have hx := B.exec
  have hb := B.bytes
  have hr := B.returns
  have hts0 := atoms_spec (ws := zws yJ0_isLatin1_aae02 cJ0_isLatin1_aae02 1 (some .boolean)) B.pre
  have hts : ∀ w ∈ zW, w.before ([.ref (g (1 + k))] : List Value).toArray s = true := fun w hw => hts0 w (List.mem_cons_of_mem _ hw)
  have hown : s.vm.findClass RJ0 = some m.cls := findClass_of_methodNamed B.named
  have hlocks := B.notSynchronized
  have hS : va_S (fun q : Nat => base ≤ q) s.heap s.heap [] := va_S.rf
  have hpre : ∀ (vs : List Value) (U : State), U.heap = s.heap → s.WarmedH U.vm → zKc g base vs vs.toArray U := fun vs U hU hWm => ⟨rfl, by show zSt g base U.heap U; rw [hU]; exact hST.warm hWm⟩
  rw [lg_entry_eq]
  have hl := lv_entry ([.ref (g (1 + k))] : List Value) (n := 1) (Nat.le_of_ble_eq_true rfl)
  generalize (lg_sl ([.ref (g (1 + k))] : List Value) ++ List.replicate (1 - (lg_sl ([.ref (g (1 + k))] : List Value)).length) Slot.unset).toArray = ls at hl ⊢
  have hl : lv_has ls 1 [(0, .ref (g (1 + k)))] := hl
  refine va_gets (ref := "java/lang/String") hx hb hST.2.2.2.1 hS hown (hts _ (zw_at (.fieldLink RJ0 38 "java/lang/String" "COMPACT_STRINGS" "Z") 309 (by decide +kernel))) (fun _ h => h) (show decode cJ0_isLatin1_aae02 0 = .ok (.getstatic 38, 3) by decide +kernel) ?_
  refine lv_if_eq (tgt := 17) hx hb (show decode cJ0_isLatin1_aae02 3 = .ok (.ifCond .eq 14, 3) by decide +kernel) (by decide) (fun c9 => absurd c9 (by decide)) (fun c9 => ?_)
  refine lv_aload_n hx hb (show decode cJ0_isLatin1_aae02 6 = .ok (.aload_n 0, 1) by decide +kernel) rfl (lv_at hl 0 rfl) ?_
  refine vk_getf hx hb ((hST.2.1.1 k hk).2.1) hS hown (hts _ (zw_at (.fieldLink RJ0 15 "java/lang/String" "coder" "B") 2022 (by decide +kernel))) (fun _ h => h) (show decode cJ0_isLatin1_aae02 7 = .ok (.getfield 15, 3) by decide +kernel) ?_
  refine lv_if_ne (tgt := 17) hx hb (show decode cJ0_isLatin1_aae02 10 = .ok (.ifCond .ne 7, 3) by decide +kernel) (by decide) (fun c9 => absurd rfl c9) (fun c9 => ?_)
  refine lv_iconst (v := 1) hx hb (show decode cJ0_isLatin1_aae02 13 = .ok (.iconst 1, 1) by decide +kernel) (by decide) ?_
  refine lv_goto (tgt := 18) hx hb (show decode cJ0_isLatin1_aae02 14 = .ok (.goto 4, 3) by decide +kernel) (by decide) ?_
  exact W.zret (v := 1) hx hb hr (rfl) (fun t ht _ => ⟨rfl, ht⟩) (fun q hq => by cases hq) (show decode cJ0_isLatin1_aae02 18 = .ok (.ireturn, 1) by decide +kernel)
set_option maxRecDepth 100000 in
theorem zs_length (l : Launch) (n : Nat) {g : Nat → Nat} {base : Nat} {k : Nat} (hk : k < 2) : Met l yJ0_length_8abf5 (zws yJ0_length_8abf5 cJ0_length_8abf5 1 (some .int)) (zroom (n + 1) 0 0) (zKc g base [.ref (g (1 + k))]) (zKq (some (.int (nI (zlen.getD k 0))))) 0 0 (fun _ => False) := by
  refine Met.ofW (cc := cJ0_length_8abf5) (maxL := 1) (ret := (some .int)) (by decide +kernel) rfl ?_
  intro p e s m args below meth co s₁ B hml hv
  obtain ⟨rfl, hST⟩ := hv
  have hx := B.exec
  have hb := B.bytes
  have hr := B.returns
  have hts0 := atoms_spec (ws := zws yJ0_length_8abf5 cJ0_length_8abf5 1 (some .int)) B.pre
  have hts : ∀ w ∈ zW, w.before ([.ref (g (1 + k))] : List Value).toArray s = true := fun w hw => hts0 w (List.mem_cons_of_mem _ hw)
  have hown : s.vm.findClass RJ0 = some m.cls := findClass_of_methodNamed B.named
  have hlocks := B.notSynchronized
  have hS : va_S (fun q : Nat => base ≤ q) s.heap s.heap [] := va_S.rf
  have hpre : ∀ (vs : List Value) (U : State), U.heap = s.heap → s.WarmedH U.vm → zKc g base vs vs.toArray U := fun vs U hU hWm => ⟨rfl, by show zSt g base U.heap U; rw [hU]; exact hST.warm hWm⟩
  rw [lg_entry_eq]
  have hl := lv_entry ([.ref (g (1 + k))] : List Value) (n := 1) (Nat.le_of_ble_eq_true rfl)
  generalize (lg_sl ([.ref (g (1 + k))] : List Value) ++ List.replicate (1 - (lg_sl ([.ref (g (1 + k))] : List Value)).length) Slot.unset).toArray = ls at hl ⊢
  have hl : lv_has ls 1 [(0, .ref (g (1 + k)))] := hl
  refine lv_aload_n hx hb (show decode cJ0_length_8abf5 0 = .ok (.aload_n 0, 1) by decide +kernel) rfl (lv_at hl 0 rfl) ?_
  refine vk_getf hx hb ((hST.2.1.1 k hk).2.2.1) hS hown (hts _ (zw_at (.fieldLink RJ0 9 "java/lang/String" "value" "[B") 2021 (by decide +kernel))) (fun _ h => h) (show decode cJ0_length_8abf5 1 = .ok (.getfield 9, 3) by decide +kernel) ?_
  refine va_tlen (v := nI (zlen.getD k 0)) hx hb ((hST.2.1.1 k hk).2.2.2) hS rfl (show decode cJ0_length_8abf5 4 = .ok (.arraylength, 1) by decide +kernel) ?_
  refine lv_aload_n hx hb (show decode cJ0_length_8abf5 5 = .ok (.aload_n 0, 1) by decide +kernel) rfl (lv_at hl 0 rfl) ?_
  have hG : ∀ w ∈ wsV RJ0 335 RJ0 yJ0_coder_7d493 (zws yJ0_coder_7d493 cJ0_coder_7d493 1 (some .byte)), w ∈ zW := by
    intro w hw
    unfold wsV at hw
    rcases List.mem_append.mp hw with h1 | h1
    · simp only [List.mem_cons, List.not_mem_nil, or_false] at h1
      rcases h1 with rfl | rfl | rfl | rfl
      · exact zw_at _ 305 (by decide +kernel)
      · exact zw_at _ 306 (by decide +kernel)
      · exact zw_at _ 307 (by decide +kernel)
      · exact zw_at _ 130 (by decide +kernel)
    · exact zGoodM (zw_at _ 308 (by decide +kernel)) w h1
  refine zk_go (va_runV (As := []) (rest := [.int (nI (zlen.getD k 0))]) ⟨hx, hb, hml, hown, hts⟩ (zs_coder l n hk) (cwV (C := RJ0) 0 hts (zGood hG) rfl rfl rfl ⟨rfl, by decide +kernel, by decide +kernel, by decide +kernel⟩ ⟨by show n + 0 + 1 ≤ n + 1; omega, by show 8 + (1 + 11) + 40 * (n + 0) ≤ 40 * (n + 1); omega⟩) ⟨zKb, (by obtain ⟨cellB, b1, b2, b3, -⟩ := (hST.2.1.1 k hk).1; exact ⟨cellB, b1, b2, b3⟩), fun U hU hWm => hpre _ U hU hWm⟩ rfl rfl hl.1 rfl (lv_room (Nat.le_of_ble_eq_true rfl)) (show decode cJ0_length_8abf5 6 = .ok (.invokevirtual 335, 3) by decide +kernel) ⟨Nat.le_refl _, Nat.le_refl _⟩) ?_
  refine lv_ishr hx hb (show decode cJ0_length_8abf5 9 = .ok (.ishr, 1) by decide +kernel) ?_
  rw [sb_shr0]
  exact W.zret (v := nI (zlen.getD k 0)) hx hb hr (rfl) (fun t ht _ => ⟨rfl, ht⟩) (fun q hq => by cases hq) (show decode cJ0_length_8abf5 10 = .ok (.ireturn, 1) by decide +kernel)
set_option maxRecDepth 100000 in
theorem zs_preN (l : Launch) (n : Nat) {g : Nat → Nat} {base : Nat} (i nn : Int32) (h0 : ¬ i < 0) (h1 : i < nn) : Met l yJ3_checkIndex_8e157 (zws yJ3_checkIndex_8e157 cJ3_checkIndex_8e157 3 (some .int)) (zroom (n + 0) 0 0) (zKc g base [.int i, .int nn, .null]) (zKq (some (.int i))) 0 0 (fun _ => False) := by
  refine Met.ofW (cc := cJ3_checkIndex_8e157) (maxL := 3) (ret := (some .int)) (by decide +kernel) rfl ?_
  intro p e s m args below meth co s₁ B hml hv
  obtain ⟨rfl, hST⟩ := hv
  have hx := B.exec
  have hb := B.bytes
  have hr := B.returns
  have hts0 := atoms_spec (ws := zws yJ3_checkIndex_8e157 cJ3_checkIndex_8e157 3 (some .int)) B.pre
  have hts : ∀ w ∈ zW, w.before ([.int i, .int nn, .null] : List Value).toArray s = true := fun w hw => hts0 w (List.mem_cons_of_mem _ hw)
  have hown : s.vm.findClass RJ3 = some m.cls := findClass_of_methodNamed B.named
  have hlocks := B.notSynchronized
  have hS : va_S (fun q : Nat => base ≤ q) s.heap s.heap [] := va_S.rf
  have hpre : ∀ (vs : List Value) (U : State), U.heap = s.heap → s.WarmedH U.vm → zKc g base vs vs.toArray U := fun vs U hU hWm => ⟨rfl, by show zSt g base U.heap U; rw [hU]; exact hST.warm hWm⟩
  rw [lg_entry_eq]
  have hl := lv_entry ([.int i, .int nn, .null] : List Value) (n := 3) (Nat.le_of_ble_eq_true rfl)
  generalize (lg_sl ([.int i, .int nn, .null] : List Value) ++ List.replicate (3 - (lg_sl ([.int i, .int nn, .null] : List Value)).length) Slot.unset).toArray = ls at hl ⊢
  have hl : lv_has ls 3 [(0, .int i), (1, .int nn), (2, .null)] := hl
  refine lv_iload_n hx hb (show decode cJ3_checkIndex_8e157 0 = .ok (.iload_n 0, 1) by decide +kernel) rfl (lv_at hl 0 rfl) ?_
  refine lv_if_lt (tgt := 9) hx hb (show decode cJ3_checkIndex_8e157 1 = .ok (.ifCond .lt 8, 3) by decide +kernel) (by decide) (fun c9 => absurd c9 h0) (fun c9 => ?_)
  refine lv_iload_n hx hb (show decode cJ3_checkIndex_8e157 4 = .ok (.iload_n 0, 1) by decide +kernel) rfl (lv_at hl 0 rfl) ?_
  refine lv_iload_n hx hb (show decode cJ3_checkIndex_8e157 5 = .ok (.iload_n 1, 1) by decide +kernel) rfl (lv_at hl 1 rfl) ?_
  refine lv_icmp_lt (tgt := 16) hx hb (show decode cJ3_checkIndex_8e157 6 = .ok (.if_icmp .lt 10, 3) by decide +kernel) (by decide) (fun c9 => ?_) (fun c9 => absurd h1 c9)
  refine lv_iload_n hx hb (show decode cJ3_checkIndex_8e157 16 = .ok (.iload_n 0, 1) by decide +kernel) rfl (lv_at hl 0 rfl) ?_
  exact W.zret (v := i) hx hb hr (rfl) (fun t ht _ => ⟨rfl, ht⟩) (fun q hq => by cases hq) (show decode cJ3_checkIndex_8e157 17 = .ok (.ireturn, 1) by decide +kernel)
set_option maxRecDepth 100000 in
theorem zs_preR (l : Launch) (n : Nat) {g : Nat → Nat} {base : Nat} (t : Nat) (i nn : Int32) (h0 : ¬ i < 0) (h1 : i < nn) : Met l yJ3_checkIndex_8e157 (zws yJ3_checkIndex_8e157 cJ3_checkIndex_8e157 3 (some .int)) (zroom (n + 0) 0 0) (zKc g base [.int i, .int nn, .ref t]) (zKq (some (.int i))) 0 0 (fun _ => False) := by
  refine Met.ofW (cc := cJ3_checkIndex_8e157) (maxL := 3) (ret := (some .int)) (by decide +kernel) rfl ?_
  intro p e s m args below meth co s₁ B hml hv
  obtain ⟨rfl, hST⟩ := hv
  have hx := B.exec
  have hb := B.bytes
  have hr := B.returns
  have hts0 := atoms_spec (ws := zws yJ3_checkIndex_8e157 cJ3_checkIndex_8e157 3 (some .int)) B.pre
  have hts : ∀ w ∈ zW, w.before ([.int i, .int nn, .ref t] : List Value).toArray s = true := fun w hw => hts0 w (List.mem_cons_of_mem _ hw)
  have hown : s.vm.findClass RJ3 = some m.cls := findClass_of_methodNamed B.named
  have hlocks := B.notSynchronized
  have hS : va_S (fun q : Nat => base ≤ q) s.heap s.heap [] := va_S.rf
  have hpre : ∀ (vs : List Value) (U : State), U.heap = s.heap → s.WarmedH U.vm → zKc g base vs vs.toArray U := fun vs U hU hWm => ⟨rfl, by show zSt g base U.heap U; rw [hU]; exact hST.warm hWm⟩
  rw [lg_entry_eq]
  have hl := lv_entry ([.int i, .int nn, .ref t] : List Value) (n := 3) (Nat.le_of_ble_eq_true rfl)
  generalize (lg_sl ([.int i, .int nn, .ref t] : List Value) ++ List.replicate (3 - (lg_sl ([.int i, .int nn, .ref t] : List Value)).length) Slot.unset).toArray = ls at hl ⊢
  have hl : lv_has ls 3 [(0, .int i), (1, .int nn), (2, .ref t)] := hl
  refine lv_iload_n hx hb (show decode cJ3_checkIndex_8e157 0 = .ok (.iload_n 0, 1) by decide +kernel) rfl (lv_at hl 0 rfl) ?_
  refine lv_if_lt (tgt := 9) hx hb (show decode cJ3_checkIndex_8e157 1 = .ok (.ifCond .lt 8, 3) by decide +kernel) (by decide) (fun c9 => absurd c9 h0) (fun c9 => ?_)
  refine lv_iload_n hx hb (show decode cJ3_checkIndex_8e157 4 = .ok (.iload_n 0, 1) by decide +kernel) rfl (lv_at hl 0 rfl) ?_
  refine lv_iload_n hx hb (show decode cJ3_checkIndex_8e157 5 = .ok (.iload_n 1, 1) by decide +kernel) rfl (lv_at hl 1 rfl) ?_
  refine lv_icmp_lt (tgt := 16) hx hb (show decode cJ3_checkIndex_8e157 6 = .ok (.if_icmp .lt 10, 3) by decide +kernel) (by decide) (fun c9 => ?_) (fun c9 => absurd h1 c9)
  refine lv_iload_n hx hb (show decode cJ3_checkIndex_8e157 16 = .ok (.iload_n 0, 1) by decide +kernel) rfl (lv_at hl 0 rfl) ?_
  exact W.zret (v := i) hx hb hr (rfl) (fun t ht _ => ⟨rfl, ht⟩) (fun q hq => by cases hq) (show decode cJ3_checkIndex_8e157 17 = .ok (.ireturn, 1) by decide +kernel)
set_option maxRecDepth 100000 in
theorem zs_chk (l : Launch) (n : Nat) {g : Nat → Nat} {base : Nat} (i nn : Int32) (h0 : ¬ i < 0) (h1 : i < nn) : Met l yJ0_checkIndex_df160 (zws yJ0_checkIndex_df160 cJ0_checkIndex_df160 2 none) (zroom (n + 1) 0 0) (zKc g base [.int i, .int nn]) (zKq none) 0 0 (fun _ => False) := by
  refine Met.ofW (cc := cJ0_checkIndex_df160) (maxL := 2) (ret := none) (by decide +kernel) rfl ?_
  intro p e s m args below meth co s₁ B hml hv
  obtain ⟨rfl, hST⟩ := hv
  have hx := B.exec
  have hb := B.bytes
  have hr := B.returns
  have hts0 := atoms_spec (ws := zws yJ0_checkIndex_df160 cJ0_checkIndex_df160 2 none) B.pre
  have hts : ∀ w ∈ zW, w.before ([.int i, .int nn] : List Value).toArray s = true := fun w hw => hts0 w (List.mem_cons_of_mem _ hw)
  have hown : s.vm.findClass RJ0 = some m.cls := findClass_of_methodNamed B.named
  have hlocks := B.notSynchronized
  have hS : va_S (fun q : Nat => base ≤ q) s.heap s.heap [] := va_S.rf
  have hpre : ∀ (vs : List Value) (U : State), U.heap = s.heap → s.WarmedH U.vm → zKc g base vs vs.toArray U := fun vs U hU hWm => ⟨rfl, by show zSt g base U.heap U; rw [hU]; exact hST.warm hWm⟩
  rw [lg_entry_eq]
  have hl := lv_entry ([.int i, .int nn] : List Value) (n := 2) (Nat.le_of_ble_eq_true rfl)
  generalize (lg_sl ([.int i, .int nn] : List Value) ++ List.replicate (2 - (lg_sl ([.int i, .int nn] : List Value)).length) Slot.unset).toArray = ls at hl ⊢
  have hl : lv_has ls 2 [(0, .int i), (1, .int nn)] := hl
  refine lv_iload_n hx hb (show decode cJ0_checkIndex_df160 0 = .ok (.iload_n 0, 1) by decide +kernel) rfl (lv_at hl 0 rfl) ?_
  refine lv_iload_n hx hb (show decode cJ0_checkIndex_df160 1 = .ok (.iload_n 1, 1) by decide +kernel) rfl (lv_at hl 1 rfl) ?_
  rcases hST.2.2.2.2.1 with hZ | ⟨t, hZ⟩
  · refine va_gets (ref := "jdk/internal/util/Preconditions") hx hb hZ hS hown (hts _ (zw_at (.fieldLink RJ0 1053 "jdk/internal/util/Preconditions" "SIOOBE_FORMATTER" "Ljava/util/function/BiFunction;") 325 (by decide +kernel))) (fun _ h => h) (show decode cJ0_checkIndex_df160 2 = .ok (.getstatic 1053, 3) by decide +kernel) ?_
    have hG : ∀ w ∈ va_wsS RJ0 1059 yJ3_checkIndex_8e157 (zws yJ3_checkIndex_8e157 cJ3_checkIndex_8e157 3 (some .int)), w ∈ zW := by
      intro w hw
      unfold va_wsS at hw
      rcases List.mem_append.mp hw with h1 | h1
      · simp only [List.mem_cons, List.not_mem_nil, or_false] at h1
        rcases h1 with rfl | rfl | rfl
        · exact zw_at _ 327 (by decide +kernel)
        · exact zw_at _ 328 (by decide +kernel)
        · exact zw_at _ 132 (by decide +kernel)
      · exact zGoodM (zw_at _ 329 (by decide +kernel)) w h1
    refine zk_go (va_runS (As := [.int i, .int nn, .null]) (rest := []) ⟨hx, hb, hml, hown, hts⟩ (zs_preN l n i nn h0 h1) (va_cwS 3 hts (zGood hG) rfl rfl rfl ⟨by decide +kernel, by decide +kernel, by decide +kernel⟩ ⟨by show n + 0 + 1 ≤ n + 1; omega, by show 8 + (3 + 11) + 40 * (n + 0) ≤ 40 * (n + 1); omega⟩) ⟨zKb, fun U hU hWm => hpre _ U hU hWm⟩ rfl rfl hl.1 rfl (lv_room (Nat.le_of_ble_eq_true rfl)) (show decode cJ0_checkIndex_df160 5 = .ok (.invokestatic 1059, 3) by decide +kernel) ⟨Nat.le_refl _, Nat.le_refl _⟩) ?_
    refine lv_pop hx hb (show decode cJ0_checkIndex_df160 8 = .ok (.pop, 1) by decide +kernel) rfl ?_
    exact W.vret hx hb hr (fun t ht _ => ⟨rfl, ht⟩) (fun q hq => by cases hq) (show decode cJ0_checkIndex_df160 9 = .ok (.return_, 1) by decide +kernel)
  · refine va_gets (ref := "jdk/internal/util/Preconditions") hx hb hZ hS hown (hts _ (zw_at (.fieldLink RJ0 1053 "jdk/internal/util/Preconditions" "SIOOBE_FORMATTER" "Ljava/util/function/BiFunction;") 325 (by decide +kernel))) (fun _ h => h) (show decode cJ0_checkIndex_df160 2 = .ok (.getstatic 1053, 3) by decide +kernel) ?_
    have hG : ∀ w ∈ va_wsS RJ0 1059 yJ3_checkIndex_8e157 (zws yJ3_checkIndex_8e157 cJ3_checkIndex_8e157 3 (some .int)), w ∈ zW := by
      intro w hw
      unfold va_wsS at hw
      rcases List.mem_append.mp hw with h1 | h1
      · simp only [List.mem_cons, List.not_mem_nil, or_false] at h1
        rcases h1 with rfl | rfl | rfl
        · exact zw_at _ 327 (by decide +kernel)
        · exact zw_at _ 328 (by decide +kernel)
        · exact zw_at _ 132 (by decide +kernel)
      · exact zGoodM (zw_at _ 329 (by decide +kernel)) w h1
    refine zk_go (va_runS (As := [.int i, .int nn, .ref t]) (rest := []) ⟨hx, hb, hml, hown, hts⟩ (zs_preR l n t i nn h0 h1) (va_cwS 3 hts (zGood hG) rfl rfl rfl ⟨by decide +kernel, by decide +kernel, by decide +kernel⟩ ⟨by show n + 0 + 1 ≤ n + 1; omega, by show 8 + (3 + 11) + 40 * (n + 0) ≤ 40 * (n + 1); omega⟩) ⟨zKb, fun U hU hWm => hpre _ U hU hWm⟩ rfl rfl hl.1 rfl (lv_room (Nat.le_of_ble_eq_true rfl)) (show decode cJ0_checkIndex_df160 5 = .ok (.invokestatic 1059, 3) by decide +kernel) ⟨Nat.le_refl _, Nat.le_refl _⟩) ?_
    refine lv_pop hx hb (show decode cJ0_checkIndex_df160 8 = .ok (.pop, 1) by decide +kernel) rfl ?_
    exact W.vret hx hb hr (fun t ht _ => ⟨rfl, ht⟩) (fun q hq => by cases hq) (show decode cJ0_checkIndex_df160 9 = .ok (.return_, 1) by decide +kernel)
set_option maxRecDepth 100000 in
theorem zs_l1c (l : Launch) (n : Nat) {g : Nat → Nat} {base : Nat} {k : Nat} (hk : k < 2) (i : Int32) (hi : ¬ (i < 0 ∨ zlen.getD k 0 ≤ i.toNatClampNeg)) : Met l yJ1_charAt_3b067 (zws yJ1_charAt_3b067 cJ1_charAt_3b067 2 (some .char)) (zroom (n + 2) 0 0) (zKc g base [.ref (g (3 + k)), .int i]) (zKq (some (.int (nI ((ztx k).getD i.toNatClampNeg 0))))) 0 0 (fun _ => False) := by
  refine Met.ofW (cc := cJ1_charAt_3b067) (maxL := 2) (ret := (some .char)) (by decide +kernel) rfl ?_
  intro p e s m args below meth co s₁ B hml hv
  obtain ⟨rfl, hST⟩ := hv
  have hx := B.exec
  have hb := B.bytes
  have hr := B.returns
  have hts0 := atoms_spec (ws := zws yJ1_charAt_3b067 cJ1_charAt_3b067 2 (some .char)) B.pre
  have hts : ∀ w ∈ zW, w.before ([.ref (g (3 + k)), .int i] : List Value).toArray s = true := fun w hw => hts0 w (List.mem_cons_of_mem _ hw)
  have hown : s.vm.findClass RJ1 = some m.cls := findClass_of_methodNamed B.named
  have hlocks := B.notSynchronized
  have hS : va_S (fun q : Nat => base ≤ q) s.heap s.heap [] := va_S.rf
  have hpre : ∀ (vs : List Value) (U : State), U.heap = s.heap → s.WarmedH U.vm → zKc g base vs vs.toArray U := fun vs U hU hWm => ⟨rfl, by show zSt g base U.heap U; rw [hU]; exact hST.warm hWm⟩
  obtain ⟨z1, z2⟩ := zs_byte hk hi
  have z0 : ¬ i < 0 := fun q => hi (Or.inl q)
  rw [lg_entry_eq]
  have hl := lv_entry ([.ref (g (3 + k)), .int i] : List Value) (n := 2) (Nat.le_of_ble_eq_true rfl)
  generalize (lg_sl ([.ref (g (3 + k)), .int i] : List Value) ++ List.replicate (2 - (lg_sl ([.ref (g (3 + k)), .int i] : List Value)).length) Slot.unset).toArray = ls at hl ⊢
  have hl : lv_has ls 2 [(0, .ref (g (3 + k))), (1, .int i)] := hl
  refine lv_iload_n hx hb (show decode cJ1_charAt_3b067 0 = .ok (.iload_n 1, 1) by decide +kernel) rfl (lv_at hl 1 rfl) ?_
  refine lv_aload_n hx hb (show decode cJ1_charAt_3b067 1 = .ok (.aload_n 0, 1) by decide +kernel) rfl (lv_at hl 0 rfl) ?_
  refine va_tlen (v := nI (zlen.getD k 0)) hx hb ((hST.2.1.1 k hk).2.2.2) hS rfl (show decode cJ1_charAt_3b067 2 = .ok (.arraylength, 1) by decide +kernel) ?_
  have hG : ∀ w ∈ va_wsS RJ1 9 yJ0_checkIndex_df160 (zws yJ0_checkIndex_df160 cJ0_checkIndex_df160 2 none), w ∈ zW := by
    intro w hw
    unfold va_wsS at hw
    rcases List.mem_append.mp hw with h1 | h1
    · simp only [List.mem_cons, List.not_mem_nil, or_false] at h1
      rcases h1 with rfl | rfl | rfl
      · exact zw_at _ 322 (by decide +kernel)
      · exact zw_at _ 323 (by decide +kernel)
      · exact zw_at _ 130 (by decide +kernel)
    · exact zGoodM (zw_at _ 324 (by decide +kernel)) w h1
  refine zk_go (va_runS (As := [.int i, .int (nI (zlen.getD k 0))]) (rest := []) ⟨hx, hb, hml, hown, hts⟩ (zs_chk l n i (nI (zlen.getD k 0)) z0 z1) (va_cwS 2 hts (zGood hG) rfl rfl rfl ⟨by decide +kernel, by decide +kernel, by decide +kernel⟩ ⟨by show n + 1 + 1 ≤ n + 2; omega, by show 8 + (2 + 11) + 40 * (n + 1) ≤ 40 * (n + 2); omega⟩) ⟨zKb, fun U hU hWm => hpre _ U hU hWm⟩ rfl rfl hl.1 rfl (lv_room (Nat.le_of_ble_eq_true rfl)) (show decode cJ1_charAt_3b067 3 = .ok (.invokestatic 9, 3) by decide +kernel) ⟨Nat.le_refl _, Nat.le_refl _⟩) ?_
  refine lv_aload_n hx hb (show decode cJ1_charAt_3b067 6 = .ok (.aload_n 0, 1) by decide +kernel) rfl (lv_at hl 0 rfl) ?_
  refine lv_iload_n hx hb (show decode cJ1_charAt_3b067 7 = .ok (.iload_n 1, 1) by decide +kernel) rfl (lv_at hl 1 rfl) ?_
  refine va_tb hx hb ((hST.2.1.1 k hk).2.2.2) hS (v := .int (nI ((ztx k).getD i.toNatClampNeg 0))) hi (congrArg Value.int z2.1) (show decode cJ1_charAt_3b067 8 = .ok (.baload, 1) by decide +kernel) ?_
  refine lv_sipush (v := 255) hx hb (show decode cJ1_charAt_3b067 9 = .ok (.sipush 255, 3) by decide +kernel) (by decide) ?_
  refine lv_iand hx hb (show decode cJ1_charAt_3b067 12 = .ok (.iand, 1) by decide +kernel) ?_
  rw [z2.2.1]
  refine lv_i2c hx hb (show decode cJ1_charAt_3b067 13 = .ok (.i2c, 1) by decide +kernel) z2.2.2.1 ?_
  exact W.zret (v := nI ((ztx k).getD i.toNatClampNeg 0)) hx hb hr (z2.2.2.2) (fun t ht _ => ⟨rfl, ht⟩) (fun q hq => by cases hq) (show decode cJ1_charAt_3b067 14 = .ok (.ireturn, 1) by decide +kernel)
set_option maxRecDepth 100000 in
theorem zs_charAt (l : Launch) (n : Nat) {g : Nat → Nat} {base : Nat} {k : Nat} (hk : k < 2) (i : Int32) (hi : ¬ (i < 0 ∨ zlen.getD k 0 ≤ i.toNatClampNeg)) : Met l yJ0_charAt_5068e (zws yJ0_charAt_5068e cJ0_charAt_5068e 2 (some .char)) (zroom (n + 3) 0 0) (zKc g base [.ref (g (1 + k)), .int i]) (zKq (some (.int (nI ((ztx k).getD i.toNatClampNeg 0))))) 0 0 (fun _ => False) := by
  refine Met.ofW (cc := cJ0_charAt_5068e) (maxL := 2) (ret := (some .char)) (by decide +kernel) rfl ?_
  intro p e s m args below meth co s₁ B hml hv
  obtain ⟨rfl, hST⟩ := hv
  have hx := B.exec
  have hb := B.bytes
  have hr := B.returns
  have hts0 := atoms_spec (ws := zws yJ0_charAt_5068e cJ0_charAt_5068e 2 (some .char)) B.pre
  have hts : ∀ w ∈ zW, w.before ([.ref (g (1 + k)), .int i] : List Value).toArray s = true := fun w hw => hts0 w (List.mem_cons_of_mem _ hw)
  have hown : s.vm.findClass RJ0 = some m.cls := findClass_of_methodNamed B.named
  have hlocks := B.notSynchronized
  have hS : va_S (fun q : Nat => base ≤ q) s.heap s.heap [] := va_S.rf
  have hpre : ∀ (vs : List Value) (U : State), U.heap = s.heap → s.WarmedH U.vm → zKc g base vs vs.toArray U := fun vs U hU hWm => ⟨rfl, by show zSt g base U.heap U; rw [hU]; exact hST.warm hWm⟩
  obtain ⟨z1, z2⟩ := zs_byte hk hi
  rw [lg_entry_eq]
  have hl := lv_entry ([.ref (g (1 + k)), .int i] : List Value) (n := 2) (Nat.le_of_ble_eq_true rfl)
  generalize (lg_sl ([.ref (g (1 + k)), .int i] : List Value) ++ List.replicate (2 - (lg_sl ([.ref (g (1 + k)), .int i] : List Value)).length) Slot.unset).toArray = ls at hl ⊢
  have hl : lv_has ls 2 [(0, .ref (g (1 + k))), (1, .int i)] := hl
  refine lv_aload_n hx hb (show decode cJ0_charAt_5068e 0 = .ok (.aload_n 0, 1) by decide +kernel) rfl (lv_at hl 0 rfl) ?_
  have hG : ∀ w ∈ wsV RJ0 492 RJ0 yJ0_isLatin1_aae02 (zws yJ0_isLatin1_aae02 cJ0_isLatin1_aae02 1 (some .boolean)), w ∈ zW := by
    intro w hw
    unfold wsV at hw
    rcases List.mem_append.mp hw with h1 | h1
    · simp only [List.mem_cons, List.not_mem_nil, or_false] at h1
      rcases h1 with rfl | rfl | rfl | rfl
      · exact zw_at _ 315 (by decide +kernel)
      · exact zw_at _ 316 (by decide +kernel)
      · exact zw_at _ 317 (by decide +kernel)
      · exact zw_at _ 130 (by decide +kernel)
    · exact zGoodM (zw_at _ 318 (by decide +kernel)) w h1
  refine zk_go (va_runV (As := []) (rest := []) ⟨hx, hb, hml, hown, hts⟩ (zs_lat l (n + 2) hk) (cwV (C := RJ0) 0 hts (zGood hG) rfl rfl rfl ⟨rfl, by decide +kernel, by decide +kernel, by decide +kernel⟩ ⟨by show n + 2 + 1 ≤ n + 3; omega, by show 8 + (1 + 11) + 40 * (n + 2) ≤ 40 * (n + 3); omega⟩) ⟨zKb, (by obtain ⟨cellB, b1, b2, b3, -⟩ := (hST.2.1.1 k hk).1; exact ⟨cellB, b1, b2, b3⟩), fun U hU hWm => hpre _ U hU hWm⟩ rfl rfl hl.1 rfl (lv_room (Nat.le_of_ble_eq_true rfl)) (show decode cJ0_charAt_5068e 1 = .ok (.invokevirtual 492, 3) by decide +kernel) ⟨Nat.le_refl _, Nat.le_refl _⟩) ?_
  refine lv_if_eq (tgt := 16) hx hb (show decode cJ0_charAt_5068e 4 = .ok (.ifCond .eq 12, 3) by decide +kernel) (by decide) (fun c9 => absurd c9 (by decide)) (fun c9 => ?_)
  refine lv_aload_n hx hb (show decode cJ0_charAt_5068e 7 = .ok (.aload_n 0, 1) by decide +kernel) rfl (lv_at hl 0 rfl) ?_
  refine vk_getf hx hb ((hST.2.1.1 k hk).2.2.1) hS hown (hts _ (zw_at (.fieldLink RJ0 9 "java/lang/String" "value" "[B") 2021 (by decide +kernel))) (fun _ h => h) (show decode cJ0_charAt_5068e 8 = .ok (.getfield 9, 3) by decide +kernel) ?_
  refine lv_iload_n hx hb (show decode cJ0_charAt_5068e 11 = .ok (.iload_n 1, 1) by decide +kernel) rfl (lv_at hl 1 rfl) ?_
  have hG : ∀ w ∈ va_wsS RJ0 495 yJ1_charAt_3b067 (zws yJ1_charAt_3b067 cJ1_charAt_3b067 2 (some .char)), w ∈ zW := by
    intro w hw
    unfold va_wsS at hw
    rcases List.mem_append.mp hw with h1 | h1
    · simp only [List.mem_cons, List.not_mem_nil, or_false] at h1
      rcases h1 with rfl | rfl | rfl
      · exact zw_at _ 319 (by decide +kernel)
      · exact zw_at _ 320 (by decide +kernel)
      · exact zw_at _ 131 (by decide +kernel)
    · exact zGoodM (zw_at _ 321 (by decide +kernel)) w h1
  refine zk_go (va_runS (As := [.ref (g (3 + k)), .int i]) (rest := []) ⟨hx, hb, hml, hown, hts⟩ (zs_l1c l n hk i hi) (va_cwS 2 hts (zGood hG) rfl rfl rfl ⟨by decide +kernel, by decide +kernel, by decide +kernel⟩ ⟨by show n + 2 + 1 ≤ n + 3; omega, by show 8 + (2 + 11) + 40 * (n + 2) ≤ 40 * (n + 3); omega⟩) ⟨zKb, fun U hU hWm => hpre _ U hU hWm⟩ rfl rfl hl.1 rfl (lv_room (Nat.le_of_ble_eq_true rfl)) (show decode cJ0_charAt_5068e 12 = .ok (.invokestatic 495, 3) by decide +kernel) ⟨Nat.le_refl _, Nat.le_refl _⟩) ?_
  exact W.zret (v := nI ((ztx k).getD i.toNatClampNeg 0)) hx hb hr (z2.2.2.2) (fun t ht _ => ⟨rfl, ht⟩) (fun q hq => by cases hq) (show decode cJ0_charAt_5068e 15 = .ok (.ireturn, 1) by decide +kernel)
end
section
/-! indexOf of the two texts (laid by wip/whole/mk13.py) -/
theorem zixF_out {c : Int32} : ∀ (l : List Nat) (k : Nat), (∀ b ∈ l, nI b ≠ c) → zixF c l k = -1
  | [], _, _ => rfl
  | b :: l, k, h => by
    unfold zixF
    rw [if_neg (h b List.mem_cons_self)]
    exact zixF_out l (k + 1) (fun x hx => h x (List.mem_cons_of_mem _ hx))
theorem zs_pos : ∀ k, k < 2 → 0 < (ztx k).length := by decide +kernel
theorem zs_eq8 {b cc : Nat} (hb : b < 128) (hc : cc < 256) : nI b = (nI cc).toInt8.toInt32 ↔ nI b = nI cc := by
  obtain ⟨h1, -, -, h4⟩ := zs_c128 b hb
  constructor
  · intro h
    have h2 := sc_k8 cc hc
    rw [← h, h1] at h2
    exact h2
  · intro h
    have : b = cc := (nI_eq (by omega) (by omega)).mp h
    subst this
    exact h4.symm
set_option maxRecDepth 100000 in
theorem zs_encN (l : Launch) (n : Nat) {g : Nat → Nat} {base : Nat} (c : Int32) (h : c < 0) : Met l yJ1_canEncode_9a6ad (zws yJ1_canEncode_9a6ad cJ1_canEncode_9a6ad 1 (some .boolean)) (zroom (n + 0) 0 0) (zKc g base [.int c]) (zKq (some (.int 0))) 0 0 (fun _ => False) := by
  refine Met.ofW (cc := cJ1_canEncode_9a6ad) (maxL := 1) (ret := (some .boolean)) (by decide +kernel) rfl ?_
  intro p e s m args below meth co s₁ B hml hv
  obtain ⟨rfl, hST⟩ := hv
  have hx := B.exec
  have hb := B.bytes
  have hr := B.returns
  have hts0 := atoms_spec (ws := zws yJ1_canEncode_9a6ad cJ1_canEncode_9a6ad 1 (some .boolean)) B.pre
  have hts : ∀ w ∈ zW, w.before ([.int c] : List Value).toArray s = true := fun w hw => hts0 w (List.mem_cons_of_mem _ hw)
  have hown : s.vm.findClass RJ1 = some m.cls := findClass_of_methodNamed B.named
  have hlocks := B.notSynchronized
  have hS : va_S (fun q : Nat => base ≤ q) s.heap s.heap [] := va_S.rf
  have hpre : ∀ (vs : List Value) (U : State), U.heap = s.heap → s.WarmedH U.vm → zKc g base vs vs.toArray U := fun vs U hU hWm => ⟨rfl, by show zSt g base U.heap U; rw [hU]; exact hST.warm hWm⟩
  rw [lg_entry_eq]
  have hl := lv_entry ([.int c] : List Value) (n := 1) (Nat.le_of_ble_eq_true rfl)
  generalize (lg_sl ([.int c] : List Value) ++ List.replicate (1 - (lg_sl ([.int c] : List Value)).length) Slot.unset).toArray = ls at hl ⊢
  have hl : lv_has ls 1 [(0, .int c)] := hl
  refine lv_iload_n hx hb (show decode cJ1_canEncode_9a6ad 0 = .ok (.iload_n 0, 1) by decide +kernel) rfl (lv_at hl 0 rfl) ?_
  refine lv_if_lt (tgt := 15) hx hb (show decode cJ1_canEncode_9a6ad 1 = .ok (.ifCond .lt 14, 3) by decide +kernel) (by decide) (fun c9 => ?_) (fun c9 => absurd h c9)
  refine lv_iconst (v := 0) hx hb (show decode cJ1_canEncode_9a6ad 15 = .ok (.iconst 0, 1) by decide +kernel) (by decide) ?_
  exact W.zret (v := 0) hx hb hr (rfl) (fun t ht _ => ⟨rfl, ht⟩) (fun q hq => by cases hq) (show decode cJ1_canEncode_9a6ad 16 = .ok (.ireturn, 1) by decide +kernel)
set_option maxRecDepth 100000 in
theorem zs_encG (l : Launch) (n : Nat) {g : Nat → Nat} {base : Nat} (c : Int32) (h0 : ¬ c < 0) (h : 255 < c) : Met l yJ1_canEncode_9a6ad (zws yJ1_canEncode_9a6ad cJ1_canEncode_9a6ad 1 (some .boolean)) (zroom (n + 0) 0 0) (zKc g base [.int c]) (zKq (some (.int 0))) 0 0 (fun _ => False) := by
  refine Met.ofW (cc := cJ1_canEncode_9a6ad) (maxL := 1) (ret := (some .boolean)) (by decide +kernel) rfl ?_
  intro p e s m args below meth co s₁ B hml hv
  obtain ⟨rfl, hST⟩ := hv
  have hx := B.exec
  have hb := B.bytes
  have hr := B.returns
  have hts0 := atoms_spec (ws := zws yJ1_canEncode_9a6ad cJ1_canEncode_9a6ad 1 (some .boolean)) B.pre
  have hts : ∀ w ∈ zW, w.before ([.int c] : List Value).toArray s = true := fun w hw => hts0 w (List.mem_cons_of_mem _ hw)
  have hown : s.vm.findClass RJ1 = some m.cls := findClass_of_methodNamed B.named
  have hlocks := B.notSynchronized
  have hS : va_S (fun q : Nat => base ≤ q) s.heap s.heap [] := va_S.rf
  have hpre : ∀ (vs : List Value) (U : State), U.heap = s.heap → s.WarmedH U.vm → zKc g base vs vs.toArray U := fun vs U hU hWm => ⟨rfl, by show zSt g base U.heap U; rw [hU]; exact hST.warm hWm⟩
  rw [lg_entry_eq]
  have hl := lv_entry ([.int c] : List Value) (n := 1) (Nat.le_of_ble_eq_true rfl)
  generalize (lg_sl ([.int c] : List Value) ++ List.replicate (1 - (lg_sl ([.int c] : List Value)).length) Slot.unset).toArray = ls at hl ⊢
  have hl : lv_has ls 1 [(0, .int c)] := hl
  refine lv_iload_n hx hb (show decode cJ1_canEncode_9a6ad 0 = .ok (.iload_n 0, 1) by decide +kernel) rfl (lv_at hl 0 rfl) ?_
  refine lv_if_lt (tgt := 15) hx hb (show decode cJ1_canEncode_9a6ad 1 = .ok (.ifCond .lt 14, 3) by decide +kernel) (by decide) (fun c9 => absurd c9 h0) (fun c9 => ?_)
  refine lv_iload_n hx hb (show decode cJ1_canEncode_9a6ad 4 = .ok (.iload_n 0, 1) by decide +kernel) rfl (lv_at hl 0 rfl) ?_
  refine lv_sipush (v := 255) hx hb (show decode cJ1_canEncode_9a6ad 5 = .ok (.sipush 255, 3) by decide +kernel) (by decide) ?_
  refine lv_icmp_gt (tgt := 15) hx hb (show decode cJ1_canEncode_9a6ad 8 = .ok (.if_icmp .gt 7, 3) by decide +kernel) (by decide) (fun c9 => ?_) (fun c9 => absurd h c9)
  refine lv_iconst (v := 0) hx hb (show decode cJ1_canEncode_9a6ad 15 = .ok (.iconst 0, 1) by decide +kernel) (by decide) ?_
  exact W.zret (v := 0) hx hb hr (rfl) (fun t ht _ => ⟨rfl, ht⟩) (fun q hq => by cases hq) (show decode cJ1_canEncode_9a6ad 16 = .ok (.ireturn, 1) by decide +kernel)
set_option maxRecDepth 100000 in
theorem zs_encY (l : Launch) (n : Nat) {g : Nat → Nat} {base : Nat} (c : Int32) (h0 : ¬ c < 0) (h : ¬ 255 < c) : Met l yJ1_canEncode_9a6ad (zws yJ1_canEncode_9a6ad cJ1_canEncode_9a6ad 1 (some .boolean)) (zroom (n + 0) 0 0) (zKc g base [.int c]) (zKq (some (.int 1))) 0 0 (fun _ => False) := by
  refine Met.ofW (cc := cJ1_canEncode_9a6ad) (maxL := 1) (ret := (some .boolean)) (by decide +kernel) rfl ?_
  intro p e s m args below meth co s₁ B hml hv
  obtain ⟨rfl, hST⟩ := hv
  have hx := B.exec
  have hb := B.bytes
  have hr := B.returns
  have hts0 := atoms_spec (ws := zws yJ1_canEncode_9a6ad cJ1_canEncode_9a6ad 1 (some .boolean)) B.pre
  have hts : ∀ w ∈ zW, w.before ([.int c] : List Value).toArray s = true := fun w hw => hts0 w (List.mem_cons_of_mem _ hw)
  have hown : s.vm.findClass RJ1 = some m.cls := findClass_of_methodNamed B.named
  have hlocks := B.notSynchronized
  have hS : va_S (fun q : Nat => base ≤ q) s.heap s.heap [] := va_S.rf
  have hpre : ∀ (vs : List Value) (U : State), U.heap = s.heap → s.WarmedH U.vm → zKc g base vs vs.toArray U := fun vs U hU hWm => ⟨rfl, by show zSt g base U.heap U; rw [hU]; exact hST.warm hWm⟩
  rw [lg_entry_eq]
  have hl := lv_entry ([.int c] : List Value) (n := 1) (Nat.le_of_ble_eq_true rfl)
  generalize (lg_sl ([.int c] : List Value) ++ List.replicate (1 - (lg_sl ([.int c] : List Value)).length) Slot.unset).toArray = ls at hl ⊢
  have hl : lv_has ls 1 [(0, .int c)] := hl
  refine lv_iload_n hx hb (show decode cJ1_canEncode_9a6ad 0 = .ok (.iload_n 0, 1) by decide +kernel) rfl (lv_at hl 0 rfl) ?_
  refine lv_if_lt (tgt := 15) hx hb (show decode cJ1_canEncode_9a6ad 1 = .ok (.ifCond .lt 14, 3) by decide +kernel) (by decide) (fun c9 => absurd c9 h0) (fun c9 => ?_)
  refine lv_iload_n hx hb (show decode cJ1_canEncode_9a6ad 4 = .ok (.iload_n 0, 1) by decide +kernel) rfl (lv_at hl 0 rfl) ?_
  refine lv_sipush (v := 255) hx hb (show decode cJ1_canEncode_9a6ad 5 = .ok (.sipush 255, 3) by decide +kernel) (by decide) ?_
  refine lv_icmp_gt (tgt := 15) hx hb (show decode cJ1_canEncode_9a6ad 8 = .ok (.if_icmp .gt 7, 3) by decide +kernel) (by decide) (fun c9 => absurd c9 h) (fun c9 => ?_)
  refine lv_iconst (v := 1) hx hb (show decode cJ1_canEncode_9a6ad 11 = .ok (.iconst 1, 1) by decide +kernel) (by decide) ?_
  refine lv_goto (tgt := 16) hx hb (show decode cJ1_canEncode_9a6ad 12 = .ok (.goto 4, 3) by decide +kernel) (by decide) ?_
  exact W.zret (v := 1) hx hb hr (rfl) (fun t ht _ => ⟨rfl, ht⟩) (fun q hq => by cases hq) (show decode cJ1_canEncode_9a6ad 16 = .ok (.ireturn, 1) by decide +kernel)
set_option maxRecDepth 100000 in
theorem zs_ixc (l : Launch) (n : Nat) {g : Nat → Nat} {base : Nat} {k : Nat} (hk : k < 2) {cc : Nat} (hcc : cc < 256) : Met l yJ1_indexOfChar_4cfef (zws yJ1_indexOfChar_4cfef cJ1_indexOfChar_4cfef 6 (some .int)) (zroom (n + 0) 0 0) (zKc g base [.ref (g (3 + k)), .int (nI cc), .int (nI 0), .int (nI (ztx k).length)]) (zKq (some (.int (zixF (nI cc) (ztx k) 0)))) 0 0 (fun _ => False) := by
  refine Met.ofW (cc := cJ1_indexOfChar_4cfef) (maxL := 6) (ret := (some .int)) (by decide +kernel) rfl ?_
  intro p e s m args below meth co s₁ B hml hv
  obtain ⟨rfl, hST⟩ := hv
  have hx := B.exec
  have hb := B.bytes
  have hr := B.returns
  have hts0 := atoms_spec (ws := zws yJ1_indexOfChar_4cfef cJ1_indexOfChar_4cfef 6 (some .int)) B.pre
  have hts : ∀ w ∈ zW, w.before ([.ref (g (3 + k)), .int (nI cc), .int (nI 0), .int (nI (ztx k).length)] : List Value).toArray s = true := fun w hw => hts0 w (List.mem_cons_of_mem _ hw)
  have hown : s.vm.findClass RJ1 = some m.cls := findClass_of_methodNamed B.named
  have hlocks := B.notSynchronized
  have hS : va_S (fun q : Nat => base ≤ q) s.heap s.heap [] := va_S.rf
  have hpre : ∀ (vs : List Value) (U : State), U.heap = s.heap → s.WarmedH U.vm → zKc g base vs vs.toArray U := fun vs U hU hWm => ⟨rfl, by show zSt g base U.heap U; rw [hU]; exact hST.warm hWm⟩
  obtain ⟨h1, h2, h3, h4⟩ := zs_all k hk
  rw [lg_entry_eq]
  have hl := lv_entry ([.ref (g (3 + k)), .int (nI cc), .int (nI 0), .int (nI (ztx k).length)] : List Value) (n := 6) (Nat.le_of_ble_eq_true rfl)
  generalize (lg_sl ([.ref (g (3 + k)), .int (nI cc), .int (nI 0), .int (nI (ztx k).length)] : List Value) ++ List.replicate (6 - (lg_sl ([.ref (g (3 + k)), .int (nI cc), .int (nI 0), .int (nI (ztx k).length)] : List Value)).length) Slot.unset).toArray = ls at hl ⊢
  have hl : lv_has ls 6 [(0, .ref (g (3 + k))), (1, .int (nI cc)), (2, .int (nI 0)), (3, .int (nI (ztx k).length))] := hl
  refine lv_iload_n hx hb (show decode cJ1_indexOfChar_4cfef 0 = .ok (.iload_n 1, 1) by decide +kernel) rfl (lv_at hl 1 rfl) ?_
  refine lv_i2b hx hb (show decode cJ1_indexOfChar_4cfef 1 = .ok (.i2b, 1) by decide +kernel) rfl ?_
  refine lv_istore (lv' := [(4, .int (nI cc).toInt8.toInt32), (0, .ref (g (3 + k))), (1, .int (nI cc)), (2, .int (nI 0)), (3, .int (nI (ztx k).length))]) hx hb (show decode cJ1_indexOfChar_4cfef 2 = .ok (.istore 4, 2) by decide +kernel) hl (by decide) rfl (fun ls hl => ?_)
  refine lv_iload_n hx hb (show decode cJ1_indexOfChar_4cfef 4 = .ok (.iload_n 2, 1) by decide +kernel) rfl (lv_at hl 3 rfl) ?_
  refine lv_istore (lv' := [(5, .int (nI 0)), (4, .int (nI cc).toInt8.toInt32), (0, .ref (g (3 + k))), (1, .int (nI cc)), (2, .int (nI 0)), (3, .int (nI (ztx k).length))]) hx hb (show decode cJ1_indexOfChar_4cfef 5 = .ok (.istore 5, 2) by decide +kernel) hl (by decide) rfl (fun ls hl => ?_)
  have loop : ∀ (t : List Nat) (j : Nat) (ls : Array Slot), (ztx k).drop j = t → j ≤ (ztx k).length → zixF (nI cc) t j = zixF (nI cc) (ztx k) 0 → lv_has ls 6 [(5, .int (nI j)), (4, .int (nI cc).toInt8.toInt32), (0, .ref (g (3 + k))), (3, .int (nI (ztx k).length))] → W p l e (headSpec (zws yJ1_indexOfChar_4cfef cJ1_indexOfChar_4cfef 6 (some .int)) (zroom (n + 0) 0 0)).room s m (([.ref (g (3 + k)), .int (nI cc), .int (nI 0), .int (nI (ztx k).length)] : List Value).toArray) below meth co s.heap [] 0 0 (MQ below (zKq (some (.int (zixF (nI cc) (ztx k) 0)))) (([.ref (g (3 + k)), .int (nI cc), .int (nI 0), .int (nI (ztx k).length)] : List Value).toArray) s 0 0 (fun _ => False)) (F0 m 7 ls []) := by
    intro t
    induction t with
    | nil =>
      intro j ls hd hj hz hl
      have hje : j = (ztx k).length := by
        have := congrArg List.length hd
        simp at this
        omega
      subst hje
      refine lv_iload hx hb (show decode cJ1_indexOfChar_4cfef 7 = .ok (.iload 5, 2) by decide +kernel) (lv_at hl 0 rfl) ?_
      refine lv_iload_n hx hb (show decode cJ1_indexOfChar_4cfef 9 = .ok (.iload_n 3, 1) by decide +kernel) rfl (lv_at hl 3 rfl) ?_
      refine lv_icmp_ge (tgt := 31) hx hb (show decode cJ1_indexOfChar_4cfef 10 = .ok (.if_icmp .ge 21, 3) by decide +kernel) (by decide) (fun c9 => ?_) (fun c9 => absurd (nI_le (Nat.le_refl _) (by omega)) c9)
      refine lv_iconst (v := -1) hx hb (show decode cJ1_indexOfChar_4cfef 31 = .ok (.iconst (-1), 1) by decide +kernel) (by decide) ?_
      exact W.zret (v := -1) hx hb hr (rfl) (fun t ht _ => ⟨congrArg (fun z => Outcome.returned (some (Value.int z))) hz, ht⟩) (fun q hq => by cases hq) (show decode cJ1_indexOfChar_4cfef 32 = .ok (.ireturn, 1) by decide +kernel)
    | cons b t ih =>
      intro j ls hd hj hz hl
      have hlt : j < (ztx k).length := by
        have := congrArg List.length hd
        simp at this
        omega
      have hbj : (ztx k)[j]? = some b := by
        have := congrArg (fun z => z[0]?) hd
        simpa using this
      have hb8 : b < 128 := h1 b (List.mem_of_getElem? hbj)
      have hdt : (ztx k).drop (j + 1) = t := by
        rw [← List.drop_drop, hd]
        rfl
      refine lv_iload hx hb (show decode cJ1_indexOfChar_4cfef 7 = .ok (.iload 5, 2) by decide +kernel) (lv_at hl 0 rfl) ?_
      refine lv_iload_n hx hb (show decode cJ1_indexOfChar_4cfef 9 = .ok (.iload_n 3, 1) by decide +kernel) rfl (lv_at hl 3 rfl) ?_
      refine lv_icmp_ge (tgt := 31) hx hb (show decode cJ1_indexOfChar_4cfef 10 = .ok (.if_icmp .ge 21, 3) by decide +kernel) (by decide) (fun c9 => absurd c9 (nI_ge hlt (by omega))) (fun c9 => ?_)
      refine lv_aload_n hx hb (show decode cJ1_indexOfChar_4cfef 13 = .ok (.aload_n 0, 1) by decide +kernel) rfl (lv_at hl 2 rfl) ?_
      refine lv_iload hx hb (show decode cJ1_indexOfChar_4cfef 14 = .ok (.iload 5, 2) by decide +kernel) (lv_at hl 0 rfl) ?_
      refine va_tb hx hb ((hST.2.1.1 k hk).2.2.2) hS (v := .int (nI b)) (by rw [h3]; exact vp_in_nI hlt (by omega)) (by rw [nI_clamp (by omega), h4, List.getD_eq_getElem?_getD, List.getElem?_map, hbj]; rfl) (show decode cJ1_indexOfChar_4cfef 16 = .ok (.baload, 1) by decide +kernel) ?_
      refine lv_iload hx hb (show decode cJ1_indexOfChar_4cfef 17 = .ok (.iload 4, 2) by decide +kernel) (lv_at hl 1 rfl) ?_
      refine lv_icmp_ne (tgt := 25) hx hb (show decode cJ1_indexOfChar_4cfef 19 = .ok (.if_icmp .ne 6, 3) by decide +kernel) (by decide) (fun c9 => ?_) (fun c9 => ?_)
      · refine lv_iinc (v := nI (j + 1)) (k := 0) (lv' := [(5, .int (nI (j + 1))), (4, .int (nI cc).toInt8.toInt32), (0, .ref (g (3 + k))), (3, .int (nI (ztx k).length))]) hx hb (show decode cJ1_indexOfChar_4cfef 25 = .ok (.iinc 5 1, 3) by decide +kernel) hl rfl (nI_1 j) (by decide) rfl (fun ls hl => ?_)
        refine lv_goto (tgt := 7) hx hb (show decode cJ1_indexOfChar_4cfef 28 = .ok (.goto (-21), 3) by decide +kernel) (by decide) ?_
        refine ih (j + 1) ls hdt hlt ?_ hl
        rw [show zixF (nI cc) (b :: t) j = if nI b = nI cc then nI j else zixF (nI cc) t (j + 1) from rfl] at hz
        rw [if_neg (fun z => c9 ((zs_eq8 hb8 hcc).mpr z))] at hz
        exact hz
      · refine lv_iload hx hb (show decode cJ1_indexOfChar_4cfef 22 = .ok (.iload 5, 2) by decide +kernel) (lv_at hl 0 rfl) ?_
        rw [show zixF (nI cc) (b :: t) j = if nI b = nI cc then nI j else zixF (nI cc) t (j + 1) from rfl] at hz
        rw [if_pos ((zs_eq8 hb8 hcc).mp c9)] at hz
        exact W.zret (v := nI j) hx hb hr (rfl) (fun t ht _ => ⟨congrArg (fun z => Outcome.returned (some (Value.int z))) hz, ht⟩) (fun q hq => by cases hq) (show decode cJ1_indexOfChar_4cfef 24 = .ok (.ireturn, 1) by decide +kernel)
  exact loop (ztx k) 0 ls rfl (Nat.zero_le _) rfl (lv_sub hl [0, 1, 2, 5] rfl)
set_option maxRecDepth 100000 in
theorem zs_lxN (l : Launch) (n : Nat) {g : Nat → Nat} {base : Nat} {k : Nat} (hk : k < 2) (c : Int32) (h : c < 0) : Met l yJ1_indexOf_4cfef (zws yJ1_indexOf_4cfef cJ1_indexOf_4cfef 4 (some .int)) (zroom (n + 2) 0 0) (zKc g base [.ref (g (3 + k)), .int c, .int 0, .int (nI (ztx k).length)]) (zKq (some (.int (-1)))) 0 0 (fun _ => False) := by
  refine Met.ofW (cc := cJ1_indexOf_4cfef) (maxL := 4) (ret := (some .int)) (by decide +kernel) rfl ?_
  intro p e s m args below meth co s₁ B hml hv
  obtain ⟨rfl, hST⟩ := hv
  have hx := B.exec
  have hb := B.bytes
  have hr := B.returns
  have hts0 := atoms_spec (ws := zws yJ1_indexOf_4cfef cJ1_indexOf_4cfef 4 (some .int)) B.pre
  have hts : ∀ w ∈ zW, w.before ([.ref (g (3 + k)), .int c, .int 0, .int (nI (ztx k).length)] : List Value).toArray s = true := fun w hw => hts0 w (List.mem_cons_of_mem _ hw)
  have hown : s.vm.findClass RJ1 = some m.cls := findClass_of_methodNamed B.named
  have hlocks := B.notSynchronized
  have hS : va_S (fun q : Nat => base ≤ q) s.heap s.heap [] := va_S.rf
  have hpre : ∀ (vs : List Value) (U : State), U.heap = s.heap → s.WarmedH U.vm → zKc g base vs vs.toArray U := fun vs U hU hWm => ⟨rfl, by show zSt g base U.heap U; rw [hU]; exact hST.warm hWm⟩
  rw [lg_entry_eq]
  have hl := lv_entry ([.ref (g (3 + k)), .int c, .int 0, .int (nI (ztx k).length)] : List Value) (n := 4) (Nat.le_of_ble_eq_true rfl)
  generalize (lg_sl ([.ref (g (3 + k)), .int c, .int 0, .int (nI (ztx k).length)] : List Value) ++ List.replicate (4 - (lg_sl ([.ref (g (3 + k)), .int c, .int 0, .int (nI (ztx k).length)] : List Value)).length) Slot.unset).toArray = ls at hl ⊢
  have hl : lv_has ls 4 [(0, .ref (g (3 + k))), (1, .int c), (2, .int 0), (3, .int (nI (ztx k).length))] := hl
  refine lv_iload_n hx hb (show decode cJ1_indexOf_4cfef 0 = .ok (.iload_n 1, 1) by decide +kernel) rfl (lv_at hl 1 rfl) ?_
  have hG : ∀ w ∈ va_wsS RJ1 88 yJ1_canEncode_9a6ad (zws yJ1_canEncode_9a6ad cJ1_canEncode_9a6ad 1 (some .boolean)), w ∈ zW := by
    intro w hw
    unfold va_wsS at hw
    rcases List.mem_append.mp hw with h1 | h1
    · simp only [List.mem_cons, List.not_mem_nil, or_false] at h1
      rcases h1 with rfl | rfl | rfl
      · exact zw_at _ 687 (by decide +kernel)
      · exact zw_at _ 688 (by decide +kernel)
      · exact zw_at _ 131 (by decide +kernel)
    · exact zGoodM (zw_at _ 689 (by decide +kernel)) w h1
  refine zk_go (va_runS (As := [.int c]) (rest := []) ⟨hx, hb, hml, hown, hts⟩ (zs_encN l (n + 1) c h) (va_cwS 1 hts (zGood hG) rfl rfl rfl ⟨by decide +kernel, by decide +kernel, by decide +kernel⟩ ⟨by show n + 1 + 1 ≤ n + 2; omega, by show 8 + (1 + 11) + 40 * (n + 1) ≤ 40 * (n + 2); omega⟩) ⟨zKb, fun U hU hWm => hpre _ U hU hWm⟩ rfl rfl hl.1 rfl (lv_room (Nat.le_of_ble_eq_true rfl)) (show decode cJ1_indexOf_4cfef 1 = .ok (.invokestatic 88, 3) by decide +kernel) ⟨Nat.le_refl _, Nat.le_refl _⟩) ?_
  refine lv_if_ne (tgt := 9) hx hb (show decode cJ1_indexOf_4cfef 4 = .ok (.ifCond .ne 5, 3) by decide +kernel) (by decide) (fun c9 => absurd rfl c9) (fun c9 => ?_)
  refine lv_iconst (v := -1) hx hb (show decode cJ1_indexOf_4cfef 7 = .ok (.iconst (-1), 1) by decide +kernel) (by decide) ?_
  exact W.zret (v := -1) hx hb hr (rfl) (fun t ht _ => ⟨rfl, ht⟩) (fun q hq => by cases hq) (show decode cJ1_indexOf_4cfef 8 = .ok (.ireturn, 1) by decide +kernel)
set_option maxRecDepth 100000 in
theorem zs_lxG (l : Launch) (n : Nat) {g : Nat → Nat} {base : Nat} {k : Nat} (hk : k < 2) (c : Int32) (h0 : ¬ c < 0) (h : 255 < c) : Met l yJ1_indexOf_4cfef (zws yJ1_indexOf_4cfef cJ1_indexOf_4cfef 4 (some .int)) (zroom (n + 2) 0 0) (zKc g base [.ref (g (3 + k)), .int c, .int 0, .int (nI (ztx k).length)]) (zKq (some (.int (-1)))) 0 0 (fun _ => False) := by
  refine Met.ofW (cc := cJ1_indexOf_4cfef) (maxL := 4) (ret := (some .int)) (by decide +kernel) rfl ?_
  intro p e s m args below meth co s₁ B hml hv
  obtain ⟨rfl, hST⟩ := hv
  have hx := B.exec
  have hb := B.bytes
  have hr := B.returns
  have hts0 := atoms_spec (ws := zws yJ1_indexOf_4cfef cJ1_indexOf_4cfef 4 (some .int)) B.pre
  have hts : ∀ w ∈ zW, w.before ([.ref (g (3 + k)), .int c, .int 0, .int (nI (ztx k).length)] : List Value).toArray s = true := fun w hw => hts0 w (List.mem_cons_of_mem _ hw)
  have hown : s.vm.findClass RJ1 = some m.cls := findClass_of_methodNamed B.named
  have hlocks := B.notSynchronized
  have hS : va_S (fun q : Nat => base ≤ q) s.heap s.heap [] := va_S.rf
  have hpre : ∀ (vs : List Value) (U : State), U.heap = s.heap → s.WarmedH U.vm → zKc g base vs vs.toArray U := fun vs U hU hWm => ⟨rfl, by show zSt g base U.heap U; rw [hU]; exact hST.warm hWm⟩
  rw [lg_entry_eq]
  have hl := lv_entry ([.ref (g (3 + k)), .int c, .int 0, .int (nI (ztx k).length)] : List Value) (n := 4) (Nat.le_of_ble_eq_true rfl)
  generalize (lg_sl ([.ref (g (3 + k)), .int c, .int 0, .int (nI (ztx k).length)] : List Value) ++ List.replicate (4 - (lg_sl ([.ref (g (3 + k)), .int c, .int 0, .int (nI (ztx k).length)] : List Value)).length) Slot.unset).toArray = ls at hl ⊢
  have hl : lv_has ls 4 [(0, .ref (g (3 + k))), (1, .int c), (2, .int 0), (3, .int (nI (ztx k).length))] := hl
  refine lv_iload_n hx hb (show decode cJ1_indexOf_4cfef 0 = .ok (.iload_n 1, 1) by decide +kernel) rfl (lv_at hl 1 rfl) ?_
  have hG : ∀ w ∈ va_wsS RJ1 88 yJ1_canEncode_9a6ad (zws yJ1_canEncode_9a6ad cJ1_canEncode_9a6ad 1 (some .boolean)), w ∈ zW := by
    intro w hw
    unfold va_wsS at hw
    rcases List.mem_append.mp hw with h1 | h1
    · simp only [List.mem_cons, List.not_mem_nil, or_false] at h1
      rcases h1 with rfl | rfl | rfl
      · exact zw_at _ 687 (by decide +kernel)
      · exact zw_at _ 688 (by decide +kernel)
      · exact zw_at _ 131 (by decide +kernel)
    · exact zGoodM (zw_at _ 689 (by decide +kernel)) w h1
  refine zk_go (va_runS (As := [.int c]) (rest := []) ⟨hx, hb, hml, hown, hts⟩ (zs_encG l (n + 1) c h0 h) (va_cwS 1 hts (zGood hG) rfl rfl rfl ⟨by decide +kernel, by decide +kernel, by decide +kernel⟩ ⟨by show n + 1 + 1 ≤ n + 2; omega, by show 8 + (1 + 11) + 40 * (n + 1) ≤ 40 * (n + 2); omega⟩) ⟨zKb, fun U hU hWm => hpre _ U hU hWm⟩ rfl rfl hl.1 rfl (lv_room (Nat.le_of_ble_eq_true rfl)) (show decode cJ1_indexOf_4cfef 1 = .ok (.invokestatic 88, 3) by decide +kernel) ⟨Nat.le_refl _, Nat.le_refl _⟩) ?_
  refine lv_if_ne (tgt := 9) hx hb (show decode cJ1_indexOf_4cfef 4 = .ok (.ifCond .ne 5, 3) by decide +kernel) (by decide) (fun c9 => absurd rfl c9) (fun c9 => ?_)
  refine lv_iconst (v := -1) hx hb (show decode cJ1_indexOf_4cfef 7 = .ok (.iconst (-1), 1) by decide +kernel) (by decide) ?_
  exact W.zret (v := -1) hx hb hr (rfl) (fun t ht _ => ⟨rfl, ht⟩) (fun q hq => by cases hq) (show decode cJ1_indexOf_4cfef 8 = .ok (.ireturn, 1) by decide +kernel)
set_option maxRecDepth 100000 in
theorem zs_lxY (l : Launch) (n : Nat) {g : Nat → Nat} {base : Nat} {k : Nat} (hk : k < 2) {cc : Nat} (hcc : cc < 256) : Met l yJ1_indexOf_4cfef (zws yJ1_indexOf_4cfef cJ1_indexOf_4cfef 4 (some .int)) (zroom (n + 2) 0 0) (zKc g base [.ref (g (3 + k)), .int (nI cc), .int 0, .int (nI (ztx k).length)]) (zKq (some (.int (zixF (nI cc) (ztx k) 0)))) 0 0 (fun _ => False) := by
  refine Met.ofW (cc := cJ1_indexOf_4cfef) (maxL := 4) (ret := (some .int)) (by decide +kernel) rfl ?_
  intro p e s m args below meth co s₁ B hml hv
  obtain ⟨rfl, hST⟩ := hv
  have hx := B.exec
  have hb := B.bytes
  have hr := B.returns
  have hts0 := atoms_spec (ws := zws yJ1_indexOf_4cfef cJ1_indexOf_4cfef 4 (some .int)) B.pre
  have hts : ∀ w ∈ zW, w.before ([.ref (g (3 + k)), .int (nI cc), .int 0, .int (nI (ztx k).length)] : List Value).toArray s = true := fun w hw => hts0 w (List.mem_cons_of_mem _ hw)
  have hown : s.vm.findClass RJ1 = some m.cls := findClass_of_methodNamed B.named
  have hlocks := B.notSynchronized
  have hS : va_S (fun q : Nat => base ≤ q) s.heap s.heap [] := va_S.rf
  have hpre : ∀ (vs : List Value) (U : State), U.heap = s.heap → s.WarmedH U.vm → zKc g base vs vs.toArray U := fun vs U hU hWm => ⟨rfl, by show zSt g base U.heap U; rw [hU]; exact hST.warm hWm⟩
  obtain ⟨h1, h2, h3, h4⟩ := zs_all k hk
  have hpos : 0 < (ztx k).length := zs_pos k hk
  have c0 : ¬ nI cc < 0 := nI_pos (by omega)
  have c1 : ¬ 255 < nI cc := nI_nlt (a := 255) (b := cc) (by omega) (by omega)
  rw [lg_entry_eq]
  have hl := lv_entry ([.ref (g (3 + k)), .int (nI cc), .int 0, .int (nI (ztx k).length)] : List Value) (n := 4) (Nat.le_of_ble_eq_true rfl)
  generalize (lg_sl ([.ref (g (3 + k)), .int (nI cc), .int 0, .int (nI (ztx k).length)] : List Value) ++ List.replicate (4 - (lg_sl ([.ref (g (3 + k)), .int (nI cc), .int 0, .int (nI (ztx k).length)] : List Value)).length) Slot.unset).toArray = ls at hl ⊢
  have hl : lv_has ls 4 [(0, .ref (g (3 + k))), (1, .int (nI cc)), (2, .int 0), (3, .int (nI (ztx k).length))] := hl
  refine lv_iload_n hx hb (show decode cJ1_indexOf_4cfef 0 = .ok (.iload_n 1, 1) by decide +kernel) rfl (lv_at hl 1 rfl) ?_
  have hG : ∀ w ∈ va_wsS RJ1 88 yJ1_canEncode_9a6ad (zws yJ1_canEncode_9a6ad cJ1_canEncode_9a6ad 1 (some .boolean)), w ∈ zW := by
    intro w hw
    unfold va_wsS at hw
    rcases List.mem_append.mp hw with h1 | h1
    · simp only [List.mem_cons, List.not_mem_nil, or_false] at h1
      rcases h1 with rfl | rfl | rfl
      · exact zw_at _ 687 (by decide +kernel)
      · exact zw_at _ 688 (by decide +kernel)
      · exact zw_at _ 131 (by decide +kernel)
    · exact zGoodM (zw_at _ 689 (by decide +kernel)) w h1
  refine zk_go (va_runS (As := [.int (nI cc)]) (rest := []) ⟨hx, hb, hml, hown, hts⟩ (zs_encY l (n + 1) (nI cc) c0 c1) (va_cwS 1 hts (zGood hG) rfl rfl rfl ⟨by decide +kernel, by decide +kernel, by decide +kernel⟩ ⟨by show n + 1 + 1 ≤ n + 2; omega, by show 8 + (1 + 11) + 40 * (n + 1) ≤ 40 * (n + 2); omega⟩) ⟨zKb, fun U hU hWm => hpre _ U hU hWm⟩ rfl rfl hl.1 rfl (lv_room (Nat.le_of_ble_eq_true rfl)) (show decode cJ1_indexOf_4cfef 1 = .ok (.invokestatic 88, 3) by decide +kernel) ⟨Nat.le_refl _, Nat.le_refl _⟩) ?_
  refine lv_if_ne (tgt := 9) hx hb (show decode cJ1_indexOf_4cfef 4 = .ok (.ifCond .ne 5, 3) by decide +kernel) (by decide) (fun c9 => ?_) (fun c9 => absurd c9 (by decide))
  refine lv_iload_n hx hb (show decode cJ1_indexOf_4cfef 9 = .ok (.iload_n 2, 1) by decide +kernel) rfl (lv_at hl 2 rfl) ?_
  refine lv_iconst (v := 0) hx hb (show decode cJ1_indexOf_4cfef 10 = .ok (.iconst 0, 1) by decide +kernel) (by decide) ?_
  refine va_mmax hx hb (hml.trans hl.1.symm) hown (hts _ (zw_at (.methodLink RJ1 92 Lib.Math.max.name) 690 (by decide +kernel))) (hts _ (zw_at (.static Lib.Math.max.name) 691 (by decide +kernel))) (hts _ (zw_at (.initialized "java/lang/Math") 141 (by decide +kernel))) (hts _ (zw_at (.code Lib.Math.max.name Lib.Math.max.code 2 (some .int)) 692 (by decide +kernel))) (by show 1 ≤ n + 2; omega) (by show 0 + 13 ≤ 40 * (n + 2); omega) (Nat.le_refl _) (Nat.le_refl _) (show decode cJ1_indexOf_4cfef 11 = .ok (.invokestatic 92, 3) by decide +kernel) ?_
  rw [if_neg (by decide)]
  refine lv_istore_n (lv' := [(2, .int 0), (0, .ref (g (3 + k))), (1, .int (nI cc)), (3, .int (nI (ztx k).length))]) hx hb (show decode cJ1_indexOf_4cfef 14 = .ok (.istore_n 2, 1) by decide +kernel) rfl hl (by decide) rfl (fun ls hl => ?_)
  refine lv_iload_n hx hb (show decode cJ1_indexOf_4cfef 15 = .ok (.iload_n 3, 1) by decide +kernel) rfl (lv_at hl 3 rfl) ?_
  refine lv_aload_n hx hb (show decode cJ1_indexOf_4cfef 16 = .ok (.aload_n 0, 1) by decide +kernel) rfl (lv_at hl 1 rfl) ?_
  refine va_tlen (v := nI (ztx k).length) hx hb ((hST.2.1.1 k hk).2.2.2) hS (by rw [h3]; rfl) (show decode cJ1_indexOf_4cfef 17 = .ok (.arraylength, 1) by decide +kernel) ?_
  refine va_mmin hx hb (hml.trans hl.1.symm) hown (hts _ (zw_at (.methodLink RJ1 38 Lib.Math.min.name) 693 (by decide +kernel))) (hts _ (zw_at (.static Lib.Math.min.name) 694 (by decide +kernel))) (hts _ (zw_at (.initialized "java/lang/Math") 141 (by decide +kernel))) (hts _ (zw_at (.code Lib.Math.min.name Lib.Math.min.code 2 (some .int)) 695 (by decide +kernel))) (by show 1 ≤ n + 2; omega) (by show 0 + 13 ≤ 40 * (n + 2); omega) (Nat.le_refl _) (Nat.le_refl _) (show decode cJ1_indexOf_4cfef 18 = .ok (.invokestatic 38, 3) by decide +kernel) ?_
  rw [if_neg (nI_nlt (Nat.le_refl _) (by omega))]
  refine lv_istore_n (lv' := [(3, .int (nI (ztx k).length)), (2, .int 0), (0, .ref (g (3 + k))), (1, .int (nI cc))]) hx hb (show decode cJ1_indexOf_4cfef 21 = .ok (.istore_n 3, 1) by decide +kernel) rfl hl (by decide) rfl (fun ls hl => ?_)
  refine lv_iload_n hx hb (show decode cJ1_indexOf_4cfef 22 = .ok (.iload_n 2, 1) by decide +kernel) rfl (lv_at hl 1 rfl) ?_
  refine lv_iload_n hx hb (show decode cJ1_indexOf_4cfef 23 = .ok (.iload_n 3, 1) by decide +kernel) rfl (lv_at hl 0 rfl) ?_
  refine lv_icmp_lt (tgt := 29) hx hb (show decode cJ1_indexOf_4cfef 24 = .ok (.if_icmp .lt 5, 3) by decide +kernel) (by decide) (fun c9 => ?_) (fun c9 => absurd (nI_lt (a := 0) hpos (by omega)) c9)
  refine lv_aload_n hx hb (show decode cJ1_indexOf_4cfef 29 = .ok (.aload_n 0, 1) by decide +kernel) rfl (lv_at hl 2 rfl) ?_
  refine lv_iload_n hx hb (show decode cJ1_indexOf_4cfef 30 = .ok (.iload_n 1, 1) by decide +kernel) rfl (lv_at hl 3 rfl) ?_
  refine lv_iload_n hx hb (show decode cJ1_indexOf_4cfef 31 = .ok (.iload_n 2, 1) by decide +kernel) rfl (lv_at hl 1 rfl) ?_
  refine lv_iload_n hx hb (show decode cJ1_indexOf_4cfef 32 = .ok (.iload_n 3, 1) by decide +kernel) rfl (lv_at hl 0 rfl) ?_
  have hG : ∀ w ∈ va_wsS RJ1 95 yJ1_indexOfChar_4cfef (zws yJ1_indexOfChar_4cfef cJ1_indexOfChar_4cfef 6 (some .int)), w ∈ zW := by
    intro w hw
    unfold va_wsS at hw
    rcases List.mem_append.mp hw with h1 | h1
    · simp only [List.mem_cons, List.not_mem_nil, or_false] at h1
      rcases h1 with rfl | rfl | rfl
      · exact zw_at _ 696 (by decide +kernel)
      · exact zw_at _ 697 (by decide +kernel)
      · exact zw_at _ 131 (by decide +kernel)
    · exact zGoodM (zw_at _ 698 (by decide +kernel)) w h1
  refine zk_go (va_runS (As := [.ref (g (3 + k)), .int (nI cc), .int (nI 0), .int (nI (ztx k).length)]) (rest := []) ⟨hx, hb, hml, hown, hts⟩ (zs_ixc l (n + 1) hk hcc) (va_cwS 4 hts (zGood hG) rfl rfl rfl ⟨by decide +kernel, by decide +kernel, by decide +kernel⟩ ⟨by show n + 1 + 1 ≤ n + 2; omega, by show 8 + (6 + 11) + 40 * (n + 1) ≤ 40 * (n + 2); omega⟩) ⟨zKb, fun U hU hWm => hpre _ U hU hWm⟩ rfl rfl hl.1 rfl (lv_room (Nat.le_of_ble_eq_true rfl)) (show decode cJ1_indexOf_4cfef 33 = .ok (.invokestatic 95, 3) by decide +kernel) ⟨Nat.le_refl _, Nat.le_refl _⟩) ?_
  exact W.zret (v := zixF (nI cc) (ztx k) 0) hx hb hr (rfl) (fun t ht _ => ⟨rfl, ht⟩) (fun q hq => by cases hq) (show decode cJ1_indexOf_4cfef 36 = .ok (.ireturn, 1) by decide +kernel)
theorem zs_lx (l : Launch) (n : Nat) {g : Nat → Nat} {base : Nat} {k : Nat} (hk : k < 2) (c : Int32) : Met l yJ1_indexOf_4cfef (zws yJ1_indexOf_4cfef cJ1_indexOf_4cfef 4 (some .int)) (zroom (n + 2) 0 0) (zKc g base [.ref (g (3 + k)), .int c, .int 0, .int (nI (ztx k).length)]) (zKq (some (.int (zixF c (ztx k) 0)))) 0 0 (fun _ => False) := by
  obtain ⟨h1, h2, h3, h4⟩ := zs_all k hk
  by_cases a : c < 0
  · rw [zixF_out (ztx k) 0 (fun b hb z => absurd a (by rw [← z]; exact nI_pos (by have := h1 b hb; omega)))]
    exact zs_lxN l n hk c a
  · by_cases b : 255 < c
    · rw [zixF_out (ztx k) 0 (fun x hx z => absurd b (by rw [← z]; exact nI_nlt (a := 255) (b := x) (by have := h1 x hx; omega) (by omega)))]
      exact zs_lxG l n hk c a b
    · obtain ⟨cc, hcc, rfl⟩ := nI_of a
      refine zs_lxY l n hk (cc := cc) ?_
      rcases Nat.lt_or_ge cc 256 with q | q
      · exact q
      · exact absurd (nI_lt (a := 255) (b := cc) (by omega) hcc) b
set_option maxRecDepth 100000 in
theorem zs_ix2 (l : Launch) (n : Nat) {g : Nat → Nat} {base : Nat} {k : Nat} (hk : k < 2) (c : Int32) : Met l yJ0_indexOf_7cf53 (zws yJ0_indexOf_7cf53 cJ0_indexOf_7cf53 3 (some .int)) (zroom (n + 3) 0 0) (zKc g base [.ref (g (1 + k)), .int c, .int 0]) (zKq (some (.int (zixF c (ztx k) 0)))) 0 0 (fun _ => False) := by
  refine Met.ofW (cc := cJ0_indexOf_7cf53) (maxL := 3) (ret := (some .int)) (by decide +kernel) rfl ?_
  intro p e s m args below meth co s₁ B hml hv
  obtain ⟨rfl, hST⟩ := hv
  have hx := B.exec
  have hb := B.bytes
  have hr := B.returns
  have hts0 := atoms_spec (ws := zws yJ0_indexOf_7cf53 cJ0_indexOf_7cf53 3 (some .int)) B.pre
  have hts : ∀ w ∈ zW, w.before ([.ref (g (1 + k)), .int c, .int 0] : List Value).toArray s = true := fun w hw => hts0 w (List.mem_cons_of_mem _ hw)
  have hown : s.vm.findClass RJ0 = some m.cls := findClass_of_methodNamed B.named
  have hlocks := B.notSynchronized
  have hS : va_S (fun q : Nat => base ≤ q) s.heap s.heap [] := va_S.rf
  have hpre : ∀ (vs : List Value) (U : State), U.heap = s.heap → s.WarmedH U.vm → zKc g base vs vs.toArray U := fun vs U hU hWm => ⟨rfl, by show zSt g base U.heap U; rw [hU]; exact hST.warm hWm⟩
  obtain ⟨h1, h2, h3, h4⟩ := zs_all k hk
  rw [lg_entry_eq]
  have hl := lv_entry ([.ref (g (1 + k)), .int c, .int 0] : List Value) (n := 3) (Nat.le_of_ble_eq_true rfl)
  generalize (lg_sl ([.ref (g (1 + k)), .int c, .int 0] : List Value) ++ List.replicate (3 - (lg_sl ([.ref (g (1 + k)), .int c, .int 0] : List Value)).length) Slot.unset).toArray = ls at hl ⊢
  have hl : lv_has ls 3 [(0, .ref (g (1 + k))), (1, .int c), (2, .int 0)] := hl
  refine lv_aload_n hx hb (show decode cJ0_indexOf_7cf53 0 = .ok (.aload_n 0, 1) by decide +kernel) rfl (lv_at hl 0 rfl) ?_
  have hG : ∀ w ∈ wsV RJ0 492 RJ0 yJ0_isLatin1_aae02 (zws yJ0_isLatin1_aae02 cJ0_isLatin1_aae02 1 (some .boolean)), w ∈ zW := by
    intro w hw
    unfold wsV at hw
    rcases List.mem_append.mp hw with h1 | h1
    · simp only [List.mem_cons, List.not_mem_nil, or_false] at h1
      rcases h1 with rfl | rfl | rfl | rfl
      · exact zw_at _ 315 (by decide +kernel)
      · exact zw_at _ 316 (by decide +kernel)
      · exact zw_at _ 317 (by decide +kernel)
      · exact zw_at _ 130 (by decide +kernel)
    · exact zGoodM (zw_at _ 318 (by decide +kernel)) w h1
  refine zk_go (va_runV (As := []) (rest := []) ⟨hx, hb, hml, hown, hts⟩ (zs_lat l (n + 2) hk) (cwV (C := RJ0) 0 hts (zGood hG) rfl rfl rfl ⟨rfl, by decide +kernel, by decide +kernel, by decide +kernel⟩ ⟨by show n + 2 + 1 ≤ n + 3; omega, by show 8 + (1 + 11) + 40 * (n + 2) ≤ 40 * (n + 3); omega⟩) ⟨zKb, (by obtain ⟨cellB, b1, b2, b3, -⟩ := (hST.2.1.1 k hk).1; exact ⟨cellB, b1, b2, b3⟩), fun U hU hWm => hpre _ U hU hWm⟩ rfl rfl hl.1 rfl (lv_room (Nat.le_of_ble_eq_true rfl)) (show decode cJ0_indexOf_7cf53 1 = .ok (.invokevirtual 492, 3) by decide +kernel) ⟨Nat.le_refl _, Nat.le_refl _⟩) ?_
  refine lv_if_eq (tgt := 23) hx hb (show decode cJ0_indexOf_7cf53 4 = .ok (.ifCond .eq 19, 3) by decide +kernel) (by decide) (fun c9 => absurd c9 (by decide)) (fun c9 => ?_)
  refine lv_aload_n hx hb (show decode cJ0_indexOf_7cf53 7 = .ok (.aload_n 0, 1) by decide +kernel) rfl (lv_at hl 0 rfl) ?_
  refine vk_getf hx hb ((hST.2.1.1 k hk).2.2.1) hS hown (hts _ (zw_at (.fieldLink RJ0 9 "java/lang/String" "value" "[B") 2021 (by decide +kernel))) (fun _ h => h) (show decode cJ0_indexOf_7cf53 8 = .ok (.getfield 9, 3) by decide +kernel) ?_
  refine lv_iload_n hx hb (show decode cJ0_indexOf_7cf53 11 = .ok (.iload_n 1, 1) by decide +kernel) rfl (lv_at hl 1 rfl) ?_
  refine lv_iload_n hx hb (show decode cJ0_indexOf_7cf53 12 = .ok (.iload_n 2, 1) by decide +kernel) rfl (lv_at hl 2 rfl) ?_
  refine lv_aload_n hx hb (show decode cJ0_indexOf_7cf53 13 = .ok (.aload_n 0, 1) by decide +kernel) rfl (lv_at hl 0 rfl) ?_
  have hG : ∀ w ∈ wsV RJ0 505 RJ0 yJ0_length_8abf5 (zws yJ0_length_8abf5 cJ0_length_8abf5 1 (some .int)), w ∈ zW := by
    intro w hw
    unfold wsV at hw
    rcases List.mem_append.mp hw with h1 | h1
    · simp only [List.mem_cons, List.not_mem_nil, or_false] at h1
      rcases h1 with rfl | rfl | rfl | rfl
      · exact zw_at _ 683 (by decide +kernel)
      · exact zw_at _ 302 (by decide +kernel)
      · exact zw_at _ 303 (by decide +kernel)
      · exact zw_at _ 130 (by decide +kernel)
    · exact zGoodM (zw_at _ 304 (by decide +kernel)) w h1
  refine zk_go (va_runV (As := []) (rest := [.int 0, .int c, .ref (g (3 + k))]) ⟨hx, hb, hml, hown, hts⟩ (zs_length l (n + 1) hk) (cwV (C := RJ0) 0 hts (zGood hG) rfl rfl rfl ⟨rfl, by decide +kernel, by decide +kernel, by decide +kernel⟩ ⟨by show n + 2 + 1 ≤ n + 3; omega, by show 8 + (1 + 11) + 40 * (n + 2) ≤ 40 * (n + 3); omega⟩) ⟨zKb, (by obtain ⟨cellB, b1, b2, b3, -⟩ := (hST.2.1.1 k hk).1; exact ⟨cellB, b1, b2, b3⟩), fun U hU hWm => hpre _ U hU hWm⟩ rfl rfl hl.1 rfl (lv_room (Nat.le_of_ble_eq_true rfl)) (show decode cJ0_indexOf_7cf53 14 = .ok (.invokevirtual 505, 3) by decide +kernel) ⟨Nat.le_refl _, Nat.le_refl _⟩) ?_
  have hG : ∀ w ∈ va_wsS RJ0 637 yJ1_indexOf_4cfef (zws yJ1_indexOf_4cfef cJ1_indexOf_4cfef 4 (some .int)), w ∈ zW := by
    intro w hw
    unfold va_wsS at hw
    rcases List.mem_append.mp hw with h1 | h1
    · simp only [List.mem_cons, List.not_mem_nil, or_false] at h1
      rcases h1 with rfl | rfl | rfl
      · exact zw_at _ 684 (by decide +kernel)
      · exact zw_at _ 685 (by decide +kernel)
      · exact zw_at _ 131 (by decide +kernel)
    · exact zGoodM (zw_at _ 686 (by decide +kernel)) w h1
  refine zk_go (va_runS (As := [.ref (g (3 + k)), .int c, .int 0, .int (nI (zlen.getD k 0))]) (rest := []) ⟨hx, hb, hml, hown, hts⟩ (by rw [h3]; exact zs_lx l n hk c) (va_cwS 4 hts (zGood hG) rfl rfl rfl ⟨by decide +kernel, by decide +kernel, by decide +kernel⟩ ⟨by show n + 2 + 1 ≤ n + 3; omega, by show 8 + (4 + 11) + 40 * (n + 2) ≤ 40 * (n + 3); omega⟩) ⟨zKb, fun U hU hWm => hpre _ U hU hWm⟩ rfl rfl hl.1 rfl (lv_room (Nat.le_of_ble_eq_true rfl)) (show decode cJ0_indexOf_7cf53 17 = .ok (.invokestatic 637, 3) by decide +kernel) ⟨Nat.le_refl _, Nat.le_refl _⟩) ?_
  refine lv_goto (tgt := 36) hx hb (show decode cJ0_indexOf_7cf53 20 = .ok (.goto 16, 3) by decide +kernel) (by decide) ?_
  exact W.zret (v := zixF c (ztx k) 0) hx hb hr (rfl) (fun t ht _ => ⟨rfl, ht⟩) (fun q hq => by cases hq) (show decode cJ0_indexOf_7cf53 36 = .ok (.ireturn, 1) by decide +kernel)
set_option maxRecDepth 100000 in
theorem zs_ix1 (l : Launch) (n : Nat) {g : Nat → Nat} {base : Nat} {k : Nat} (hk : k < 2) (c : Int32) : Met l yJ0_indexOf_0f7a4 (zws yJ0_indexOf_0f7a4 cJ0_indexOf_0f7a4 2 (some .int)) (zroom (n + 4) 0 0) (zKc g base [.ref (g (1 + k)), .int c]) (zKq (some (.int (zixF c (ztx k) 0)))) 0 0 (fun _ => False) := by
  refine Met.ofW (cc := cJ0_indexOf_0f7a4) (maxL := 2) (ret := (some .int)) (by decide +kernel) rfl ?_
  intro p e s m args below meth co s₁ B hml hv
  obtain ⟨rfl, hST⟩ := hv
  have hx := B.exec
  have hb := B.bytes
  have hr := B.returns
  have hts0 := atoms_spec (ws := zws yJ0_indexOf_0f7a4 cJ0_indexOf_0f7a4 2 (some .int)) B.pre
  have hts : ∀ w ∈ zW, w.before ([.ref (g (1 + k)), .int c] : List Value).toArray s = true := fun w hw => hts0 w (List.mem_cons_of_mem _ hw)
  have hown : s.vm.findClass RJ0 = some m.cls := findClass_of_methodNamed B.named
  have hlocks := B.notSynchronized
  have hS : va_S (fun q : Nat => base ≤ q) s.heap s.heap [] := va_S.rf
  have hpre : ∀ (vs : List Value) (U : State), U.heap = s.heap → s.WarmedH U.vm → zKc g base vs vs.toArray U := fun vs U hU hWm => ⟨rfl, by show zSt g base U.heap U; rw [hU]; exact hST.warm hWm⟩
  rw [lg_entry_eq]
  have hl := lv_entry ([.ref (g (1 + k)), .int c] : List Value) (n := 2) (Nat.le_of_ble_eq_true rfl)
  generalize (lg_sl ([.ref (g (1 + k)), .int c] : List Value) ++ List.replicate (2 - (lg_sl ([.ref (g (1 + k)), .int c] : List Value)).length) Slot.unset).toArray = ls at hl ⊢
  have hl : lv_has ls 2 [(0, .ref (g (1 + k))), (1, .int c)] := hl
  refine lv_aload_n hx hb (show decode cJ0_indexOf_0f7a4 0 = .ok (.aload_n 0, 1) by decide +kernel) rfl (lv_at hl 0 rfl) ?_
  refine lv_iload_n hx hb (show decode cJ0_indexOf_0f7a4 1 = .ok (.iload_n 1, 1) by decide +kernel) rfl (lv_at hl 1 rfl) ?_
  refine lv_iconst (v := 0) hx hb (show decode cJ0_indexOf_0f7a4 2 = .ok (.iconst 0, 1) by decide +kernel) (by decide) ?_
  have hG : ∀ w ∈ wsV RJ0 633 RJ0 yJ0_indexOf_7cf53 (zws yJ0_indexOf_7cf53 cJ0_indexOf_7cf53 3 (some .int)), w ∈ zW := by
    intro w hw
    unfold wsV at hw
    rcases List.mem_append.mp hw with h1 | h1
    · simp only [List.mem_cons, List.not_mem_nil, or_false] at h1
      rcases h1 with rfl | rfl | rfl | rfl
      · exact zw_at _ 679 (by decide +kernel)
      · exact zw_at _ 680 (by decide +kernel)
      · exact zw_at _ 681 (by decide +kernel)
      · exact zw_at _ 130 (by decide +kernel)
    · exact zGoodM (zw_at _ 682 (by decide +kernel)) w h1
  refine zk_go (va_runV (As := [.int c, .int 0]) (rest := []) ⟨hx, hb, hml, hown, hts⟩ (zs_ix2 l n hk c) (cwV (C := RJ0) 2 hts (zGood hG) rfl rfl rfl ⟨rfl, by decide +kernel, by decide +kernel, by decide +kernel⟩ ⟨by show n + 3 + 1 ≤ n + 4; omega, by show 8 + (3 + 11) + 40 * (n + 3) ≤ 40 * (n + 4); omega⟩) ⟨zKb, (by obtain ⟨cellB, b1, b2, b3, -⟩ := (hST.2.1.1 k hk).1; exact ⟨cellB, b1, b2, b3⟩), fun U hU hWm => hpre _ U hU hWm⟩ rfl rfl hl.1 rfl (lv_room (Nat.le_of_ble_eq_true rfl)) (show decode cJ0_indexOf_0f7a4 3 = .ok (.invokevirtual 633, 3) by decide +kernel) ⟨Nat.le_refl _, Nat.le_refl _⟩) ?_
  exact W.zret (v := zixF c (ztx k) 0) hx hb hr (rfl) (fun t ht _ => ⟨rfl, ht⟩) (fun q hq => by cases hq) (show decode cJ0_indexOf_0f7a4 6 = .ok (.ireturn, 1) by decide +kernel)
/-- the texts' members do what the small machine says of them -/
theorem zMet_of {l : Launch} {D : va_G} {cy : Nat → ClassId} {g : Nat → Nat} {base : Nat} {G : Heap} {X : List Int32} {y : MethodName} {cc : ByteArray} {ml : Nat} {ret : Option FieldType} {vs : List Value} {M : zM} {v : Option Value} (h : Met l y (zws y cc ml ret) (zroom 4 0 0) (zKc g base (vs.map (ztr (zad g base)))) (zKq (v.map (ztr (zad g base)))) 0 0 (fun _ => False)) : zMet l D cy g base G X 4 y cc ml ret vs M (v, M) := by
  unfold zMet
  show Met l y (zws y cc ml ret) (zroom 4 (M.length - M.length) (zsl M - zsl M)) _ _ (M.length - M.length) (zsl M - zsl M) _
  rw [Nat.sub_self, Nat.sub_self]
  intro p e ha hc hk s m args below hf happ hP hK
  obtain ⟨n, o, h1, h2, h3, ⟨hq1, hq2⟩, L, hL1, hL2⟩ := h p e ha hc hk s m args below hf happ ⟨hP.1, hP.2.2.2.2.2.2.kept hP.2.1.2.2.1⟩ hK
  exact ⟨n, o, h1, h2, h3, ⟨hq1, by rw [hq2]; exact hP.2.1⟩, L, hL1, fun q hq => (hL2 q hq).elim⟩
theorem zstr_ok (l : Launch) (D : va_G) (cy : Nat → ClassId) (g : Nat → Nat) (base : Nat) (G : Heap) (X : List Int32) : zStrOK l D cy g base G X := by
  have key : ∀ {a : Nat}, a = zBig + 1 ∨ a = zBig + 2 → ∃ k, k < 2 ∧ a - (zBig + 1) = k ∧ zad g base a = g (1 + k) := by
    intro a h
    rcases h with rfl | rfl
    · exact ⟨0, by omega, rfl, zad_big g base 1⟩
    · exact ⟨1, by omega, rfl, zad_big g base 2⟩
  intro j vs M r h
  unfold zprm at h
  split at h
  · split at h
    · rename_i hq
      cases h
      obtain ⟨k, hk, e1, e2⟩ := key hq
      rw [e1]
      refine zMet_of ?_
      show Met l _ _ _ (zKc g base [Value.ref (zad g base _)]) (zKq (some (.int _))) 0 0 _
      rw [e2, ← (zs_all k hk).2.2.1]
      exact zs_length l 3 hk
    · cases h
  · split at h
    · rename_i hq
      cases h
      obtain ⟨k, hk, e1, e2⟩ := key hq.1
      rw [e1] at hq ⊢
      refine zMet_of ?_
      show Met l _ _ _ (zKc g base [Value.ref (zad g base _), .int _]) (zKq (some (.int _))) 0 0 _
      rw [e2]
      exact zs_charAt l 1 hk _ (by rw [(zs_all k hk).2.2.1]; exact hq.2)
    · cases h
  · split at h
    · rename_i hq
      cases h
      obtain ⟨k, hk, e1, e2⟩ := key hq
      rw [e1]
      refine zMet_of ?_
      show Met l _ _ _ (zKc g base [Value.ref (zad g base _), .int _]) (zKq (some (.int _))) 0 0 _
      rw [e2]
      exact zs_ix1 l 0 hk _
    · cases h
  · cases h
end
section
/-! THE CLAIM OUT OF ONE WALK OF THE LAW'S BODY. Your part is whole_start (and what it stands on); all else here is the same for every law, but numbers. -/
def R_law : String := "SleepRopeLaw"
def lw_P (b : Addr) (xs : List Int32) (args : Array Value) (s : State) : Prop := args = #[.ref b] ∧ s.IntsAt b xs ∧ xs.length ≤ 6 ∧ (Jvm.Cond.and given_1 narrow_1).before args s = true
def lw_Q (_ : Array Value) (s : State) (o : Outcome) (t : State) : Prop := o = .returned (some (.int 1)) ∧ Framed s o t [] 600000 7302250
def lw_Z (below : List Frame) (a : Array Value) (s : State) : State → Prop := fun t => ∃ o, t.status = .running ∧ Ended t below o ∧ lw_Q a s o t
/-- the law's own end, with 1 on the stack, nothing written that was there before, its room as the claim has it -/
theorem lw_ret {p : Program} {l : Launch} {e : Env} {s : State} {m : MethodId} {below : List Frame} {meth : Method} {c : Code} {b : Nat} (hx : p.tables.exec = Jvm.exec) (hb : c.code = code) (hr : meth.sig.returnType = ret) (hlocks : meth.locks = false) {pc : Nat} {H : Heap} {ls : Array Slot} (hdg : decode code pc = .ok (.ireturn, 1)) : W p l e room_1 s m #[Value.ref b] below meth c H [] 600000 7302250 (lw_Z below #[Value.ref b] s) (F0 m pc ls [.int 1]) := by
  intro T hT X
  obtain ⟨fs, hret, hrun, hended, hW, hframe⟩ := X.leave (v := some (.int 1)) (hlocks := hlocks) (fun h => by rw [hr] at h; cases h)
  have hmeth' : T.vm.method? m = some meth := X.method'
  refine ⟨T.setFrames fs, ?_, .returned (some (.int 1)), hrun, hended, rfl, ⟨_, rfl⟩, hW, hframe⟩
  jvm_step X.here [X.here.top, hx, hb, hdg, hmeth', hr, ret, narrow_b1]
  (try refine ⟨rfl, ?_⟩); (try refine ⟨rfl, ?_⟩)
  first | (intro acts; rw [hret _ acts rfl rfl rfl]) | rw [hret _ _ rfl rfl rfl]
  exact Steps.refl _
/-- what holds at the law's entry: the machine, the code, the tables' words (any of lw_tbl by 'hts w (by decide +kernel)'), the script of L ints xs at the cell b, what the Statement gives of the start (any of its parts by flat_of_before) -/
def lw_At (p : Program) (s : State) (m : MethodId) (meth : Method) (c : Code) (b L : Nat) (xs : Nat → Int32) : Prop :=
  p.tables.exec = Jvm.exec ∧ c.code = code ∧ meth.sig.returnType = ret ∧ c.maxLocals = 4 ∧ s.vm.findClass R_law = some m.cls ∧ (∀ w ∈ lw_tbl, w.before #[Value.ref b] s = true) ∧ va_X b L xs s s.heap ∧ b < s.heap.size ∧ meth.locks = false ∧ (Jvm.Cond.and given_1 narrow_1).before #[Value.ref b] s = true
/-! THE LAW OUT OF ONE RUN OF THE SMALL MACHINE -/
abbrev zgv : Jvm.Cond := Jvm.Cond.and given_1 narrow_1
def ztm (k : Nat) : Term := .string RX5 (ztxI k)
def zof : Nat → Nat
  | 0 => 9
  | _ => 154
theorem zgv_ex : ∀ k, k < 2 → (flatC zgv)[zof k]? = some (.exactly (ztm k) "java/lang/String") := by decide +kernel
theorem zgv_co : ∀ k, k < 2 → (flatC zgv)[zof k + 1]? = some (.eq (.field (ztm k) "java/lang/String" "coder" "B") (.int 0)) := by decide +kernel
theorem zgv_ar : ∀ k, k < 2 → (flatC zgv)[zof k + 2]? = some (.arrayOf (.field (ztm k) "java/lang/String" "value" "[B") .byte) := by decide +kernel
theorem zgv_le : ∀ k, k < 2 → (flatC zgv)[zof k + 3]? = some (.eq (.length (.field (ztm k) "java/lang/String" "value" "[B")) (.int (Int32.ofNat (zlen.getD k 0)))) := by decide +kernel
theorem zgv_el0 : ∀ j, j < 141 → (flatC zgv)[zof 0 + 4 + j]? = some (.eq (.elem (.field (ztm 0) "java/lang/String" "value" "[B") (.int (Int32.ofNat j))) (.int ((zbyt.getD 0 []).getD j 0))) := by decide +kernel
theorem zgv_el1 : ∀ j, j < 14 → (flatC zgv)[zof 1 + 4 + j]? = some (.eq (.elem (.field (ztm 1) "java/lang/String" "value" "[B") (.int (Int32.ofNat j))) (.int ((zbyt.getD 1 []).getD j 0))) := by decide +kernel
theorem zgv_ne : (flatC zgv)[172]? = some (.not (.eq (ztm 0) (ztm 1))) := by decide +kernel
theorem zgv_cs : (flatC zgv)[4]? = some (.eq (.static "java/lang/String" "COMPACT_STRINGS" "Z") (.int 1)) := by decide +kernel
theorem zgv_si : (flatC zgv)[5]? = some (.isRef (.static "jdk/internal/util/Preconditions" "SIOOBE_FORMATTER" "Ljava/util/function/BiFunction;")) := by decide +kernel
theorem zw_st0 : .laysStatic "java/lang/String" "COMPACT_STRINGS" "Z" ∈ lw_tbl := List.mem_of_getElem? (i := 310) (by decide +kernel)
theorem zw_st1 : .laysStatic "jdk/internal/util/Preconditions" "SIOOBE_FORMATTER" "Ljava/util/function/BiFunction;" ∈ lw_tbl := List.mem_of_getElem? (i := 326) (by decide +kernel)
theorem zw_in0 : .initialized "java/lang/String" ∈ lw_tbl := List.mem_of_getElem? (i := 130) (by decide +kernel)
theorem zw_in1 : .initialized "jdk/internal/util/Preconditions" ∈ lw_tbl := List.mem_of_getElem? (i := 132) (by decide +kernel)
theorem zw_ao : .arrayOver (.object RX6) ∈ lw_tbl := List.mem_of_getElem? (i := 482) (by decide +kernel)
theorem zw_sr0 : .stringRef RX5 (ztxI 0) (ztxS 0) ∈ lw_tbl := List.mem_of_getElem? (i := 300) (by decide +kernel)
theorem zw_sr1 : .stringRef RX5 (ztxI 1) (ztxS 1) ∈ lw_tbl := List.mem_of_getElem? (i := 674) (by decide +kernel)
theorem zinst {ci : Nat} (h : ci < 10) : .instantiable (zcn ci) (znf ci) ∈ zW := by
  match ci, h with
  | 0, _ => exact (znew_ok (own := 8) (idx := 37) rfl).2.2.1
  | 1, _ => exact (znew_ok (own := 5) (idx := 28) rfl).2.2.1
  | 2, _ => exact (znew_ok (own := 1) (idx := 48) rfl).2.2.1
  | 3, _ => exact (znew_ok (own := 8) (idx := 44) rfl).2.2.1
  | 4, _ => exact (znew_ok (own := 8) (idx := 58) rfl).2.2.1
  | 5, _ => exact (znew_ok (own := 8) (idx := 13) rfl).2.2.1
  | 6, _ => exact (znew_ok (own := 8) (idx := 27) rfl).2.2.1
  | 7, _ => exact (znew_ok (own := 3) (idx := 15) rfl).2.2.1
  | 8, _ => exact (znew_ok (own := 10) (idx := 7) rfl).2.2.1
  | 9, _ => exact (znew_ok (own := 10) (idx := 10) rfl).2.2.1
theorem zvw_lt {k : Nat} {q : vw_C} (h : vwCl[k]? = some q) : k < 10 ∧ q = (zcn k, ztb k, znf k) := by
  have h1 : k < 10 := (List.getElem?_eq_some_iff.mp h).1
  exact ⟨h1, Option.some.inj (h.symm.trans (zcls_ok h1).2.2.2.1)⟩
theorem zctx {p : Program} {s : State} {m : MethodId} {meth : Method} {c : Code} {b L : Nat} {xs : Nat → Int32} (C0 : lw_At p s m meth c b L xs) : ∃ (D : va_G) (cy : Nat → ClassId) (g : Nat → Nat), zKn D cy g s.heap.size s.heap ((List.range L).map xs) s ∧ g 0 = b := by
  obtain ⟨hx, hb, hr, hml, hown, hts, hX, hbl, hlocks, hgv⟩ := C0
  have hts2 : ∀ w ∈ zW, w.before #[Value.ref b] s = true := fun w hw => hts w (zW_tbl hw)
  have hfl := flat_of_before _ hgv
  have fl : ∀ {i : Nat} {w : Jvm.Cond}, (flatC zgv)[i]? = some w → w.before #[Value.ref b] s = true := fun h => hfl _ (List.mem_of_getElem? h)
  have hA : ∀ a : Nat, a < s.heap.size → ¬ (fun q : Nat => s.heap.size ≤ q) a := fun a h => Nat.not_le.mpr h
  -- classes
  have hcls : ∀ ci : Nat, ∃ x : ClassId × (Nat → Nat), ci < 10 → u_Kn s (zcn ci) (ztb ci) (znf ci) x.1 x.2 := by
    intro ci
    by_cases h : ci < 10
    · obtain ⟨cC, iS, hk⟩ := u_known (n := znf ci) hts2 (zcls_ok h).1 (hts2 _ (zinst h))
      exact ⟨(cC, iS), fun _ => hk⟩
    · exact ⟨(0, fun _ => 0), fun q => absurd q h⟩
  obtain ⟨f, hf⟩ := Classical.axiomOfChoice hcls
  -- arrays
  obtain ⟨ai, ki, mi, i1, i2, i3⟩ := Cond.arrayClass_spec (hts2 _ zw_int)
  obtain ⟨aj, kj, mj, j1, j2, j3⟩ := Cond.arrayClass_spec (hts2 _ zw_long)
  obtain ⟨az, kz, mz, z1, z2, z3⟩ := Cond.arrayClass_spec (hts2 _ zw_boolean)
  obtain ⟨comp, ar, kr, r1, -, r2, r3, r4⟩ := Cond.arrayOver_spec (hts _ zw_ao)
  -- the texts
  obtain ⟨adK, adV, hVS, hRef⟩ := vk_Sof (args := #[Value.ref b]) (s := s) (N := 2) (tm := ztm) (len := zlen) (byt := zbyt) (A := fun q => s.heap.size ≤ q)
    (fun i hi => by obtain ⟨-, h2, h3, -⟩ := zs_all i hi; rw [h3]; omega)
    (fun i hi => fl (zgv_ex i hi)) (fun i hi => fl (zgv_co i hi)) (fun i hi => fl (zgv_ar i hi)) (fun i hi => fl (zgv_le i hi))
    (fun i hi j hj => by
      have h01 : i = 0 ∨ i = 1 := by omega
      rcases h01 with rfl | rfl
      · exact fl (zgv_el0 j hj)
      · exact fl (zgv_el1 j hj))
    (fun i j hi hj hij => by
      have h01 : (i = 0 ∧ j = 1) ∨ (i = 1 ∧ j = 0) := by omega
      rcases h01 with ⟨rfl, rfl⟩ | ⟨rfl, rfl⟩
      · exact Or.inl (fl zgv_ne)
      · exact Or.inr (fl zgv_ne)) hA
  refine ⟨(fun k => (f k).1, fun k => (f k).2), (fun k => if k = 10 then ai else if k = 11 then aj else if k = 12 then az else ar), (fun k => if k = 0 then b else if k < 3 then adK (k - 1) else adV (k - 3)), ⟨⟨?_, ?_⟩, ?_, ?_, ?_, ?_⟩, rfl⟩
  · intro k q hq
    obtain ⟨h1, rfl⟩ := zvw_lt hq
    exact hf k h1
  · intro k q hq
    have hlt : k < 4 := (List.getElem?_eq_some_iff.mp hq).1
    have ho : k = 0 ∨ k = 1 ∨ k = 2 ∨ k = 3 := by omega
    rcases ho with rfl | rfl | rfl | rfl
    · cases hq
      exact ⟨fun N z => ⟨(fun k h => by cases h), ki, i2, mi, i3⟩, i1⟩
    · cases hq
      exact ⟨fun N z => ⟨(fun k h => by cases h), kj, j2, mj, j3⟩, j1⟩
    · cases hq
      exact ⟨fun N z => ⟨(fun k h => by cases h), kz, z2, mz, z3⟩, z1⟩
    · cases hq
      exact ⟨fun N z => ⟨(fun k h => by cases h), kr, r2, comp, r3⟩, kr, comp, r2, r3, r1, r4⟩
  · obtain ⟨scr, h1, h2, h3, h4, h5⟩ := hX
    refine ⟨scr, h1, h2, h3, by rw [h4]; simp, fun j hj => ?_⟩
    have hj' : j < L := by simpa using hj
    rw [h5 j hj']
    simp [hj']
  · exact hbl
  · intro w hw hn
    cases w with
    | methodLinkNest a i x h => exact va_Nw.of rfl (hts _ hw)
    | _ => cases hn
  · have g1 : ∀ i : Nat, i < 2 → (fun k : Nat => if k = 0 then b else if k < 3 then adK (k - 1) else adV (k - 3)) (1 + i) = adK i := by
      intro i hi
      show (if 1 + i = 0 then b else if 1 + i < 3 then adK (1 + i - 1) else adV (1 + i - 3)) = adK i
      rw [if_neg (by omega), if_pos (by omega), Nat.add_sub_cancel_left]
    have g3 : ∀ i : Nat, (fun k : Nat => if k = 0 then b else if k < 3 then adK (k - 1) else adV (k - 3)) (3 + i) = adV i := by
      intro i
      show (if 3 + i = 0 then b else if 3 + i < 3 then adK (3 + i - 1) else adV (3 + i - 3)) = adV i
      rw [if_neg (by omega), if_neg (by omega), Nat.add_sub_cancel_left]
    refine ⟨fun k hk => ?_, ⟨fun i hi => ?_, fun i j hi hj hij => ?_⟩, fun k hk => ?_, ?_, ?_, va_AO.of (hts _ zw_ao)⟩
    · rw [g1 k hk]
      have h01 : k = 0 ∨ k = 1 := by omega
      rcases h01 with rfl | rfl
      · exact vk_R.of (A := #[]) (by first | exact va_tabs rfl rfl (hts _ zw_sr0) | exact hts _ zw_sr0) (by first | exact hRef 0 (by omega) | (rw [← Term.string_eval_of_vm (args := #[Value.ref b]) (s := s) rfl]; exact hRef 0 (by omega)))
      · exact vk_R.of (A := #[]) (by first | exact va_tabs rfl rfl (hts _ zw_sr1) | exact hts _ zw_sr1) (by first | exact hRef 1 (by omega) | (rw [← Term.string_eval_of_vm (args := #[Value.ref b]) (s := s) rfl]; exact hRef 1 (by omega)))
    · have h1 := hVS.1 i hi
      rw [← g1 i hi, ← g3 i] at h1
      exact h1
    · have h1 := hVS.2 i j hi hj
      rw [← g1 i hi, ← g1 j hj] at h1
      exact h1 hij
    · rw [g1 k hk]
      obtain ⟨cell, q1, q2, q3, q4⟩ := (hVS.1 k hk).1
      exact (Array.getElem?_eq_some_iff.mp q1).1
    · exact va_Zof (hts _ zw_st0) (hts _ zw_in0) (va_eqi (fl zgv_cs)) hA
    · exact va_Zqof (hts _ zw_st1) (hts _ zw_in1) (fl zgv_si) hA
def zlawR : Option FieldType := some .boolean
/-- the law's run in the small machine: d calls deep, F steps each -/
def zlaw (X : List Int32) (F d : Nat) : Option zRes := zloop (zstep 10 false zlawR code X (zev X F d)) F (0, zent [.ref zBig] 4, [], [])
set_option maxHeartbeats 4000000 in
theorem zlaw_start {p : Program} {e : Env} {s : State} {m : MethodId} {below : List Frame} {meth : Method} {c : Code} (l : Launch) {b L : Nat} {xs : Nat → Int32} (C0 : lw_At p s m meth c b L xs) {F d : Nat} {M : zM} (hd : d ≤ 2000) (hrun : zlaw ((List.range L).map xs) F d = some (some (.int 1), M)) (hM : M.length ≤ 600000) (hS : zsl M ≤ 7302250) : W p l e room_1 s m #[Value.ref b] below meth c s.heap [] 0 0 (lw_Z below #[Value.ref b] s) (entryFrame m ([Value.ref b] : List Value).toArray 4) := by
  obtain ⟨D, cy, g, hK, hg⟩ := zctx C0
  obtain ⟨hx, hb, hr, hml, hown, hts, hX, hbl, hlocks, hgv⟩ := C0
  have hts2 : ∀ w ∈ zW, w.before #[Value.ref b] s = true := fun w hw => hts w (zW_tbl hw)
  have e1 : ([Value.ref b] : List Value) = [Value.ref zBig].map (ztr (zad g s.heap.size)) := by
    show _ = [Value.ref (zad g s.heap.size (zBig + 0))]
    rw [zad_big, hg]
  have e2 := lg_entry_eq m (([Value.ref zBig] : List Value).map (ztr (zad g s.heap.size))) 4
  rw [← e1] at e2
  rw [e2]
  have hzl := zent_L (zad g s.heap.size) (vs := [Value.ref zBig]) (n := 4) (by decide)
  rw [← e1] at hzl
  unfold zlaw at hrun
  refine zloop_sim (own := 10) (ini := false) (ret := zlawR) (call := zev ((List.range L).map xs) F d) (d := d) (r := (some (.int 1), M)) (c0 := 0) (s0 := 0) hx hb hts2 hown hK (fun h => by cases h) (zev_met (zstr_ok l D cy g s.heap.size s.heap _) F d) (zstr_ok l D cy g s.heap.size s.heap _) ?_ ?_ ?_ ?_ ?_ F (0, zent [.ref zBig] 4, [], []) hrun s.heap [] 0 0 _ ⟨by simp, by simp, fun q _ => rfl, fun k x hk => by simp at hk⟩ (fun q hq => by cases hq) hzl (by rw [hml]; rfl) rfl rfl
  · show d + 1 ≤ 2048; omega
  · show 40 * (d + 1) ≤ 84000; omega
  · show M.length ≤ 600000 + 0; omega
  · show zsl M ≤ 7302250 + 0; omega
  · intro st i H locs cells slots ls hd hzr hst hR hLo e1 e2
    refine va_forget (fun q hq => hLo q hq) ?_
    refine W.widen (k := 600000) (n := 7302250) (by simp only at e1; omega) (by simp only at e2; omega) ?_
    obtain ⟨pc, ml2, stk, M2⟩ := st
    dsimp only at hd hzr hst ⊢
    unfold zret at hzr
    split at hzr
    · unfold zlawR at hzr
      dsimp only at hzr
      split at hzr
      · cases hzr
        exact lw_ret hx hb hr hlocks hd
      · cases hzr
    · split at hzr <;> cases hzr
    · split at hzr <;> cases hzr
    · cases hzr
/-- WHAT IS LEFT OF THE CLAIM (open): the law's run in the small machine ends with 1 -/
theorem whole_start_open {p : Program} {e : Env} {s : State} {m : MethodId} {below : List Frame} {meth : Method} {c : Code} (l : Launch) {b L : Nat} {xs : Nat → Int32} (hL : L ≤ 3072) (C0 : lw_At p s m meth c b L xs) (hrun : ∀ X : List Int32, X.length ≤ 3072 → ∃ (F d : Nat) (M : zM), d ≤ 2000 ∧ zlaw X F d = some (some (.int 1), M) ∧ M.length ≤ 600000 ∧ zsl M ≤ 7302250) : W p l e room_1 s m #[Value.ref b] below meth c s.heap [] 0 0 (lw_Z below #[Value.ref b] s) (entryFrame m ([Value.ref b] : List Value).toArray 4) := by
  obtain ⟨F, d, M, hd, hr, hM, hS⟩ := hrun ((List.range L).map xs) (by simp; exact hL)
  exact zlaw_start l C0 hd hr hM hS
end
section
/-! THE SMALL MACHINE's OWN ROWS: runs without fuel; a row an instruction, a row a call -/
theorem zinv_leM {own : Nat} {c1 c2 : Nat → List Value → zM → Option zRes} {i : Instr} {st : List Value} {M : zM} {o : List Value × zM} (hc : ∀ j vs r, c1 j vs M = some r → c2 j vs M = some r) (h : zinv own c1 i st M = some o) : zinv own c2 i st M = some o := by
  have key : ∀ {j : Nat} {vs : List Value} {f : zRes → List Value × zM}, (c1 j vs M).map f = some o → (c2 j vs M).map f = some o := by
    intro j vs f h
    rw [Option.map_eq_some_iff] at h ⊢
    obtain ⟨q, h1, h2⟩ := h
    exact ⟨q, hc _ _ _ h1, h2⟩
  unfold zinv at h ⊢
  split at h
  · split at h
    · split at h
      · split at h
        · split at h
          · split at h
            · rename_i q5
              try simp only [‹zcall _ _ = some _›, ‹zmt _ = some _›, ‹List.drop _ _ = _›, ‹zarr _ _ _ = some _›]
              rw [if_pos q5]
              exact key h
            · cases h
          · cases h
        · cases h
      · cases h
    · split at h
      · split at h
        · rename_i q5
          try simp only [‹zcall _ _ = some _›]
          rw [if_pos q5]
          exact key h
        · cases h
      · cases h
    · split at h
      · split at h
        · rename_i q5
          try simp only [‹zcall _ _ = some _›]
          rw [if_pos q5]
          exact key h
        · cases h
      · cases h
    · split at h
      · split at h
        · rename_i q5
          try simp only [‹zcall _ _ = some _›]
          rw [if_pos q5]
          exact key h
        · cases h
      · cases h
    · cases h
  · split at h
    · split at h
      · split at h
        · rename_i q5
          try simp only [‹zcall _ _ = some _›, ‹zmt _ = some _›]
          rw [if_pos q5]
          exact key h
        · cases h
      · cases h
    · try simp only [‹zcall _ _ = some _›]
      exact h
    · try simp only [‹zcall _ _ = some _›]
      exact h
    · try simp only [‹zcall _ _ = some _›]
      exact h
    · cases h
  · split at h
    · split at h
      · split at h
        · split at h
          · rename_i q5
            try simp only [‹zcall _ _ = some _›, ‹zmt _ = some _›, ‹List.drop _ _ = _›]
            rw [if_pos q5]
            exact key h
          · cases h
        · cases h
      · cases h
    · split at h
      · split at h
        · split at h
          · rename_i q5
            try simp only [‹zcall _ _ = some _›, ‹zmt _ = some _›, ‹List.drop _ _ = _›]
            rw [if_pos q5]
            exact key h
          · cases h
        · cases h
      · cases h
    · try simp only [‹zcall _ _ = some _›]
      exact h
    · cases h
  · cases h
theorem zinv_le {own : Nat} {c1 c2 : Nat → List Value → zM → Option zRes} (hc : ∀ j vs M r, c1 j vs M = some r → c2 j vs M = some r) {i : Instr} {st : List Value} {M : zM} {o : List Value × zM} (h : zinv own c1 i st M = some o) : zinv own c2 i st M = some o := zinv_leM (fun j vs r h => hc j vs M r h) h
theorem zstep_leM {own : Nat} {ini : Bool} {ret : Option FieldType} {cc : ByteArray} {X : List Int32} {c1 c2 : Nat → List Value → zM → Option zRes} {st : zS} {o : zS ⊕ zRes} (hc : ∀ j vs r, c1 j vs st.2.2.2 = some r → c2 j vs st.2.2.2 = some r) (h : zstep own ini ret cc X c1 st = some o) : zstep own ini ret cc X c2 st = some o := by
  unfold zstep at h ⊢
  split at h
  · cases h
  · rename_i q1
    try simp only [q1]
    split at h
    · rename_i q2
      try simp only [q2]
      exact h
    · rename_i q2
      try simp only [q2]
      split at h
      · rename_i q3
        try simp only [q3]
        exact h
      · rename_i q3
        try simp only [q3]
        split at h
        · rename_i q4
          try simp only [q4]
          exact h
        · rename_i q4
          try simp only [q4]
          split at h
          · rename_i q5
            try simp only [q5]
            exact h
          · rename_i q5
            try simp only [q5]
            split at h
            · rename_i q6
              try simp only [q6]
              exact h
            · rename_i q6
              try simp only [q6]
              split at h
              · rename_i q7
                try simp only [zinv_leM hc q7]
                exact h
              · cases h
theorem zstep_le {own : Nat} {ini : Bool} {ret : Option FieldType} {cc : ByteArray} {X : List Int32} {c1 c2 : Nat → List Value → zM → Option zRes} (hc : ∀ j vs M r, c1 j vs M = some r → c2 j vs M = some r) {st : zS} {o : zS ⊕ zRes} (h : zstep own ini ret cc X c1 st = some o) : zstep own ini ret cc X c2 st = some o := zstep_leM (fun j vs r h => hc j vs _ r h) h
theorem zloop_le {f1 f2 : zS → Option (zS ⊕ zRes)} (hf : ∀ st o, f1 st = some o → f2 st = some o) : ∀ (n k : Nat) (st : zS) (r : zRes), n ≤ k → zloop f1 n st = some r → zloop f2 k st = some r := by
  intro n
  induction n with
  | zero => intro k st r _ h; cases h
  | succ n ih =>
    intro k st r hk h
    obtain ⟨k, rfl⟩ : ∃ k', k = k' + 1 := ⟨k - 1, by omega⟩
    unfold zloop at h ⊢
    split at h
    · cases h
    · rename_i s' hs
      try simp only [hf _ _ hs]
      exact ih k s' r (by omega) h
    · rename_i r' hs
      try simp only [hf _ _ hs]
      exact h
theorem zev_le (X : List Int32) : ∀ (d d' F F' j : Nat) (vs : List Value) (M : zM) (r : zRes), d ≤ d' → F ≤ F' → zev X F d j vs M = some r → zev X F' d' j vs M = some r := by
  intro d
  induction d with
  | zero => intro d' F F' j vs M r _ _ h; cases h
  | succ d ih =>
    intro d' F F' j vs M r hd hF h
    obtain ⟨d', rfl⟩ : ∃ k, d' = k + 1 := ⟨d' - 1, by omega⟩
    unfold zev at h ⊢
    split at h
    · rename_i q1
      try simp only [q1]
      split at h
      · rw [if_pos (by omega)]
        exact h
      · cases h
    · rename_i q1
      try simp only [q1]
      split at h
      · rename_i q2
        rw [if_pos q2]
        exact zloop_le (fun st o ho => zstep_le (fun j vs M r h => ih d' F F' j vs M r (by omega) hF h) ho) F F' _ r hF h
      · cases h
/-- a call comes back -/
def ZC (X : List Int32) (d j : Nat) (vs : List Value) (M : zM) (r : zRes) : Prop := ∃ F, zev X F d j vs M = some r
/-- a method's run comes to its end -/
def ZX (X : List Int32) (d own : Nat) (ini : Bool) (ret : Option FieldType) (cc : ByteArray) (st : zS) (r : zRes) : Prop := ∃ F, zloop (zstep own ini ret cc X (zev X F d)) F st = some r
theorem ZC.le {X : List Int32} {d d' j : Nat} {vs : List Value} {M : zM} {r : zRes} (h : ZC X d j vs M r) (hd : d ≤ d') : ZC X d' j vs M r := by
  obtain ⟨F, h⟩ := h
  exact ⟨F, zev_le X d d' F F j vs M r hd (Nat.le_refl _) h⟩
theorem ZC.of {X : List Int32} {d j ci na ml pos : Nat} {y : MethodName} {cc : ByteArray} {ret : Option FieldType} {vs : List Value} {M : zM} {r : zRes} (hz : zmt j = some (ci, na, y, cc, ml, ret, pos)) (hl : (zargs vs).length ≤ ml) (h : ZX X d ci (decide (y.name = "<init>")) ret cc (0, zent vs ml, [], M) r) : ZC X (d + 1) j vs M r := by
  obtain ⟨F, h⟩ := h
  refine ⟨F, ?_⟩
  unfold zev
  simp only [hz]
  rw [if_pos hl]
  exact h
section ZXR
variable {X : List Int32} {d own : Nat} {ini : Bool} {ret : Option FieldType} {cc : ByteArray} {r : zRes}
/-- one step that is no call -/
theorem ZX.step {st st' : zS} (h : zstep own ini ret cc X (fun _ _ _ => none) st = some (.inl st')) (k : ZX X d own ini ret cc st' r) : ZX X d own ini ret cc st r := by
  obtain ⟨F, k⟩ := k
  refine ⟨F + 1, ?_⟩
  unfold zloop
  simp only [zstep_le (c2 := zev X (F + 1) d) (fun _ _ _ _ h => by cases h) h]
  exact zloop_le (fun st o ho => zstep_le (fun j vs M r h => zev_le X d d F (F + 1) j vs M r (Nat.le_refl _) (by omega) h) ho) F F st' r (Nat.le_refl _) k
theorem ZX.fin {st : zS} (h : zstep own ini ret cc X (fun _ _ _ => none) st = some (.inr r)) : ZX X d own ini ret cc st r := by
  refine ⟨1, ?_⟩
  unfold zloop
  simp only [zstep_le (c2 := zev X 1 d) (fun _ _ _ _ h => by cases h) h]
/-- many steps that are no calls: as many as the small machine goes by itself -/
theorem ZX.steps : ∀ (n : Nat) {st st' : zS}, (Nat.rec (motive := fun _ => zS → Option zS) (fun s => some s) (fun _ f s => match zstep own ini ret cc X (fun _ _ _ => none) s with | some (.inl s') => f s' | _ => none) n st) = some st' → ZX X d own ini ret cc st' r → ZX X d own ini ret cc st r := by
  intro n
  induction n with
  | zero => intro st st' h k; cases h; exact k
  | succ n ih =>
    intro st st' h k
    dsimp only at h
    split at h
    · rename_i hs
      exact ZX.step hs (ih h k)
    · cases h
/-- a call: the callee's run, and what goes on behind it -/
theorem ZX.call {st st' : zS} {j : Nat} {vs : List Value} {r1 : zRes} (hc : ZC X d j vs st.2.2.2 r1) (h : zstep own ini ret cc X (fun j' vs' _ => if j' = j ∧ vs' = vs then some r1 else none) st = some (.inl st')) (k : ZX X d own ini ret cc st' r) : ZX X d own ini ret cc st r := by
  obtain ⟨F1, hc⟩ := hc
  obtain ⟨F, k⟩ := k
  refine ⟨F1 + F + 1, ?_⟩
  have hs : zstep own ini ret cc X (zev X (F1 + F + 1) d) st = some (.inl st') := by
    refine zstep_leM ?_ h
    intro j' vs' r' h'
    split at h'
    · rename_i q
      cases h'
      rw [q.1, q.2]
      exact zev_le X d d F1 _ j vs _ _ (Nat.le_refl _) (by omega) hc
    · cases h'
  unfold zloop
  simp only [hs]
  exact zloop_le (fun st o ho => zstep_le (fun j vs M r h => zev_le X d d F (F1 + F + 1) j vs M r (Nat.le_refl _) (by omega) h) ho) F (F1 + F) st' r (by omega) k
end ZXR
theorem zinv_ex {X : List Int32} {d own : Nat} {c1 : Nat → List Value → zM → Option zRes} {i : Instr} {st : List Value} {M : zM} {o : List Value × zM} (hc : ∀ j vs r, c1 j vs M = some r → ZC X d j vs M r) (h : zinv own c1 i st M = some o) : ∃ F, zinv own (zev X F d) i st M = some o := by
  have key : ∀ {j : Nat} {vs : List Value} {f : zRes → List Value × zM}, (c1 j vs M).map f = some o → ∃ F, (zev X F d j vs M).map f = some o := by
    intro j vs f h
    rw [Option.map_eq_some_iff] at h
    obtain ⟨q, h1, h2⟩ := h
    obtain ⟨F, hF⟩ := hc _ _ _ h1
    exact ⟨F, by rw [hF]; exact congrArg some h2⟩
  unfold zinv at h
  split at h
  · split at h
    · split at h
      · split at h
        · split at h
          · split at h
            · rename_i q5
              obtain ⟨F, hF⟩ := key h
              refine ⟨F, ?_⟩
              unfold zinv
              simp only [‹zcall _ _ = some _›, ‹zmt _ = some _›, ‹List.drop _ _ = _›, ‹zarr _ _ _ = some _›]
              rw [if_pos q5]
              exact hF
            · cases h
          · cases h
        · cases h
      · cases h
    · split at h
      · split at h
        · rename_i q5
          obtain ⟨F, hF⟩ := key h
          refine ⟨F, ?_⟩
          unfold zinv
          simp only [‹zcall _ _ = some _›]
          rw [if_pos q5]
          exact hF
        · cases h
      · cases h
    · split at h
      · split at h
        · rename_i q5
          obtain ⟨F, hF⟩ := key h
          refine ⟨F, ?_⟩
          unfold zinv
          simp only [‹zcall _ _ = some _›]
          rw [if_pos q5]
          exact hF
        · cases h
      · cases h
    · split at h
      · split at h
        · rename_i q5
          obtain ⟨F, hF⟩ := key h
          refine ⟨F, ?_⟩
          unfold zinv
          simp only [‹zcall _ _ = some _›]
          rw [if_pos q5]
          exact hF
        · cases h
      · cases h
    · cases h
  · split at h
    · split at h
      · split at h
        · rename_i q5
          obtain ⟨F, hF⟩ := key h
          refine ⟨F, ?_⟩
          unfold zinv
          simp only [‹zcall _ _ = some _›, ‹zmt _ = some _›]
          rw [if_pos q5]
          exact hF
        · cases h
      · cases h
    · refine ⟨0, ?_⟩
      unfold zinv
      simp only [‹zcall _ _ = some _›]
      exact h
    · refine ⟨0, ?_⟩
      unfold zinv
      simp only [‹zcall _ _ = some _›]
      exact h
    · refine ⟨0, ?_⟩
      unfold zinv
      simp only [‹zcall _ _ = some _›]
      exact h
    · cases h
  · split at h
    · split at h
      · split at h
        · split at h
          · rename_i q5
            obtain ⟨F, hF⟩ := key h
            refine ⟨F, ?_⟩
            unfold zinv
            simp only [‹zcall _ _ = some _›, ‹zmt _ = some _›, ‹List.drop _ _ = _›]
            rw [if_pos q5]
            exact hF
          · cases h
        · cases h
      · cases h
    · split at h
      · split at h
        · split at h
          · rename_i q5
            obtain ⟨F, hF⟩ := key h
            refine ⟨F, ?_⟩
            unfold zinv
            simp only [‹zcall _ _ = some _›, ‹zmt _ = some _›, ‹List.drop _ _ = _›]
            rw [if_pos q5]
            exact hF
          · cases h
        · cases h
      · cases h
    · refine ⟨0, ?_⟩
      unfold zinv
      simp only [‹zcall _ _ = some _›]
      exact h
    · cases h
  · cases h
theorem zstep_ex {X : List Int32} {d own : Nat} {ini : Bool} {ret : Option FieldType} {cc : ByteArray} {c1 : Nat → List Value → zM → Option zRes} {st : zS} {o : zS ⊕ zRes} (hc : ∀ j vs r, c1 j vs st.2.2.2 = some r → ZC X d j vs st.2.2.2 r) (h : zstep own ini ret cc X c1 st = some o) : ∃ F, zstep own ini ret cc X (zev X F d) st = some o := by
  unfold zstep at h
  split at h
  · cases h
  · rename_i q1
    split at h
    · rename_i q2
      refine ⟨0, ?_⟩
      unfold zstep
      simp only [q1, q2]
      exact h
    · rename_i q2
      split at h
      · rename_i q3
        refine ⟨0, ?_⟩
        unfold zstep
        simp only [q1, q2, q3]
        exact h
      · rename_i q3
        split at h
        · rename_i q4
          refine ⟨0, ?_⟩
          unfold zstep
          simp only [q1, q2, q3, q4]
          exact h
        · rename_i q4
          split at h
          · rename_i q5
            refine ⟨0, ?_⟩
            unfold zstep
            simp only [q1, q2, q3, q4, q5]
            exact h
          · rename_i q5
            split at h
            · rename_i q6
              refine ⟨0, ?_⟩
              unfold zstep
              simp only [q1, q2, q3, q4, q5, q6]
              exact h
            · rename_i q6
              split at h
              · rename_i q7
                obtain ⟨F, hF⟩ := zinv_ex hc q7
                refine ⟨F, ?_⟩
                unfold zstep
                simp only [q1, q2, q3, q4, q5, q6, hF]
                exact h
              · cases h
/-- so many steps -/
def zgo (f : zS → Option (zS ⊕ zRes)) : Nat → zS → Option zS
  | 0, s => some s
  | n + 1, s => match f s with
    | some (.inl s') => zgo f n s'
    | _ => none
/-- steps, calls among them, by a table of calls -/
theorem ZX.go {X : List Int32} {d own : Nat} {ini : Bool} {ret : Option FieldType} {cc : ByteArray} {r : zRes} {ct : Nat → List Value → zM → Option zRes} (hct : ∀ j vs M r, ct j vs M = some r → ZC X d j vs M r) : ∀ (n : Nat) {st st' : zS}, zgo (zstep own ini ret cc X ct) n st = some st' → ZX X d own ini ret cc st' r → ZX X d own ini ret cc st r := by
  intro n
  induction n with
  | zero => intro st st' h k; cases h; exact k
  | succ n ih =>
    intro st st' h k
    unfold zgo at h
    split at h
    · rename_i s' hs
      obtain ⟨F1, h1⟩ := zstep_ex (fun j vs r h => hct j vs _ r h) hs
      obtain ⟨F2, h2⟩ := ih h k
      refine ⟨F1 + F2 + 1, ?_⟩
      have hs2 : zstep own ini ret cc X (zev X (F1 + F2 + 1) d) st = some (.inl s') := zstep_le (fun j vs M r h => zev_le X d d F1 _ j vs M r (Nat.le_refl _) (by omega) h) h1
      unfold zloop
      simp only [hs2]
      exact zloop_le (fun st o ho => zstep_le (fun j vs M r h => zev_le X d d F2 (F1 + F2 + 1) j vs M r (Nat.le_refl _) (by omega) h) ho) F2 (F1 + F2) s' r (by omega) h2
    · cases h
/-- the last step, by a table of calls -/
theorem ZX.gofin {X : List Int32} {d own : Nat} {ini : Bool} {ret : Option FieldType} {cc : ByteArray} {r : zRes} {ct : Nat → List Value → zM → Option zRes} {st : zS} (h : zstep own ini ret cc X ct st = some (.inr r)) : ZX X d own ini ret cc st r := by
  refine ⟨1, ?_⟩
  obtain ⟨i, h1, h2, h3⟩ := zstep_end h
  have h4 : zstep own ini ret cc X (zev X 1 d) st = some (.inr r) := by
    unfold zstep
    simp only [h1, h2]
    rw [if_pos trivial, ← h3]
  unfold zloop
  simp only [h4]
end
section
/-! the two objects as the law makes them: both constructors, run by the kernel (wip/whole/mk17.py) -/
theorem zmt_own : ∀ {j : Nat} {t : zMt}, zmt j = some t → t.1 ≠ 10 := by
  have h0 : ∀ t ∈ zmt0 ++ (zmt1 ++ (zmt2 ++ (zmt3 ++ (zmt4 ++ (zmt5 ++ (zmt6 ++ (zmt7 ++ (zmt8 ++ (zmt9 ++ (zmt11 ++ zmt12)))))))))), t.1 ≠ 10 := by decide +kernel
  intro j t h
  refine h0 t ?_
  unfold zmt at h
  simp only [List.mem_append]
  split at h
  · exact Or.inl (List.mem_of_getElem? h)
  · exact Or.inr (Or.inl (List.mem_of_getElem? h))
  · exact Or.inr (Or.inr (Or.inl (List.mem_of_getElem? h)))
  · exact Or.inr (Or.inr (Or.inr (Or.inl (List.mem_of_getElem? h))))
  · exact Or.inr (Or.inr (Or.inr (Or.inr (Or.inl (List.mem_of_getElem? h)))))
  · exact Or.inr (Or.inr (Or.inr (Or.inr (Or.inr (Or.inl (List.mem_of_getElem? h))))))
  · exact Or.inr (Or.inr (Or.inr (Or.inr (Or.inr (Or.inr (Or.inl (List.mem_of_getElem? h)))))))
  · exact Or.inr (Or.inr (Or.inr (Or.inr (Or.inr (Or.inr (Or.inr (Or.inl (List.mem_of_getElem? h))))))))
  · exact Or.inr (Or.inr (Or.inr (Or.inr (Or.inr (Or.inr (Or.inr (Or.inr (Or.inl (List.mem_of_getElem? h)))))))))
  · exact Or.inr (Or.inr (Or.inr (Or.inr (Or.inr (Or.inr (Or.inr (Or.inr (Or.inr (Or.inl (List.mem_of_getElem? h))))))))))
  · exact Or.inr (Or.inr (Or.inr (Or.inr (Or.inr (Or.inr (Or.inr (Or.inr (Or.inr (Or.inr (Or.inl (List.mem_of_getElem? h)))))))))))
  · exact Or.inr (Or.inr (Or.inr (Or.inr (Or.inr (Or.inr (Or.inr (Or.inr (Or.inr (Or.inr (Or.inr (List.mem_of_getElem? h)))))))))))
  · cases h
theorem zmem_X {own : Nat} (h : own ≠ 10) (ini : Bool) (X Y : List Int32) (i : Instr) (st : List Value) (M : zM) : zmem own ini X i st M = zmem own ini Y i st M := by
  unfold zmem
  split <;> first | rfl | (split <;> first | rfl | (rw [if_pos (Or.inl h), if_pos (Or.inl h)]) | (rw [if_neg h, if_neg h]))
theorem zstep_X {own : Nat} (h : own ≠ 10) (ini : Bool) (ret : Option FieldType) (cc : ByteArray) (X Y : List Int32) (call : Nat → List Value → zM → Option zRes) : zstep own ini ret cc X call = zstep own ini ret cc Y call := by
  funext s
  unfold zstep
  simp only [zmem_X h ini X Y]
theorem zev_X (X Y : List Int32) (F : Nat) : ∀ d : Nat, zev X F d = zev Y F d := by
  intro d
  induction d with
  | zero => rfl
  | succ d ih =>
    funext j vs M
    unfold zev
    split
    · rfl
    · rename_i hz
      rw [zstep_X (zmt_own hz) _ _ _ X Y, ih]
theorem ZC.run {X : List Int32} {F d j : Nat} {vs : List Value} {M : zM} {r : zRes} (h : zev [] F d j vs M = some r) : ZC X d j vs M r := ⟨F, by rw [zev_X X []]; exact h⟩
def zr0 : zS := (0, [some (.ref 2), none, none, none, none], [], [(8, [.ref 1, .int 0, .null, .null, .null, .null, .null, .null, .null, .null, .null, .int 0, .null, .int 0, .null, .int 0]),
  (10, List.replicate 1600 (.int 0)),
  (5, [.int 0, .int 0, .null, .null, .null, .null, .int 0, .int 0, .null, .int 0, .int 0])])
def zr1 : zS := (104, [some (.ref 2), some (.int 1), some (.int 2), some (.int 8), some (.int 105)], [.int 1, .ref 3], [(8, [.ref 1, .int 0, .null, .null, .null, .null, .null, .null, .null, .null, .null, .int 0, .null, .int 0, .null, .int 0]),
  (10, List.replicate 1600 (.int 0)),
  (5, [.int 0, .int (-1), .ref 3, .ref 4, .ref 5, .ref 6, .int 0, .int 0, .ref 7, .int 0, .int 0]),
  (10, [.int 5360102, .int 183, .int 0, .int 0, .int 0, .int 0, .int 0, .int 0, .int 0, .int 0, .int 0, .int 0, .int 0, .int 0, .int 0, .int 0, .int 0, .int 0, .int 0, .int 0, .int 0, .int 0, .int 0, .int 0, .int 0, .int 0, .int 0]),
  (10, List.replicate 1601 (.int 0)),
  (10, List.replicate 1601 (.int 0)),
  (10, List.replicate 1601 (.int 0)),
  (1, [.int 0, .int 0, .int 0, .ref 8, .ref 9, .ref 10, .ref 11, .ref 12, .ref 13, .ref 14, .ref 15, .ref 16, .ref 17, .ref 18, .ref 19, .ref 20]),
  (10, List.replicate 12 (.int 0)),
  (10, List.replicate 12 (.int 0)),
  (10, List.replicate 12 (.int 0)),
  (10, List.replicate 12 (.int 0)),
  (10, List.replicate 12 (.int 0)),
  (10, List.replicate 12 (.int 0)),
  (10, List.replicate 6 (.int 0)),
  (10, List.replicate 6 (.int 0)),
  (10, List.replicate 6 (.int 0)),
  (10, List.replicate 6 (.int 0)),
  (10, List.replicate 6 (.int 0)),
  (10, List.replicate 11 (.int 0)),
  (2, [.int 0, .int 0, .ref 21, .ref 22, .ref 23, .ref 24, .ref 25, .ref 26, .ref 27]),
  (10, List.replicate 1600 (.int 0)),
  (12, List.replicate 8 (.int 0)),
  (10, List.replicate 8 (.int 0)),
  (10, List.replicate 8 (.int 0)),
  (10, List.replicate 8 (.int 0)),
  (10, List.replicate 64 (.int 0)),
  (10, List.replicate 7 (.int 0))])
def zr2 : zS := (61, [some (.ref 2), some (.int 2), some (.int 5), some (.int 18), some (.int 104)], [], [(8, [.ref 1, .int 0, .null, .null, .null, .null, .null, .null, .null, .null, .null, .int 0, .null, .int 0, .null, .int 0]),
  (10, List.replicate 1600 (.int 0)),
  (5, [.int 0, .int (-1), .ref 3, .ref 4, .ref 5, .ref 6, .int 0, .int 0, .ref 7, .int 0, .int 0]),
  (10, [.int 5360102, .int 679716023, .int 9060516, .int 0, .int 0, .int 0, .int 0, .int 0, .int 0, .int 0, .int 0, .int 0, .int 0, .int 0, .int 0, .int 0, .int 0, .int 0, .int 0, .int 0, .int 0, .int 0, .int 0, .int 0, .int 0, .int 0, .int 0]),
  (10, List.replicate 1601 (.int 0)),
  (10, List.replicate 1601 (.int 0)),
  (10, List.replicate 1601 (.int 0)),
  (1, [.int 0, .int 0, .int 0, .ref 8, .ref 9, .ref 10, .ref 11, .ref 12, .ref 13, .ref 14, .ref 15, .ref 16, .ref 17, .ref 18, .ref 19, .ref 20]),
  (10, List.replicate 12 (.int 0)),
  (10, List.replicate 12 (.int 0)),
  (10, List.replicate 12 (.int 0)),
  (10, List.replicate 12 (.int 0)),
  (10, List.replicate 12 (.int 0)),
  (10, List.replicate 12 (.int 0)),
  (10, List.replicate 6 (.int 0)),
  (10, List.replicate 6 (.int 0)),
  (10, List.replicate 6 (.int 0)),
  (10, List.replicate 6 (.int 0)),
  (10, List.replicate 6 (.int 0)),
  (10, List.replicate 11 (.int 0)),
  (2, [.int 0, .int 0, .ref 21, .ref 22, .ref 23, .ref 24, .ref 25, .ref 26, .ref 27]),
  (10, List.replicate 1600 (.int 0)),
  (12, List.replicate 8 (.int 0)),
  (10, List.replicate 8 (.int 0)),
  (10, List.replicate 8 (.int 0)),
  (10, List.replicate 8 (.int 0)),
  (10, List.replicate 64 (.int 0)),
  (10, List.replicate 7 (.int 0))])
def zr3 : zS := (118, [some (.ref 2), some (.int 4), some (.int 2), some (.int 27), some (.int 110)], [.int 14637, .int 4, .ref 3], [(8, [.ref 1, .int 0, .null, .null, .null, .null, .null, .null, .null, .null, .null, .int 0, .null, .int 0, .null, .int 0]),
  (10, List.replicate 1600 (.int 0)),
  (5, [.int 0, .int (-1), .ref 3, .ref 4, .ref 5, .ref 6, .int 0, .int 0, .ref 7, .int 0, .int 0]),
  (10, [.int 5360102, .int 679716023, .int 9060516, .int 5342608, .int 301, .int 0, .int 0, .int 0, .int 0, .int 0, .int 0, .int 0, .int 0, .int 0, .int 0, .int 0, .int 0, .int 0, .int 0, .int 0, .int 0, .int 0, .int 0, .int 0, .int 0, .int 0, .int 0]),
  (10, List.replicate 1601 (.int 0)),
  (10, List.replicate 1601 (.int 0)),
  (10, List.replicate 1601 (.int 0)),
  (1, [.int 0, .int 0, .int 0, .ref 8, .ref 9, .ref 10, .ref 11, .ref 12, .ref 13, .ref 14, .ref 15, .ref 16, .ref 17, .ref 18, .ref 19, .ref 20]),
  (10, List.replicate 12 (.int 0)),
  (10, List.replicate 12 (.int 0)),
  (10, List.replicate 12 (.int 0)),
  (10, List.replicate 12 (.int 0)),
  (10, List.replicate 12 (.int 0)),
  (10, List.replicate 12 (.int 0)),
  (10, List.replicate 6 (.int 0)),
  (10, List.replicate 6 (.int 0)),
  (10, List.replicate 6 (.int 0)),
  (10, List.replicate 6 (.int 0)),
  (10, List.replicate 6 (.int 0)),
  (10, List.replicate 11 (.int 0)),
  (2, [.int 0, .int 0, .ref 21, .ref 22, .ref 23, .ref 24, .ref 25, .ref 26, .ref 27]),
  (10, List.replicate 1600 (.int 0)),
  (12, List.replicate 8 (.int 0)),
  (10, List.replicate 8 (.int 0)),
  (10, List.replicate 8 (.int 0)),
  (10, List.replicate 8 (.int 0)),
  (10, List.replicate 64 (.int 0)),
  (10, List.replicate 7 (.int 0))])
def zr4 : zS := (86, [some (.ref 2), some (.int 5), some (.int 5), some (.int 37), some (.int 101)], [.int 101], [(8, [.ref 1, .int 0, .null, .null, .null, .null, .null, .null, .null, .null, .null, .int 0, .null, .int 0, .null, .int 0]),
  (10, List.replicate 1600 (.int 0)),
  (5, [.int 0, .int (-1), .ref 3, .ref 4, .ref 5, .ref 6, .int 0, .int 0, .ref 7, .int 0, .int 0]),
  (10, [.int 5360102, .int 679716023, .int 9060516, .int 5342608, .int 189446445, .int 4508834, .int 0, .int 0, .int 0, .int 0, .int 0, .int 0, .int 0, .int 0, .int 0, .int 0, .int 0, .int 0, .int 0, .int 0, .int 0, .int 0, .int 0, .int 0, .int 0, .int 0, .int 0]),
  (10, List.replicate 1601 (.int 0)),
  (10, List.replicate 1601 (.int 0)),
  (10, List.replicate 1601 (.int 0)),
  (1, [.int 0, .int 0, .int 0, .ref 8, .ref 9, .ref 10, .ref 11, .ref 12, .ref 13, .ref 14, .ref 15, .ref 16, .ref 17, .ref 18, .ref 19, .ref 20]),
  (10, List.replicate 12 (.int 0)),
  (10, List.replicate 12 (.int 0)),
  (10, List.replicate 12 (.int 0)),
  (10, List.replicate 12 (.int 0)),
  (10, List.replicate 12 (.int 0)),
  (10, List.replicate 12 (.int 0)),
  (10, List.replicate 6 (.int 0)),
  (10, List.replicate 6 (.int 0)),
  (10, List.replicate 6 (.int 0)),
  (10, List.replicate 6 (.int 0)),
  (10, List.replicate 6 (.int 0)),
  (10, List.replicate 11 (.int 0)),
  (2, [.int 0, .int 0, .ref 21, .ref 22, .ref 23, .ref 24, .ref 25, .ref 26, .ref 27]),
  (10, List.replicate 1600 (.int 0)),
  (12, List.replicate 8 (.int 0)),
  (10, List.replicate 8 (.int 0)),
  (10, List.replicate 8 (.int 0)),
  (10, List.replicate 8 (.int 0)),
  (10, List.replicate 64 (.int 0)),
  (10, List.replicate 7 (.int 0))])
def zr5 : zS := (78, [some (.ref 2), some (.int 7), some (.int 3), some (.int 47), some (.int 121)], [.ref 1000001], [(8, [.ref 1, .int 0, .null, .null, .null, .null, .null, .null, .null, .null, .null, .int 0, .null, .int 0, .null, .int 0]),
  (10, List.replicate 1600 (.int 0)),
  (5, [.int 0, .int (-1), .ref 3, .ref 4, .ref 5, .ref 6, .int 0, .int 0, .ref 7, .int 0, .int 0]),
  (10, [.int 5360102, .int 679716023, .int 9060516, .int 5342608, .int 189446445, .int 172280994, .int 667814, .int 26082, .int 0, .int 0, .int 0, .int 0, .int 0, .int 0, .int 0, .int 0, .int 0, .int 0, .int 0, .int 0, .int 0, .int 0, .int 0, .int 0, .int 0, .int 0, .int 0]),
  (10, List.replicate 1601 (.int 0)),
  (10, List.replicate 1601 (.int 0)),
  (10, List.replicate 1601 (.int 0)),
  (1, [.int 0, .int 0, .int 0, .ref 8, .ref 9, .ref 10, .ref 11, .ref 12, .ref 13, .ref 14, .ref 15, .ref 16, .ref 17, .ref 18, .ref 19, .ref 20]),
  (10, List.replicate 12 (.int 0)),
  (10, List.replicate 12 (.int 0)),
  (10, List.replicate 12 (.int 0)),
  (10, List.replicate 12 (.int 0)),
  (10, List.replicate 12 (.int 0)),
  (10, List.replicate 12 (.int 0)),
  (10, List.replicate 6 (.int 0)),
  (10, List.replicate 6 (.int 0)),
  (10, List.replicate 6 (.int 0)),
  (10, List.replicate 6 (.int 0)),
  (10, List.replicate 6 (.int 0)),
  (10, List.replicate 11 (.int 0)),
  (2, [.int 0, .int 0, .ref 21, .ref 22, .ref 23, .ref 24, .ref 25, .ref 26, .ref 27]),
  (10, List.replicate 1600 (.int 0)),
  (12, List.replicate 8 (.int 0)),
  (10, List.replicate 8 (.int 0)),
  (10, List.replicate 8 (.int 0)),
  (10, List.replicate 8 (.int 0)),
  (10, List.replicate 64 (.int 0)),
  (10, List.replicate 7 (.int 0))])
def zr6 : zS := (70, [some (.ref 2), some (.int 9), some (.int 4), some (.int 57), some (.int 108)], [], [(8, [.ref 1, .int 0, .null, .null, .null, .null, .null, .null, .null, .null, .null, .int 0, .null, .int 0, .null, .int 0]),
  (10, List.replicate 1600 (.int 0)),
  (5, [.int 0, .int (-1), .ref 3, .ref 4, .ref 5, .ref 6, .int 0, .int 0, .ref 7, .int 0, .int 0]),
  (10, [.int 5360102, .int 679716023, .int 9060516, .int 5342608, .int 189446445, .int 172280994, .int 667814, .int 26082, .int 626831, .int 406192, .int 0, .int 0, .int 0, .int 0, .int 0, .int 0, .int 0, .int 0, .int 0, .int 0, .int 0, .int 0, .int 0, .int 0, .int 0, .int 0, .int 0]),
  (10, List.replicate 1601 (.int 0)),
  (10, List.replicate 1601 (.int 0)),
  (10, List.replicate 1601 (.int 0)),
  (1, [.int 0, .int 0, .int 0, .ref 8, .ref 9, .ref 10, .ref 11, .ref 12, .ref 13, .ref 14, .ref 15, .ref 16, .ref 17, .ref 18, .ref 19, .ref 20]),
  (10, List.replicate 12 (.int 0)),
  (10, List.replicate 12 (.int 0)),
  (10, List.replicate 12 (.int 0)),
  (10, List.replicate 12 (.int 0)),
  (10, List.replicate 12 (.int 0)),
  (10, List.replicate 12 (.int 0)),
  (10, List.replicate 6 (.int 0)),
  (10, List.replicate 6 (.int 0)),
  (10, List.replicate 6 (.int 0)),
  (10, List.replicate 6 (.int 0)),
  (10, List.replicate 6 (.int 0)),
  (10, List.replicate 11 (.int 0)),
  (2, [.int 0, .int 0, .ref 21, .ref 22, .ref 23, .ref 24, .ref 25, .ref 26, .ref 27]),
  (10, List.replicate 1600 (.int 0)),
  (12, List.replicate 8 (.int 0)),
  (10, List.replicate 8 (.int 0)),
  (10, List.replicate 8 (.int 0)),
  (10, List.replicate 8 (.int 0)),
  (10, List.replicate 64 (.int 0)),
  (10, List.replicate 7 (.int 0))])
def zr7 : zS := (61, [some (.ref 2), some (.int 11), some (.int 1), some (.int 67), some (.int 103)], [], [(8, [.ref 1, .int 0, .null, .null, .null, .null, .null, .null, .null, .null, .null, .int 0, .null, .int 0, .null, .int 0]),
  (10, List.replicate 1600 (.int 0)),
  (5, [.int 0, .int (-1), .ref 3, .ref 4, .ref 5, .ref 6, .int 0, .int 0, .ref 7, .int 0, .int 0]),
  (10, [.int 5360102, .int 679716023, .int 9060516, .int 5342608, .int 189446445, .int 172280994, .int 667814, .int 26082, .int 626831, .int 20329136, .int 643382739, .int 7, .int 0, .int 0, .int 0, .int 0, .int 0, .int 0, .int 0, .int 0, .int 0, .int 0, .int 0, .int 0, .int 0, .int 0, .int 0]),
  (10, List.replicate 1601 (.int 0)),
  (10, List.replicate 1601 (.int 0)),
  (10, List.replicate 1601 (.int 0)),
  (1, [.int 0, .int 0, .int 0, .ref 8, .ref 9, .ref 10, .ref 11, .ref 12, .ref 13, .ref 14, .ref 15, .ref 16, .ref 17, .ref 18, .ref 19, .ref 20]),
  (10, List.replicate 12 (.int 0)),
  (10, List.replicate 12 (.int 0)),
  (10, List.replicate 12 (.int 0)),
  (10, List.replicate 12 (.int 0)),
  (10, List.replicate 12 (.int 0)),
  (10, List.replicate 12 (.int 0)),
  (10, List.replicate 6 (.int 0)),
  (10, List.replicate 6 (.int 0)),
  (10, List.replicate 6 (.int 0)),
  (10, List.replicate 6 (.int 0)),
  (10, List.replicate 6 (.int 0)),
  (10, List.replicate 11 (.int 0)),
  (2, [.int 0, .int 0, .ref 21, .ref 22, .ref 23, .ref 24, .ref 25, .ref 26, .ref 27]),
  (10, List.replicate 1600 (.int 0)),
  (12, List.replicate 8 (.int 0)),
  (10, List.replicate 8 (.int 0)),
  (10, List.replicate 8 (.int 0)),
  (10, List.replicate 8 (.int 0)),
  (10, List.replicate 64 (.int 0)),
  (10, List.replicate 7 (.int 0))])
def zr8 : zS := (103, [some (.ref 2), some (.int 12), some (.int 4), some (.int 76), some (.int 107)], [.ref 3], [(8, [.ref 1, .int 0, .null, .null, .null, .null, .null, .null, .null, .null, .null, .int 0, .null, .int 0, .null, .int 0]),
  (10, List.replicate 1600 (.int 0)),
  (5, [.int 0, .int (-1), .ref 3, .ref 4, .ref 5, .ref 6, .int 0, .int 0, .ref 7, .int 0, .int 0]),
  (10, [.int 5360102, .int 679716023, .int 9060516, .int 5342608, .int 189446445, .int 172280994, .int 667814, .int 26082, .int 626831, .int 20329136, .int 643382739, .int 21609735, .int 99731, .int 0, .int 0, .int 0, .int 0, .int 0, .int 0, .int 0, .int 0, .int 0, .int 0, .int 0, .int 0, .int 0, .int 0]),
  (10, List.replicate 1601 (.int 0)),
  (10, List.replicate 1601 (.int 0)),
  (10, List.replicate 1601 (.int 0)),
  (1, [.int 0, .int 0, .int 0, .ref 8, .ref 9, .ref 10, .ref 11, .ref 12, .ref 13, .ref 14, .ref 15, .ref 16, .ref 17, .ref 18, .ref 19, .ref 20]),
  (10, List.replicate 12 (.int 0)),
  (10, List.replicate 12 (.int 0)),
  (10, List.replicate 12 (.int 0)),
  (10, List.replicate 12 (.int 0)),
  (10, List.replicate 12 (.int 0)),
  (10, List.replicate 12 (.int 0)),
  (10, List.replicate 6 (.int 0)),
  (10, List.replicate 6 (.int 0)),
  (10, List.replicate 6 (.int 0)),
  (10, List.replicate 6 (.int 0)),
  (10, List.replicate 6 (.int 0)),
  (10, List.replicate 11 (.int 0)),
  (2, [.int 0, .int 0, .ref 21, .ref 22, .ref 23, .ref 24, .ref 25, .ref 26, .ref 27]),
  (10, List.replicate 1600 (.int 0)),
  (12, List.replicate 8 (.int 0)),
  (10, List.replicate 8 (.int 0)),
  (10, List.replicate 8 (.int 0)),
  (10, List.replicate 8 (.int 0)),
  (10, List.replicate 64 (.int 0)),
  (10, List.replicate 7 (.int 0))])
def zr9 : zS := (86, [some (.ref 2), some (.int 14), some (.int 5), some (.int 86), some (.int 32)], [.int 32], [(8, [.ref 1, .int 0, .null, .null, .null, .null, .null, .null, .null, .null, .null, .int 0, .null, .int 0, .null, .int 0]),
  (10, List.replicate 1600 (.int 0)),
  (5, [.int 0, .int (-1), .ref 3, .ref 4, .ref 5, .ref 6, .int 0, .int 0, .ref 7, .int 0, .int 0]),
  (10, [.int 5360102, .int 679716023, .int 9060516, .int 5342608, .int 189446445, .int 172280994, .int 667814, .int 26082, .int 626831, .int 20329136, .int 643382739, .int 21609735, .int 11634067, .int 641, .int 13669956, .int 0, .int 0, .int 0, .int 0, .int 0, .int 0, .int 0, .int 0, .int 0, .int 0, .int 0, .int 0]),
  (10, List.replicate 1601 (.int 0)),
  (10, List.replicate 1601 (.int 0)),
  (10, List.replicate 1601 (.int 0)),
  (1, [.int 0, .int 0, .int 0, .ref 8, .ref 9, .ref 10, .ref 11, .ref 12, .ref 13, .ref 14, .ref 15, .ref 16, .ref 17, .ref 18, .ref 19, .ref 20]),
  (10, List.replicate 12 (.int 0)),
  (10, List.replicate 12 (.int 0)),
  (10, List.replicate 12 (.int 0)),
  (10, List.replicate 12 (.int 0)),
  (10, List.replicate 12 (.int 0)),
  (10, List.replicate 12 (.int 0)),
  (10, List.replicate 6 (.int 0)),
  (10, List.replicate 6 (.int 0)),
  (10, List.replicate 6 (.int 0)),
  (10, List.replicate 6 (.int 0)),
  (10, List.replicate 6 (.int 0)),
  (10, List.replicate 11 (.int 0)),
  (2, [.int 0, .int 0, .ref 21, .ref 22, .ref 23, .ref 24, .ref 25, .ref 26, .ref 27]),
  (10, List.replicate 1600 (.int 0)),
  (12, List.replicate 8 (.int 0)),
  (10, List.replicate 8 (.int 0)),
  (10, List.replicate 8 (.int 0)),
  (10, List.replicate 8 (.int 0)),
  (10, List.replicate 64 (.int 0)),
  (10, List.replicate 7 (.int 0))])
def zr10 : zS := (78, [some (.ref 2), some (.int 16), some (.int 5), some (.int 96), some (.int 115)], [.ref 1000001], [(8, [.ref 1, .int 0, .null, .null, .null, .null, .null, .null, .null, .null, .null, .int 0, .null, .int 0, .null, .int 0]),
  (10, List.replicate 1600 (.int 0)),
  (5, [.int 0, .int (-1), .ref 3, .ref 4, .ref 5, .ref 6, .int 0, .int 0, .ref 7, .int 0, .int 0]),
  (10, [.int 5360102, .int 679716023, .int 9060516, .int 5342608, .int 189446445, .int 172280994, .int 667814, .int 26082, .int 626831, .int 20329136, .int 643382739, .int 21609735, .int 11634067, .int 641, .int 13669956, .int 7860, .int 20597804, .int 0, .int 0, .int 0, .int 0, .int 0, .int 0, .int 0, .int 0, .int 0, .int 0]),
  (10, List.replicate 1601 (.int 0)),
  (10, List.replicate 1601 (.int 0)),
  (10, List.replicate 1601 (.int 0)),
  (1, [.int 0, .int 0, .int 0, .ref 8, .ref 9, .ref 10, .ref 11, .ref 12, .ref 13, .ref 14, .ref 15, .ref 16, .ref 17, .ref 18, .ref 19, .ref 20]),
  (10, List.replicate 12 (.int 0)),
  (10, List.replicate 12 (.int 0)),
  (10, List.replicate 12 (.int 0)),
  (10, List.replicate 12 (.int 0)),
  (10, List.replicate 12 (.int 0)),
  (10, List.replicate 12 (.int 0)),
  (10, List.replicate 6 (.int 0)),
  (10, List.replicate 6 (.int 0)),
  (10, List.replicate 6 (.int 0)),
  (10, List.replicate 6 (.int 0)),
  (10, List.replicate 6 (.int 0)),
  (10, List.replicate 11 (.int 0)),
  (2, [.int 0, .int 0, .ref 21, .ref 22, .ref 23, .ref 24, .ref 25, .ref 26, .ref 27]),
  (10, List.replicate 1600 (.int 0)),
  (12, List.replicate 8 (.int 0)),
  (10, List.replicate 8 (.int 0)),
  (10, List.replicate 8 (.int 0)),
  (10, List.replicate 8 (.int 0)),
  (10, List.replicate 64 (.int 0)),
  (10, List.replicate 7 (.int 0))])
def zr11 : zS := (70, [some (.ref 2), some (.int 18), some (.int 2), some (.int 106), some (.int 97)], [], [(8, [.ref 1, .int 0, .null, .null, .null, .null, .null, .null, .null, .null, .null, .int 0, .null, .int 0, .null, .int 0]),
  (10, List.replicate 1600 (.int 0)),
  (5, [.int 0, .int (-1), .ref 3, .ref 4, .ref 5, .ref 6, .int 0, .int 0, .ref 7, .int 0, .int 0]),
  (10, [.int 5360102, .int 679716023, .int 9060516, .int 5342608, .int 189446445, .int 172280994, .int 667814, .int 26082, .int 626831, .int 20329136, .int 643382739, .int 21609735, .int 11634067, .int 641, .int 13669956, .int 7860, .int 20597804, .int 643419184, .int 48, .int 0, .int 0, .int 0, .int 0, .int 0, .int 0, .int 0, .int 0]),
  (10, List.replicate 1601 (.int 0)),
  (10, List.replicate 1601 (.int 0)),
  (10, List.replicate 1601 (.int 0)),
  (1, [.int 0, .int 0, .int 0, .ref 8, .ref 9, .ref 10, .ref 11, .ref 12, .ref 13, .ref 14, .ref 15, .ref 16, .ref 17, .ref 18, .ref 19, .ref 20]),
  (10, List.replicate 12 (.int 0)),
  (10, List.replicate 12 (.int 0)),
  (10, List.replicate 12 (.int 0)),
  (10, List.replicate 12 (.int 0)),
  (10, List.replicate 12 (.int 0)),
  (10, List.replicate 12 (.int 0)),
  (10, List.replicate 6 (.int 0)),
  (10, List.replicate 6 (.int 0)),
  (10, List.replicate 6 (.int 0)),
  (10, List.replicate 6 (.int 0)),
  (10, List.replicate 6 (.int 0)),
  (10, List.replicate 11 (.int 0)),
  (2, [.int 0, .int 0, .ref 21, .ref 22, .ref 23, .ref 24, .ref 25, .ref 26, .ref 27]),
  (10, List.replicate 1600 (.int 0)),
  (12, List.replicate 8 (.int 0)),
  (10, List.replicate 8 (.int 0)),
  (10, List.replicate 8 (.int 0)),
  (10, List.replicate 8 (.int 0)),
  (10, List.replicate 64 (.int 0)),
  (10, List.replicate 7 (.int 0))])
def zr12 : zS := (61, [some (.ref 2), some (.int 20), some (.int 2), some (.int 116), some (.int 104)], [], [(8, [.ref 1, .int 0, .null, .null, .null, .null, .null, .null, .null, .null, .null, .int 0, .null, .int 0, .null, .int 0]),
  (10, List.replicate 1600 (.int 0)),
  (5, [.int 0, .int (-1), .ref 3, .ref 4, .ref 5, .ref 6, .int 0, .int 0, .ref 7, .int 0, .int 0]),
  (10, [.int 5360102, .int 679716023, .int 9060516, .int 5342608, .int 189446445, .int 172280994, .int 667814, .int 26082, .int 626831, .int 20329136, .int 643382739, .int 21609735, .int 11634067, .int 641, .int 13669956, .int 7860, .int 20597804, .int 643419184, .int 642096, .int 529572, .int 279, .int 0, .int 0, .int 0, .int 0, .int 0, .int 0]),
  (10, List.replicate 1601 (.int 0)),
  (10, List.replicate 1601 (.int 0)),
  (10, List.replicate 1601 (.int 0)),
  (1, [.int 0, .int 0, .int 0, .ref 8, .ref 9, .ref 10, .ref 11, .ref 12, .ref 13, .ref 14, .ref 15, .ref 16, .ref 17, .ref 18, .ref 19, .ref 20]),
  (10, List.replicate 12 (.int 0)),
  (10, List.replicate 12 (.int 0)),
  (10, List.replicate 12 (.int 0)),
  (10, List.replicate 12 (.int 0)),
  (10, List.replicate 12 (.int 0)),
  (10, List.replicate 12 (.int 0)),
  (10, List.replicate 6 (.int 0)),
  (10, List.replicate 6 (.int 0)),
  (10, List.replicate 6 (.int 0)),
  (10, List.replicate 6 (.int 0)),
  (10, List.replicate 6 (.int 0)),
  (10, List.replicate 11 (.int 0)),
  (2, [.int 0, .int 0, .ref 21, .ref 22, .ref 23, .ref 24, .ref 25, .ref 26, .ref 27]),
  (10, List.replicate 1600 (.int 0)),
  (12, List.replicate 8 (.int 0)),
  (10, List.replicate 8 (.int 0)),
  (10, List.replicate 8 (.int 0)),
  (10, List.replicate 8 (.int 0)),
  (10, List.replicate 64 (.int 0)),
  (10, List.replicate 7 (.int 0))])
def zr13 : zS := (79, [some (.ref 2), some (.int 23), some (.int 0), some (.int 126), some (.int 32)], [.int 126, .ref 1000001], [(8, [.ref 1, .int 0, .null, .null, .null, .null, .null, .null, .null, .null, .null, .int 0, .null, .int 0, .null, .int 0]),
  (10, List.replicate 1600 (.int 0)),
  (5, [.int 0, .int (-1), .ref 3, .ref 4, .ref 5, .ref 6, .int 0, .int 0, .ref 7, .int 0, .int 0]),
  (10, [.int 5360102, .int 679716023, .int 9060516, .int 5342608, .int 189446445, .int 172280994, .int 667814, .int 26082, .int 626831, .int 20329136, .int 643382739, .int 21609735, .int 11634067, .int 641, .int 13669956, .int 7860, .int 20597804, .int 643419184, .int 642096, .int 529572, .int 464151, .int 591, .int 4545, .int 0, .int 0, .int 0, .int 0]),
  (10, List.replicate 1601 (.int 0)),
  (10, List.replicate 1601 (.int 0)),
  (10, List.replicate 1601 (.int 0)),
  (1, [.int 0, .int 0, .int 0, .ref 8, .ref 9, .ref 10, .ref 11, .ref 12, .ref 13, .ref 14, .ref 15, .ref 16, .ref 17, .ref 18, .ref 19, .ref 20]),
  (10, List.replicate 12 (.int 0)),
  (10, List.replicate 12 (.int 0)),
  (10, List.replicate 12 (.int 0)),
  (10, List.replicate 12 (.int 0)),
  (10, List.replicate 12 (.int 0)),
  (10, List.replicate 12 (.int 0)),
  (10, List.replicate 6 (.int 0)),
  (10, List.replicate 6 (.int 0)),
  (10, List.replicate 6 (.int 0)),
  (10, List.replicate 6 (.int 0)),
  (10, List.replicate 6 (.int 0)),
  (10, List.replicate 11 (.int 0)),
  (2, [.int 0, .int 0, .ref 21, .ref 22, .ref 23, .ref 24, .ref 25, .ref 26, .ref 27]),
  (10, List.replicate 1600 (.int 0)),
  (12, List.replicate 8 (.int 0)),
  (10, List.replicate 8 (.int 0)),
  (10, List.replicate 8 (.int 0)),
  (10, List.replicate 8 (.int 0)),
  (10, List.replicate 64 (.int 0)),
  (10, List.replicate 7 (.int 0))])
def zr14 : zS := (71, [some (.ref 2), some (.int 25), some (.int 2), some (.int 136), some (.int 105)], [.int 25], [(8, [.ref 1, .int 0, .null, .null, .null, .null, .null, .null, .null, .null, .null, .int 0, .null, .int 0, .null, .int 0]),
  (10, List.replicate 1600 (.int 0)),
  (5, [.int 0, .int (-1), .ref 3, .ref 4, .ref 5, .ref 6, .int 0, .int 0, .ref 7, .int 0, .int 0]),
  (10, [.int 5360102, .int 679716023, .int 9060516, .int 5342608, .int 189446445, .int 172280994, .int 667814, .int 26082, .int 626831, .int 20329136, .int 643382739, .int 21609735, .int 11634067, .int 641, .int 13669956, .int 7860, .int 20597804, .int 643419184, .int 642096, .int 529572, .int 464151, .int 591, .int 4545, .int 20974, .int 12673, .int 301, .int 0]),
  (10, List.replicate 1601 (.int 0)),
  (10, List.replicate 1601 (.int 0)),
  (10, List.replicate 1601 (.int 0)),
  (1, [.int 0, .int 0, .int 0, .ref 8, .ref 9, .ref 10, .ref 11, .ref 12, .ref 13, .ref 14, .ref 15, .ref 16, .ref 17, .ref 18, .ref 19, .ref 20]),
  (10, List.replicate 12 (.int 0)),
  (10, List.replicate 12 (.int 0)),
  (10, List.replicate 12 (.int 0)),
  (10, List.replicate 12 (.int 0)),
  (10, List.replicate 12 (.int 0)),
  (10, List.replicate 12 (.int 0)),
  (10, List.replicate 6 (.int 0)),
  (10, List.replicate 6 (.int 0)),
  (10, List.replicate 6 (.int 0)),
  (10, List.replicate 6 (.int 0)),
  (10, List.replicate 6 (.int 0)),
  (10, List.replicate 11 (.int 0)),
  (2, [.int 0, .int 0, .ref 21, .ref 22, .ref 23, .ref 24, .ref 25, .ref 26, .ref 27]),
  (10, List.replicate 1600 (.int 0)),
  (12, List.replicate 8 (.int 0)),
  (10, List.replicate 8 (.int 0)),
  (10, List.replicate 8 (.int 0)),
  (10, List.replicate 8 (.int 0)),
  (10, List.replicate 64 (.int 0)),
  (10, List.replicate 7 (.int 0))])
def zr15 : zS := (128, [some (.ref 2), some (.int 26), some (.int 3), some (.int 141), some (.int 120)], [], [(8, [.ref 1, .int 0, .null, .null, .null, .null, .null, .null, .null, .null, .null, .int 0, .null, .int 0, .null, .int 0]),
  (10, List.replicate 1600 (.int 0)),
  (5, [.int 0, .int (-1), .ref 3, .ref 4, .ref 5, .ref 6, .int 0, .int 0, .ref 7, .int 0, .int 0]),
  (10, [.int 5360102, .int 679716023, .int 9060516, .int 5342608, .int 189446445, .int 172280994, .int 667814, .int 26082, .int 626831, .int 20329136, .int 643382739, .int 21609735, .int 11634067, .int 641, .int 13669956, .int 7860, .int 20597804, .int 643419184, .int 642096, .int 529572, .int 464151, .int 591, .int 4545, .int 20974, .int 12673, .int 14637, .int 24621]),
  (10, List.replicate 1601 (.int 0)),
  (10, List.replicate 1601 (.int 0)),
  (10, List.replicate 1601 (.int 0)),
  (1, [.int 0, .int 0, .int 0, .ref 8, .ref 9, .ref 10, .ref 11, .ref 12, .ref 13, .ref 14, .ref 15, .ref 16, .ref 17, .ref 18, .ref 19, .ref 20]),
  (10, List.replicate 12 (.int 0)),
  (10, List.replicate 12 (.int 0)),
  (10, List.replicate 12 (.int 0)),
  (10, List.replicate 12 (.int 0)),
  (10, List.replicate 12 (.int 0)),
  (10, List.replicate 12 (.int 0)),
  (10, List.replicate 6 (.int 0)),
  (10, List.replicate 6 (.int 0)),
  (10, List.replicate 6 (.int 0)),
  (10, List.replicate 6 (.int 0)),
  (10, List.replicate 6 (.int 0)),
  (10, List.replicate 11 (.int 0)),
  (2, [.int 0, .int 0, .ref 21, .ref 22, .ref 23, .ref 24, .ref 25, .ref 26, .ref 27]),
  (10, List.replicate 1600 (.int 0)),
  (12, List.replicate 8 (.int 0)),
  (10, List.replicate 8 (.int 0)),
  (10, List.replicate 8 (.int 0)),
  (10, List.replicate 8 (.int 0)),
  (10, List.replicate 64 (.int 0)),
  (10, List.replicate 7 (.int 0))])
set_option maxRecDepth 1000000 in
theorem zr0_ok : zgo (zstep 5 true none cX5_init [] (zev [] 2000 9)) 300 zr0 = some zr1 := by decide +kernel
set_option maxRecDepth 1000000 in
theorem zr1_ok : zgo (zstep 5 true none cX5_init [] (zev [] 2000 9)) 300 zr1 = some zr2 := by decide +kernel
set_option maxRecDepth 1000000 in
theorem zr2_ok : zgo (zstep 5 true none cX5_init [] (zev [] 2000 9)) 300 zr2 = some zr3 := by decide +kernel
set_option maxRecDepth 1000000 in
theorem zr3_ok : zgo (zstep 5 true none cX5_init [] (zev [] 2000 9)) 300 zr3 = some zr4 := by decide +kernel
set_option maxRecDepth 1000000 in
theorem zr4_ok : zgo (zstep 5 true none cX5_init [] (zev [] 2000 9)) 300 zr4 = some zr5 := by decide +kernel
set_option maxRecDepth 1000000 in
theorem zr5_ok : zgo (zstep 5 true none cX5_init [] (zev [] 2000 9)) 300 zr5 = some zr6 := by decide +kernel
set_option maxRecDepth 1000000 in
theorem zr6_ok : zgo (zstep 5 true none cX5_init [] (zev [] 2000 9)) 300 zr6 = some zr7 := by decide +kernel
set_option maxRecDepth 1000000 in
theorem zr7_ok : zgo (zstep 5 true none cX5_init [] (zev [] 2000 9)) 300 zr7 = some zr8 := by decide +kernel
set_option maxRecDepth 1000000 in
theorem zr8_ok : zgo (zstep 5 true none cX5_init [] (zev [] 2000 9)) 300 zr8 = some zr9 := by decide +kernel
set_option maxRecDepth 1000000 in
theorem zr9_ok : zgo (zstep 5 true none cX5_init [] (zev [] 2000 9)) 300 zr9 = some zr10 := by decide +kernel
set_option maxRecDepth 1000000 in
theorem zr10_ok : zgo (zstep 5 true none cX5_init [] (zev [] 2000 9)) 300 zr10 = some zr11 := by decide +kernel
set_option maxRecDepth 1000000 in
theorem zr11_ok : zgo (zstep 5 true none cX5_init [] (zev [] 2000 9)) 300 zr11 = some zr12 := by decide +kernel
set_option maxRecDepth 1000000 in
theorem zr12_ok : zgo (zstep 5 true none cX5_init [] (zev [] 2000 9)) 300 zr12 = some zr13 := by decide +kernel
set_option maxRecDepth 1000000 in
theorem zr13_ok : zgo (zstep 5 true none cX5_init [] (zev [] 2000 9)) 300 zr13 = some zr14 := by decide +kernel
set_option maxRecDepth 1000000 in
theorem zr14_ok : zgo (zstep 5 true none cX5_init [] (zev [] 2000 9)) 151 zr14 = some zr15 := by decide +kernel
end
section
/-! the class's constructor out of its pieces; the reference's; the law's way to its loop (wip/whole/mk18.py) -/
def zout (f : zS → Option (zS ⊕ zRes)) (st : zS) : Option zRes := match f st with
  | some (.inr r) => some r
  | _ => none
theorem zout_eq {f : zS → Option (zS ⊕ zRes)} {st : zS} {r : zRes} (h : zout f st = some r) : f st = some (.inr r) := by
  unfold zout at h
  split at h
  · rename_i hs
    cases h
    exact hs
  · cases h
theorem zgo1_eq {f : zS → Option (zS ⊕ zRes)} {st st' : zS} (h : zgo f 1 st = some st') : f st = some (.inl st') := by
  unfold zgo at h
  split at h
  · rename_i hs
    cases h
    exact hs
  · cases h
theorem zct (F d : Nat) : ∀ j vs M r, zev [] F d j vs M = some r → ZC [] d j vs M r := fun j vs M r h => ⟨F, h⟩
def zrE : zM := zr15.2.2.2
set_option maxRecDepth 1000000 in
theorem zr_fin : zout (zstep 5 true none cX5_init [] (fun _ _ _ => none)) zr15 = some (none, zrE) := by decide +kernel
theorem zr_all : ZC [] 10 1280 [.ref 2] zr0.2.2.2 (none, zrE) := by
  refine ZC.of (ci := 5) (na := 0) (y := yX5_init) (cc := cX5_init) (ml := 5) (ret := none) rfl (by decide) ?_
  show ZX [] 9 5 (decide (yX5_init.name = "<init>")) none cX5_init zr0 (none, zrE)
  rw [show decide (yX5_init.name = "<init>") = true from by decide +kernel]
  refine ZX.go (zct 2000 9) _ zr0_ok ?_
  refine ZX.go (zct 2000 9) _ zr1_ok ?_
  refine ZX.go (zct 2000 9) _ zr2_ok ?_
  refine ZX.go (zct 2000 9) _ zr3_ok ?_
  refine ZX.go (zct 2000 9) _ zr4_ok ?_
  refine ZX.go (zct 2000 9) _ zr5_ok ?_
  refine ZX.go (zct 2000 9) _ zr6_ok ?_
  refine ZX.go (zct 2000 9) _ zr7_ok ?_
  refine ZX.go (zct 2000 9) _ zr8_ok ?_
  refine ZX.go (zct 2000 9) _ zr9_ok ?_
  refine ZX.go (zct 2000 9) _ zr10_ok ?_
  refine ZX.go (zct 2000 9) _ zr11_ok ?_
  refine ZX.go (zct 2000 9) _ zr12_ok ?_
  refine ZX.go (zct 2000 9) _ zr13_ok ?_
  refine ZX.go (zct 2000 9) _ zr14_ok ?_
  exact ZX.gofin (zout_eq zr_fin)
def za0 : zS := (0, [some (.ref 77), none], [], [(8, [.ref 1, .int 0, .ref 2, .ref 28, .ref 49, .ref 63, .null, .null, .null, .null, .null, .int 0, .null, .int 0, .null, .int 0]),
  (10, List.replicate 1600 (.int 0)),
  (5, [.int 0, .int (-1), .ref 3, .ref 4, .ref 5, .ref 6, .int 0, .int 0, .ref 7, .int 0, .int 0]),
  (10, [.int 5360102, .int 679716023, .int 9060516, .int 5342608, .int 189446445, .int 172280994, .int 667814, .int 26082, .int 626831, .int 20329136, .int 643382739, .int 21609735, .int 11634067, .int 641, .int 13669956, .int 7860, .int 20597804, .int 643419184, .int 642096, .int 529572, .int 464151, .int 591, .int 4545, .int 20974, .int 12673, .int 14637, .int 24621]),
  (10, List.replicate 1601 (.int 0)),
  (10, List.replicate 1601 (.int 0)),
  (10, List.replicate 1601 (.int 0)),
  (1, [.int 0, .int 0, .int 0, .ref 8, .ref 9, .ref 10, .ref 11, .ref 12, .ref 13, .ref 14, .ref 15, .ref 16, .ref 17, .ref 18, .ref 19, .ref 20]),
  (10, List.replicate 12 (.int 0)),
  (10, List.replicate 12 (.int 0)),
  (10, List.replicate 12 (.int 0)),
  (10, List.replicate 12 (.int 0)),
  (10, List.replicate 12 (.int 0)),
  (10, List.replicate 12 (.int 0)),
  (10, List.replicate 6 (.int 0)),
  (10, List.replicate 6 (.int 0)),
  (10, List.replicate 6 (.int 0)),
  (10, List.replicate 6 (.int 0)),
  (10, List.replicate 6 (.int 0)),
  (10, List.replicate 11 (.int 0)),
  (2, [.int 0, .int 0, .ref 21, .ref 22, .ref 23, .ref 24, .ref 25, .ref 26, .ref 27]),
  (10, List.replicate 1600 (.int 0)),
  (12, List.replicate 8 (.int 0)),
  (10, List.replicate 8 (.int 0)),
  (10, List.replicate 8 (.int 0)),
  (10, List.replicate 8 (.int 0)),
  (10, List.replicate 64 (.int 0)),
  (10, List.replicate 7 (.int 0)),
  (1, [.int 0, .int 0, .int 0, .ref 29, .ref 30, .ref 31, .ref 32, .ref 33, .ref 34, .ref 35, .ref 36, .ref 37, .ref 38, .ref 39, .ref 40, .ref 41]),
  (10, List.replicate 12 (.int 0)),
  (10, List.replicate 12 (.int 0)),
  (10, List.replicate 12 (.int 0)),
  (10, List.replicate 12 (.int 0)),
  (10, List.replicate 12 (.int 0)),
  (10, List.replicate 12 (.int 0)),
  (10, List.replicate 6 (.int 0)),
  (10, List.replicate 6 (.int 0)),
  (10, List.replicate 6 (.int 0)),
  (10, List.replicate 6 (.int 0)),
  (10, List.replicate 6 (.int 0)),
  (10, List.replicate 11 (.int 0)),
  (2, [.int 0, .int 0, .ref 42, .ref 43, .ref 44, .ref 45, .ref 46, .ref 47, .ref 48]),
  (10, List.replicate 1600 (.int 0)),
  (12, List.replicate 8 (.int 0)),
  (10, List.replicate 8 (.int 0)),
  (10, List.replicate 8 (.int 0)),
  (10, List.replicate 8 (.int 0)),
  (10, List.replicate 64 (.int 0)),
  (10, List.replicate 7 (.int 0)),
  (6, [.int 0, .int 0, .ref 50, .ref 51, .ref 52, .ref 53, .ref 54, .ref 55, .ref 56, .ref 57, .ref 58, .ref 59, .ref 60, .ref 61, .int 0, .ref 62]),
  (10, List.replicate 12 (.int 0)),
  (12, List.replicate 12 (.int 0)),
  (10, List.replicate 12 (.int 0)),
  (10, List.replicate 12 (.int 0)),
  (10, List.replicate 12 (.int 0)),
  (10, List.replicate 12 (.int 0)),
  (10, List.replicate 12 (.int 0)),
  (10, List.replicate 12 (.int 0)),
  (10, List.replicate 12 (.int 0)),
  (10, List.replicate 12 (.int 0)),
  (12, List.replicate 11 (.int 0)),
  (10, List.replicate 11 (.int 0)),
  (10, List.replicate 200 (.int 0)),
  (6, [.int 0, .int 0, .ref 64, .ref 65, .ref 66, .ref 67, .ref 68, .ref 69, .ref 70, .ref 71, .ref 72, .ref 73, .ref 74, .ref 75, .int 0, .ref 76]),
  (10, List.replicate 12 (.int 0)),
  (12, List.replicate 12 (.int 0)),
  (10, List.replicate 12 (.int 0)),
  (10, List.replicate 12 (.int 0)),
  (10, List.replicate 12 (.int 0)),
  (10, List.replicate 12 (.int 0)),
  (10, List.replicate 12 (.int 0)),
  (10, List.replicate 12 (.int 0)),
  (10, List.replicate 12 (.int 0)),
  (10, List.replicate 12 (.int 0)),
  (12, List.replicate 11 (.int 0)),
  (10, List.replicate 11 (.int 0)),
  (10, List.replicate 200 (.int 0)),
  (0, [.int 0, .int 0, .null])])
def za1 : zS := (34, [some (.ref 77), some (.int 4)], [], [(8, [.ref 1, .int 0, .ref 2, .ref 28, .ref 49, .ref 63, .null, .null, .null, .null, .null, .int 0, .null, .int 0, .null, .int 0]),
  (10, List.replicate 1600 (.int 0)),
  (5, [.int 0, .int (-1), .ref 3, .ref 4, .ref 5, .ref 6, .int 0, .int 0, .ref 7, .int 0, .int 0]),
  (10, [.int 5360102, .int 679716023, .int 9060516, .int 5342608, .int 189446445, .int 172280994, .int 667814, .int 26082, .int 626831, .int 20329136, .int 643382739, .int 21609735, .int 11634067, .int 641, .int 13669956, .int 7860, .int 20597804, .int 643419184, .int 642096, .int 529572, .int 464151, .int 591, .int 4545, .int 20974, .int 12673, .int 14637, .int 24621]),
  (10, List.replicate 1601 (.int 0)),
  (10, List.replicate 1601 (.int 0)),
  (10, List.replicate 1601 (.int 0)),
  (1, [.int 0, .int 0, .int 0, .ref 8, .ref 9, .ref 10, .ref 11, .ref 12, .ref 13, .ref 14, .ref 15, .ref 16, .ref 17, .ref 18, .ref 19, .ref 20]),
  (10, List.replicate 12 (.int 0)),
  (10, List.replicate 12 (.int 0)),
  (10, List.replicate 12 (.int 0)),
  (10, List.replicate 12 (.int 0)),
  (10, List.replicate 12 (.int 0)),
  (10, List.replicate 12 (.int 0)),
  (10, List.replicate 6 (.int 0)),
  (10, List.replicate 6 (.int 0)),
  (10, List.replicate 6 (.int 0)),
  (10, List.replicate 6 (.int 0)),
  (10, List.replicate 6 (.int 0)),
  (10, List.replicate 11 (.int 0)),
  (2, [.int 0, .int 0, .ref 21, .ref 22, .ref 23, .ref 24, .ref 25, .ref 26, .ref 27]),
  (10, List.replicate 1600 (.int 0)),
  (12, List.replicate 8 (.int 0)),
  (10, List.replicate 8 (.int 0)),
  (10, List.replicate 8 (.int 0)),
  (10, List.replicate 8 (.int 0)),
  (10, List.replicate 64 (.int 0)),
  (10, List.replicate 7 (.int 0)),
  (1, [.int 0, .int 0, .int 0, .ref 29, .ref 30, .ref 31, .ref 32, .ref 33, .ref 34, .ref 35, .ref 36, .ref 37, .ref 38, .ref 39, .ref 40, .ref 41]),
  (10, List.replicate 12 (.int 0)),
  (10, List.replicate 12 (.int 0)),
  (10, List.replicate 12 (.int 0)),
  (10, List.replicate 12 (.int 0)),
  (10, List.replicate 12 (.int 0)),
  (10, List.replicate 12 (.int 0)),
  (10, List.replicate 6 (.int 0)),
  (10, List.replicate 6 (.int 0)),
  (10, List.replicate 6 (.int 0)),
  (10, List.replicate 6 (.int 0)),
  (10, List.replicate 6 (.int 0)),
  (10, List.replicate 11 (.int 0)),
  (2, [.int 0, .int 0, .ref 42, .ref 43, .ref 44, .ref 45, .ref 46, .ref 47, .ref 48]),
  (10, List.replicate 1600 (.int 0)),
  (12, List.replicate 8 (.int 0)),
  (10, List.replicate 8 (.int 0)),
  (10, List.replicate 8 (.int 0)),
  (10, List.replicate 8 (.int 0)),
  (10, List.replicate 64 (.int 0)),
  (10, List.replicate 7 (.int 0)),
  (6, [.int 0, .int 0, .ref 50, .ref 51, .ref 52, .ref 53, .ref 54, .ref 55, .ref 56, .ref 57, .ref 58, .ref 59, .ref 60, .ref 61, .int 0, .ref 62]),
  (10, List.replicate 12 (.int 0)),
  (12, List.replicate 12 (.int 0)),
  (10, List.replicate 12 (.int 0)),
  (10, List.replicate 12 (.int 0)),
  (10, List.replicate 12 (.int 0)),
  (10, List.replicate 12 (.int 0)),
  (10, List.replicate 12 (.int 0)),
  (10, List.replicate 12 (.int 0)),
  (10, List.replicate 12 (.int 0)),
  (10, List.replicate 12 (.int 0)),
  (12, List.replicate 11 (.int 0)),
  (10, List.replicate 11 (.int 0)),
  (10, List.replicate 200 (.int 0)),
  (6, [.int 0, .int 0, .ref 64, .ref 65, .ref 66, .ref 67, .ref 68, .ref 69, .ref 70, .ref 71, .ref 72, .ref 73, .ref 74, .ref 75, .int 0, .ref 76]),
  (10, List.replicate 12 (.int 0)),
  (12, List.replicate 12 (.int 0)),
  (10, List.replicate 12 (.int 0)),
  (10, List.replicate 12 (.int 0)),
  (10, List.replicate 12 (.int 0)),
  (10, List.replicate 12 (.int 0)),
  (10, List.replicate 12 (.int 0)),
  (10, List.replicate 12 (.int 0)),
  (10, List.replicate 12 (.int 0)),
  (10, List.replicate 12 (.int 0)),
  (12, List.replicate 11 (.int 0)),
  (10, List.replicate 11 (.int 0)),
  (10, List.replicate 200 (.int 0)),
  (0, [.int 0, .int 0, .ref 78]),
  (13, [.ref 79, .ref 93, .ref 107, .ref 121, .ref 135, .null, .null, .null, .null, .null, .null, .null, .null, .null, .null, .null, .null, .null, .null, .null]),
  (6, [.int 0, .int 0, .ref 80, .ref 81, .ref 82, .ref 83, .ref 84, .ref 85, .ref 86, .ref 87, .ref 88, .ref 89, .ref 90, .ref 91, .int 0, .ref 92]),
  (10, List.replicate 12 (.int 0)),
  (12, List.replicate 12 (.int 0)),
  (10, List.replicate 12 (.int 0)),
  (10, List.replicate 12 (.int 0)),
  (10, List.replicate 12 (.int 0)),
  (10, List.replicate 12 (.int 0)),
  (10, List.replicate 12 (.int 0)),
  (10, List.replicate 12 (.int 0)),
  (10, List.replicate 12 (.int 0)),
  (10, List.replicate 12 (.int 0)),
  (12, List.replicate 11 (.int 0)),
  (10, List.replicate 11 (.int 0)),
  (10, List.replicate 200 (.int 0)),
  (6, [.int 0, .int 0, .ref 94, .ref 95, .ref 96, .ref 97, .ref 98, .ref 99, .ref 100, .ref 101, .ref 102, .ref 103, .ref 104, .ref 105, .int 0, .ref 106]),
  (10, List.replicate 12 (.int 0)),
  (12, List.replicate 12 (.int 0)),
  (10, List.replicate 12 (.int 0)),
  (10, List.replicate 12 (.int 0)),
  (10, List.replicate 12 (.int 0)),
  (10, List.replicate 12 (.int 0)),
  (10, List.replicate 12 (.int 0)),
  (10, List.replicate 12 (.int 0)),
  (10, List.replicate 12 (.int 0)),
  (10, List.replicate 12 (.int 0)),
  (12, List.replicate 11 (.int 0)),
  (10, List.replicate 11 (.int 0)),
  (10, List.replicate 200 (.int 0)),
  (6, [.int 0, .int 0, .ref 108, .ref 109, .ref 110, .ref 111, .ref 112, .ref 113, .ref 114, .ref 115, .ref 116, .ref 117, .ref 118, .ref 119, .int 0, .ref 120]),
  (10, List.replicate 12 (.int 0)),
  (12, List.replicate 12 (.int 0)),
  (10, List.replicate 12 (.int 0)),
  (10, List.replicate 12 (.int 0)),
  (10, List.replicate 12 (.int 0)),
  (10, List.replicate 12 (.int 0)),
  (10, List.replicate 12 (.int 0)),
  (10, List.replicate 12 (.int 0)),
  (10, List.replicate 12 (.int 0)),
  (10, List.replicate 12 (.int 0)),
  (12, List.replicate 11 (.int 0)),
  (10, List.replicate 11 (.int 0)),
  (10, List.replicate 200 (.int 0)),
  (6, [.int 0, .int 0, .ref 122, .ref 123, .ref 124, .ref 125, .ref 126, .ref 127, .ref 128, .ref 129, .ref 130, .ref 131, .ref 132, .ref 133, .int 0, .ref 134]),
  (10, List.replicate 12 (.int 0)),
  (12, List.replicate 12 (.int 0)),
  (10, List.replicate 12 (.int 0)),
  (10, List.replicate 12 (.int 0)),
  (10, List.replicate 12 (.int 0)),
  (10, List.replicate 12 (.int 0)),
  (10, List.replicate 12 (.int 0)),
  (10, List.replicate 12 (.int 0)),
  (10, List.replicate 12 (.int 0)),
  (10, List.replicate 12 (.int 0)),
  (12, List.replicate 11 (.int 0)),
  (10, List.replicate 11 (.int 0)),
  (10, List.replicate 200 (.int 0)),
  (6, [.int 0, .int 0, .ref 136, .ref 137, .ref 138, .ref 139, .ref 140, .ref 141, .ref 142, .ref 143, .ref 144, .ref 145, .ref 146, .ref 147, .int 0, .ref 148]),
  (10, List.replicate 12 (.int 0)),
  (12, List.replicate 12 (.int 0)),
  (10, List.replicate 12 (.int 0)),
  (10, List.replicate 12 (.int 0)),
  (10, List.replicate 12 (.int 0)),
  (10, List.replicate 12 (.int 0)),
  (10, List.replicate 12 (.int 0)),
  (10, List.replicate 12 (.int 0)),
  (10, List.replicate 12 (.int 0)),
  (10, List.replicate 12 (.int 0)),
  (12, List.replicate 11 (.int 0)),
  (10, List.replicate 11 (.int 0)),
  (10, List.replicate 200 (.int 0))])
def za2 : zS := (22, [some (.ref 77), some (.int 10)], [.ref 77], [(8, [.ref 1, .int 0, .ref 2, .ref 28, .ref 49, .ref 63, .null, .null, .null, .null, .null, .int 0, .null, .int 0, .null, .int 0]),
  (10, List.replicate 1600 (.int 0)),
  (5, [.int 0, .int (-1), .ref 3, .ref 4, .ref 5, .ref 6, .int 0, .int 0, .ref 7, .int 0, .int 0]),
  (10, [.int 5360102, .int 679716023, .int 9060516, .int 5342608, .int 189446445, .int 172280994, .int 667814, .int 26082, .int 626831, .int 20329136, .int 643382739, .int 21609735, .int 11634067, .int 641, .int 13669956, .int 7860, .int 20597804, .int 643419184, .int 642096, .int 529572, .int 464151, .int 591, .int 4545, .int 20974, .int 12673, .int 14637, .int 24621]),
  (10, List.replicate 1601 (.int 0)),
  (10, List.replicate 1601 (.int 0)),
  (10, List.replicate 1601 (.int 0)),
  (1, [.int 0, .int 0, .int 0, .ref 8, .ref 9, .ref 10, .ref 11, .ref 12, .ref 13, .ref 14, .ref 15, .ref 16, .ref 17, .ref 18, .ref 19, .ref 20]),
  (10, List.replicate 12 (.int 0)),
  (10, List.replicate 12 (.int 0)),
  (10, List.replicate 12 (.int 0)),
  (10, List.replicate 12 (.int 0)),
  (10, List.replicate 12 (.int 0)),
  (10, List.replicate 12 (.int 0)),
  (10, List.replicate 6 (.int 0)),
  (10, List.replicate 6 (.int 0)),
  (10, List.replicate 6 (.int 0)),
  (10, List.replicate 6 (.int 0)),
  (10, List.replicate 6 (.int 0)),
  (10, List.replicate 11 (.int 0)),
  (2, [.int 0, .int 0, .ref 21, .ref 22, .ref 23, .ref 24, .ref 25, .ref 26, .ref 27]),
  (10, List.replicate 1600 (.int 0)),
  (12, List.replicate 8 (.int 0)),
  (10, List.replicate 8 (.int 0)),
  (10, List.replicate 8 (.int 0)),
  (10, List.replicate 8 (.int 0)),
  (10, List.replicate 64 (.int 0)),
  (10, List.replicate 7 (.int 0)),
  (1, [.int 0, .int 0, .int 0, .ref 29, .ref 30, .ref 31, .ref 32, .ref 33, .ref 34, .ref 35, .ref 36, .ref 37, .ref 38, .ref 39, .ref 40, .ref 41]),
  (10, List.replicate 12 (.int 0)),
  (10, List.replicate 12 (.int 0)),
  (10, List.replicate 12 (.int 0)),
  (10, List.replicate 12 (.int 0)),
  (10, List.replicate 12 (.int 0)),
  (10, List.replicate 12 (.int 0)),
  (10, List.replicate 6 (.int 0)),
  (10, List.replicate 6 (.int 0)),
  (10, List.replicate 6 (.int 0)),
  (10, List.replicate 6 (.int 0)),
  (10, List.replicate 6 (.int 0)),
  (10, List.replicate 11 (.int 0)),
  (2, [.int 0, .int 0, .ref 42, .ref 43, .ref 44, .ref 45, .ref 46, .ref 47, .ref 48]),
  (10, List.replicate 1600 (.int 0)),
  (12, List.replicate 8 (.int 0)),
  (10, List.replicate 8 (.int 0)),
  (10, List.replicate 8 (.int 0)),
  (10, List.replicate 8 (.int 0)),
  (10, List.replicate 64 (.int 0)),
  (10, List.replicate 7 (.int 0)),
  (6, [.int 0, .int 0, .ref 50, .ref 51, .ref 52, .ref 53, .ref 54, .ref 55, .ref 56, .ref 57, .ref 58, .ref 59, .ref 60, .ref 61, .int 0, .ref 62]),
  (10, List.replicate 12 (.int 0)),
  (12, List.replicate 12 (.int 0)),
  (10, List.replicate 12 (.int 0)),
  (10, List.replicate 12 (.int 0)),
  (10, List.replicate 12 (.int 0)),
  (10, List.replicate 12 (.int 0)),
  (10, List.replicate 12 (.int 0)),
  (10, List.replicate 12 (.int 0)),
  (10, List.replicate 12 (.int 0)),
  (10, List.replicate 12 (.int 0)),
  (12, List.replicate 11 (.int 0)),
  (10, List.replicate 11 (.int 0)),
  (10, List.replicate 200 (.int 0)),
  (6, [.int 0, .int 0, .ref 64, .ref 65, .ref 66, .ref 67, .ref 68, .ref 69, .ref 70, .ref 71, .ref 72, .ref 73, .ref 74, .ref 75, .int 0, .ref 76]),
  (10, List.replicate 12 (.int 0)),
  (12, List.replicate 12 (.int 0)),
  (10, List.replicate 12 (.int 0)),
  (10, List.replicate 12 (.int 0)),
  (10, List.replicate 12 (.int 0)),
  (10, List.replicate 12 (.int 0)),
  (10, List.replicate 12 (.int 0)),
  (10, List.replicate 12 (.int 0)),
  (10, List.replicate 12 (.int 0)),
  (10, List.replicate 12 (.int 0)),
  (12, List.replicate 11 (.int 0)),
  (10, List.replicate 11 (.int 0)),
  (10, List.replicate 200 (.int 0)),
  (0, [.int 0, .int 0, .ref 78]),
  (13, [.ref 79, .ref 93, .ref 107, .ref 121, .ref 135, .ref 149, .ref 163, .ref 177, .ref 191, .ref 205, .null, .null, .null, .null, .null, .null, .null, .null, .null, .null]),
  (6, [.int 0, .int 0, .ref 80, .ref 81, .ref 82, .ref 83, .ref 84, .ref 85, .ref 86, .ref 87, .ref 88, .ref 89, .ref 90, .ref 91, .int 0, .ref 92]),
  (10, List.replicate 12 (.int 0)),
  (12, List.replicate 12 (.int 0)),
  (10, List.replicate 12 (.int 0)),
  (10, List.replicate 12 (.int 0)),
  (10, List.replicate 12 (.int 0)),
  (10, List.replicate 12 (.int 0)),
  (10, List.replicate 12 (.int 0)),
  (10, List.replicate 12 (.int 0)),
  (10, List.replicate 12 (.int 0)),
  (10, List.replicate 12 (.int 0)),
  (12, List.replicate 11 (.int 0)),
  (10, List.replicate 11 (.int 0)),
  (10, List.replicate 200 (.int 0)),
  (6, [.int 0, .int 0, .ref 94, .ref 95, .ref 96, .ref 97, .ref 98, .ref 99, .ref 100, .ref 101, .ref 102, .ref 103, .ref 104, .ref 105, .int 0, .ref 106]),
  (10, List.replicate 12 (.int 0)),
  (12, List.replicate 12 (.int 0)),
  (10, List.replicate 12 (.int 0)),
  (10, List.replicate 12 (.int 0)),
  (10, List.replicate 12 (.int 0)),
  (10, List.replicate 12 (.int 0)),
  (10, List.replicate 12 (.int 0)),
  (10, List.replicate 12 (.int 0)),
  (10, List.replicate 12 (.int 0)),
  (10, List.replicate 12 (.int 0)),
  (12, List.replicate 11 (.int 0)),
  (10, List.replicate 11 (.int 0)),
  (10, List.replicate 200 (.int 0)),
  (6, [.int 0, .int 0, .ref 108, .ref 109, .ref 110, .ref 111, .ref 112, .ref 113, .ref 114, .ref 115, .ref 116, .ref 117, .ref 118, .ref 119, .int 0, .ref 120]),
  (10, List.replicate 12 (.int 0)),
  (12, List.replicate 12 (.int 0)),
  (10, List.replicate 12 (.int 0)),
  (10, List.replicate 12 (.int 0)),
  (10, List.replicate 12 (.int 0)),
  (10, List.replicate 12 (.int 0)),
  (10, List.replicate 12 (.int 0)),
  (10, List.replicate 12 (.int 0)),
  (10, List.replicate 12 (.int 0)),
  (10, List.replicate 12 (.int 0)),
  (12, List.replicate 11 (.int 0)),
  (10, List.replicate 11 (.int 0)),
  (10, List.replicate 200 (.int 0)),
  (6, [.int 0, .int 0, .ref 122, .ref 123, .ref 124, .ref 125, .ref 126, .ref 127, .ref 128, .ref 129, .ref 130, .ref 131, .ref 132, .ref 133, .int 0, .ref 134]),
  (10, List.replicate 12 (.int 0)),
  (12, List.replicate 12 (.int 0)),
  (10, List.replicate 12 (.int 0)),
  (10, List.replicate 12 (.int 0)),
  (10, List.replicate 12 (.int 0)),
  (10, List.replicate 12 (.int 0)),
  (10, List.replicate 12 (.int 0)),
  (10, List.replicate 12 (.int 0)),
  (10, List.replicate 12 (.int 0)),
  (10, List.replicate 12 (.int 0)),
  (12, List.replicate 11 (.int 0)),
  (10, List.replicate 11 (.int 0)),
  (10, List.replicate 200 (.int 0)),
  (6, [.int 0, .int 0, .ref 136, .ref 137, .ref 138, .ref 139, .ref 140, .ref 141, .ref 142, .ref 143, .ref 144, .ref 145, .ref 146, .ref 147, .int 0, .ref 148]),
  (10, List.replicate 12 (.int 0)),
  (12, List.replicate 12 (.int 0)),
  (10, List.replicate 12 (.int 0)),
  (10, List.replicate 12 (.int 0)),
  (10, List.replicate 12 (.int 0)),
  (10, List.replicate 12 (.int 0)),
  (10, List.replicate 12 (.int 0)),
  (10, List.replicate 12 (.int 0)),
  (10, List.replicate 12 (.int 0)),
  (10, List.replicate 12 (.int 0)),
  (12, List.replicate 11 (.int 0)),
  (10, List.replicate 11 (.int 0)),
  (10, List.replicate 200 (.int 0)),
  (6, [.int 0, .int 0, .ref 150, .ref 151, .ref 152, .ref 153, .ref 154, .ref 155, .ref 156, .ref 157, .ref 158, .ref 159, .ref 160, .ref 161, .int 0, .ref 162]),
  (10, List.replicate 12 (.int 0)),
  (12, List.replicate 12 (.int 0)),
  (10, List.replicate 12 (.int 0)),
  (10, List.replicate 12 (.int 0)),
  (10, List.replicate 12 (.int 0)),
  (10, List.replicate 12 (.int 0)),
  (10, List.replicate 12 (.int 0)),
  (10, List.replicate 12 (.int 0)),
  (10, List.replicate 12 (.int 0)),
  (10, List.replicate 12 (.int 0)),
  (12, List.replicate 11 (.int 0)),
  (10, List.replicate 11 (.int 0)),
  (10, List.replicate 200 (.int 0)),
  (6, [.int 0, .int 0, .ref 164, .ref 165, .ref 166, .ref 167, .ref 168, .ref 169, .ref 170, .ref 171, .ref 172, .ref 173, .ref 174, .ref 175, .int 0, .ref 176]),
  (10, List.replicate 12 (.int 0)),
  (12, List.replicate 12 (.int 0)),
  (10, List.replicate 12 (.int 0)),
  (10, List.replicate 12 (.int 0)),
  (10, List.replicate 12 (.int 0)),
  (10, List.replicate 12 (.int 0)),
  (10, List.replicate 12 (.int 0)),
  (10, List.replicate 12 (.int 0)),
  (10, List.replicate 12 (.int 0)),
  (10, List.replicate 12 (.int 0)),
  (12, List.replicate 11 (.int 0)),
  (10, List.replicate 11 (.int 0)),
  (10, List.replicate 200 (.int 0)),
  (6, [.int 0, .int 0, .ref 178, .ref 179, .ref 180, .ref 181, .ref 182, .ref 183, .ref 184, .ref 185, .ref 186, .ref 187, .ref 188, .ref 189, .int 0, .ref 190]),
  (10, List.replicate 12 (.int 0)),
  (12, List.replicate 12 (.int 0)),
  (10, List.replicate 12 (.int 0)),
  (10, List.replicate 12 (.int 0)),
  (10, List.replicate 12 (.int 0)),
  (10, List.replicate 12 (.int 0)),
  (10, List.replicate 12 (.int 0)),
  (10, List.replicate 12 (.int 0)),
  (10, List.replicate 12 (.int 0)),
  (10, List.replicate 12 (.int 0)),
  (12, List.replicate 11 (.int 0)),
  (10, List.replicate 11 (.int 0)),
  (10, List.replicate 200 (.int 0)),
  (6, [.int 0, .int 0, .ref 192, .ref 193, .ref 194, .ref 195, .ref 196, .ref 197, .ref 198, .ref 199, .ref 200, .ref 201, .ref 202, .ref 203, .int 0, .ref 204]),
  (10, List.replicate 12 (.int 0)),
  (12, List.replicate 12 (.int 0)),
  (10, List.replicate 12 (.int 0)),
  (10, List.replicate 12 (.int 0)),
  (10, List.replicate 12 (.int 0)),
  (10, List.replicate 12 (.int 0)),
  (10, List.replicate 12 (.int 0)),
  (10, List.replicate 12 (.int 0)),
  (10, List.replicate 12 (.int 0)),
  (10, List.replicate 12 (.int 0)),
  (12, List.replicate 11 (.int 0)),
  (10, List.replicate 11 (.int 0)),
  (10, List.replicate 200 (.int 0)),
  (6, [.int 0, .int 0, .ref 206, .ref 207, .ref 208, .ref 209, .ref 210, .ref 211, .ref 212, .ref 213, .ref 214, .ref 215, .ref 216, .ref 217, .int 0, .ref 218]),
  (10, List.replicate 12 (.int 0)),
  (12, List.replicate 12 (.int 0)),
  (10, List.replicate 12 (.int 0)),
  (10, List.replicate 12 (.int 0)),
  (10, List.replicate 12 (.int 0)),
  (10, List.replicate 12 (.int 0)),
  (10, List.replicate 12 (.int 0)),
  (10, List.replicate 12 (.int 0)),
  (10, List.replicate 12 (.int 0)),
  (10, List.replicate 12 (.int 0)),
  (12, List.replicate 11 (.int 0)),
  (10, List.replicate 11 (.int 0)),
  (10, List.replicate 200 (.int 0))])
def za3 : zS := (34, [some (.ref 77), some (.int 15)], [], [(8, [.ref 1, .int 0, .ref 2, .ref 28, .ref 49, .ref 63, .null, .null, .null, .null, .null, .int 0, .null, .int 0, .null, .int 0]),
  (10, List.replicate 1600 (.int 0)),
  (5, [.int 0, .int (-1), .ref 3, .ref 4, .ref 5, .ref 6, .int 0, .int 0, .ref 7, .int 0, .int 0]),
  (10, [.int 5360102, .int 679716023, .int 9060516, .int 5342608, .int 189446445, .int 172280994, .int 667814, .int 26082, .int 626831, .int 20329136, .int 643382739, .int 21609735, .int 11634067, .int 641, .int 13669956, .int 7860, .int 20597804, .int 643419184, .int 642096, .int 529572, .int 464151, .int 591, .int 4545, .int 20974, .int 12673, .int 14637, .int 24621]),
  (10, List.replicate 1601 (.int 0)),
  (10, List.replicate 1601 (.int 0)),
  (10, List.replicate 1601 (.int 0)),
  (1, [.int 0, .int 0, .int 0, .ref 8, .ref 9, .ref 10, .ref 11, .ref 12, .ref 13, .ref 14, .ref 15, .ref 16, .ref 17, .ref 18, .ref 19, .ref 20]),
  (10, List.replicate 12 (.int 0)),
  (10, List.replicate 12 (.int 0)),
  (10, List.replicate 12 (.int 0)),
  (10, List.replicate 12 (.int 0)),
  (10, List.replicate 12 (.int 0)),
  (10, List.replicate 12 (.int 0)),
  (10, List.replicate 6 (.int 0)),
  (10, List.replicate 6 (.int 0)),
  (10, List.replicate 6 (.int 0)),
  (10, List.replicate 6 (.int 0)),
  (10, List.replicate 6 (.int 0)),
  (10, List.replicate 11 (.int 0)),
  (2, [.int 0, .int 0, .ref 21, .ref 22, .ref 23, .ref 24, .ref 25, .ref 26, .ref 27]),
  (10, List.replicate 1600 (.int 0)),
  (12, List.replicate 8 (.int 0)),
  (10, List.replicate 8 (.int 0)),
  (10, List.replicate 8 (.int 0)),
  (10, List.replicate 8 (.int 0)),
  (10, List.replicate 64 (.int 0)),
  (10, List.replicate 7 (.int 0)),
  (1, [.int 0, .int 0, .int 0, .ref 29, .ref 30, .ref 31, .ref 32, .ref 33, .ref 34, .ref 35, .ref 36, .ref 37, .ref 38, .ref 39, .ref 40, .ref 41]),
  (10, List.replicate 12 (.int 0)),
  (10, List.replicate 12 (.int 0)),
  (10, List.replicate 12 (.int 0)),
  (10, List.replicate 12 (.int 0)),
  (10, List.replicate 12 (.int 0)),
  (10, List.replicate 12 (.int 0)),
  (10, List.replicate 6 (.int 0)),
  (10, List.replicate 6 (.int 0)),
  (10, List.replicate 6 (.int 0)),
  (10, List.replicate 6 (.int 0)),
  (10, List.replicate 6 (.int 0)),
  (10, List.replicate 11 (.int 0)),
  (2, [.int 0, .int 0, .ref 42, .ref 43, .ref 44, .ref 45, .ref 46, .ref 47, .ref 48]),
  (10, List.replicate 1600 (.int 0)),
  (12, List.replicate 8 (.int 0)),
  (10, List.replicate 8 (.int 0)),
  (10, List.replicate 8 (.int 0)),
  (10, List.replicate 8 (.int 0)),
  (10, List.replicate 64 (.int 0)),
  (10, List.replicate 7 (.int 0)),
  (6, [.int 0, .int 0, .ref 50, .ref 51, .ref 52, .ref 53, .ref 54, .ref 55, .ref 56, .ref 57, .ref 58, .ref 59, .ref 60, .ref 61, .int 0, .ref 62]),
  (10, List.replicate 12 (.int 0)),
  (12, List.replicate 12 (.int 0)),
  (10, List.replicate 12 (.int 0)),
  (10, List.replicate 12 (.int 0)),
  (10, List.replicate 12 (.int 0)),
  (10, List.replicate 12 (.int 0)),
  (10, List.replicate 12 (.int 0)),
  (10, List.replicate 12 (.int 0)),
  (10, List.replicate 12 (.int 0)),
  (10, List.replicate 12 (.int 0)),
  (12, List.replicate 11 (.int 0)),
  (10, List.replicate 11 (.int 0)),
  (10, List.replicate 200 (.int 0)),
  (6, [.int 0, .int 0, .ref 64, .ref 65, .ref 66, .ref 67, .ref 68, .ref 69, .ref 70, .ref 71, .ref 72, .ref 73, .ref 74, .ref 75, .int 0, .ref 76]),
  (10, List.replicate 12 (.int 0)),
  (12, List.replicate 12 (.int 0)),
  (10, List.replicate 12 (.int 0)),
  (10, List.replicate 12 (.int 0)),
  (10, List.replicate 12 (.int 0)),
  (10, List.replicate 12 (.int 0)),
  (10, List.replicate 12 (.int 0)),
  (10, List.replicate 12 (.int 0)),
  (10, List.replicate 12 (.int 0)),
  (10, List.replicate 12 (.int 0)),
  (12, List.replicate 11 (.int 0)),
  (10, List.replicate 11 (.int 0)),
  (10, List.replicate 200 (.int 0)),
  (0, [.int 0, .int 0, .ref 78]),
  (13, [.ref 79, .ref 93, .ref 107, .ref 121, .ref 135, .ref 149, .ref 163, .ref 177, .ref 191, .ref 205, .ref 219, .ref 233, .ref 247, .ref 261, .ref 275, .ref 289, .null, .null, .null, .null]),
  (6, [.int 0, .int 0, .ref 80, .ref 81, .ref 82, .ref 83, .ref 84, .ref 85, .ref 86, .ref 87, .ref 88, .ref 89, .ref 90, .ref 91, .int 0, .ref 92]),
  (10, List.replicate 12 (.int 0)),
  (12, List.replicate 12 (.int 0)),
  (10, List.replicate 12 (.int 0)),
  (10, List.replicate 12 (.int 0)),
  (10, List.replicate 12 (.int 0)),
  (10, List.replicate 12 (.int 0)),
  (10, List.replicate 12 (.int 0)),
  (10, List.replicate 12 (.int 0)),
  (10, List.replicate 12 (.int 0)),
  (10, List.replicate 12 (.int 0)),
  (12, List.replicate 11 (.int 0)),
  (10, List.replicate 11 (.int 0)),
  (10, List.replicate 200 (.int 0)),
  (6, [.int 0, .int 0, .ref 94, .ref 95, .ref 96, .ref 97, .ref 98, .ref 99, .ref 100, .ref 101, .ref 102, .ref 103, .ref 104, .ref 105, .int 0, .ref 106]),
  (10, List.replicate 12 (.int 0)),
  (12, List.replicate 12 (.int 0)),
  (10, List.replicate 12 (.int 0)),
  (10, List.replicate 12 (.int 0)),
  (10, List.replicate 12 (.int 0)),
  (10, List.replicate 12 (.int 0)),
  (10, List.replicate 12 (.int 0)),
  (10, List.replicate 12 (.int 0)),
  (10, List.replicate 12 (.int 0)),
  (10, List.replicate 12 (.int 0)),
  (12, List.replicate 11 (.int 0)),
  (10, List.replicate 11 (.int 0)),
  (10, List.replicate 200 (.int 0)),
  (6, [.int 0, .int 0, .ref 108, .ref 109, .ref 110, .ref 111, .ref 112, .ref 113, .ref 114, .ref 115, .ref 116, .ref 117, .ref 118, .ref 119, .int 0, .ref 120]),
  (10, List.replicate 12 (.int 0)),
  (12, List.replicate 12 (.int 0)),
  (10, List.replicate 12 (.int 0)),
  (10, List.replicate 12 (.int 0)),
  (10, List.replicate 12 (.int 0)),
  (10, List.replicate 12 (.int 0)),
  (10, List.replicate 12 (.int 0)),
  (10, List.replicate 12 (.int 0)),
  (10, List.replicate 12 (.int 0)),
  (10, List.replicate 12 (.int 0)),
  (12, List.replicate 11 (.int 0)),
  (10, List.replicate 11 (.int 0)),
  (10, List.replicate 200 (.int 0)),
  (6, [.int 0, .int 0, .ref 122, .ref 123, .ref 124, .ref 125, .ref 126, .ref 127, .ref 128, .ref 129, .ref 130, .ref 131, .ref 132, .ref 133, .int 0, .ref 134]),
  (10, List.replicate 12 (.int 0)),
  (12, List.replicate 12 (.int 0)),
  (10, List.replicate 12 (.int 0)),
  (10, List.replicate 12 (.int 0)),
  (10, List.replicate 12 (.int 0)),
  (10, List.replicate 12 (.int 0)),
  (10, List.replicate 12 (.int 0)),
  (10, List.replicate 12 (.int 0)),
  (10, List.replicate 12 (.int 0)),
  (10, List.replicate 12 (.int 0)),
  (12, List.replicate 11 (.int 0)),
  (10, List.replicate 11 (.int 0)),
  (10, List.replicate 200 (.int 0)),
  (6, [.int 0, .int 0, .ref 136, .ref 137, .ref 138, .ref 139, .ref 140, .ref 141, .ref 142, .ref 143, .ref 144, .ref 145, .ref 146, .ref 147, .int 0, .ref 148]),
  (10, List.replicate 12 (.int 0)),
  (12, List.replicate 12 (.int 0)),
  (10, List.replicate 12 (.int 0)),
  (10, List.replicate 12 (.int 0)),
  (10, List.replicate 12 (.int 0)),
  (10, List.replicate 12 (.int 0)),
  (10, List.replicate 12 (.int 0)),
  (10, List.replicate 12 (.int 0)),
  (10, List.replicate 12 (.int 0)),
  (10, List.replicate 12 (.int 0)),
  (12, List.replicate 11 (.int 0)),
  (10, List.replicate 11 (.int 0)),
  (10, List.replicate 200 (.int 0)),
  (6, [.int 0, .int 0, .ref 150, .ref 151, .ref 152, .ref 153, .ref 154, .ref 155, .ref 156, .ref 157, .ref 158, .ref 159, .ref 160, .ref 161, .int 0, .ref 162]),
  (10, List.replicate 12 (.int 0)),
  (12, List.replicate 12 (.int 0)),
  (10, List.replicate 12 (.int 0)),
  (10, List.replicate 12 (.int 0)),
  (10, List.replicate 12 (.int 0)),
  (10, List.replicate 12 (.int 0)),
  (10, List.replicate 12 (.int 0)),
  (10, List.replicate 12 (.int 0)),
  (10, List.replicate 12 (.int 0)),
  (10, List.replicate 12 (.int 0)),
  (12, List.replicate 11 (.int 0)),
  (10, List.replicate 11 (.int 0)),
  (10, List.replicate 200 (.int 0)),
  (6, [.int 0, .int 0, .ref 164, .ref 165, .ref 166, .ref 167, .ref 168, .ref 169, .ref 170, .ref 171, .ref 172, .ref 173, .ref 174, .ref 175, .int 0, .ref 176]),
  (10, List.replicate 12 (.int 0)),
  (12, List.replicate 12 (.int 0)),
  (10, List.replicate 12 (.int 0)),
  (10, List.replicate 12 (.int 0)),
  (10, List.replicate 12 (.int 0)),
  (10, List.replicate 12 (.int 0)),
  (10, List.replicate 12 (.int 0)),
  (10, List.replicate 12 (.int 0)),
  (10, List.replicate 12 (.int 0)),
  (10, List.replicate 12 (.int 0)),
  (12, List.replicate 11 (.int 0)),
  (10, List.replicate 11 (.int 0)),
  (10, List.replicate 200 (.int 0)),
  (6, [.int 0, .int 0, .ref 178, .ref 179, .ref 180, .ref 181, .ref 182, .ref 183, .ref 184, .ref 185, .ref 186, .ref 187, .ref 188, .ref 189, .int 0, .ref 190]),
  (10, List.replicate 12 (.int 0)),
  (12, List.replicate 12 (.int 0)),
  (10, List.replicate 12 (.int 0)),
  (10, List.replicate 12 (.int 0)),
  (10, List.replicate 12 (.int 0)),
  (10, List.replicate 12 (.int 0)),
  (10, List.replicate 12 (.int 0)),
  (10, List.replicate 12 (.int 0)),
  (10, List.replicate 12 (.int 0)),
  (10, List.replicate 12 (.int 0)),
  (12, List.replicate 11 (.int 0)),
  (10, List.replicate 11 (.int 0)),
  (10, List.replicate 200 (.int 0)),
  (6, [.int 0, .int 0, .ref 192, .ref 193, .ref 194, .ref 195, .ref 196, .ref 197, .ref 198, .ref 199, .ref 200, .ref 201, .ref 202, .ref 203, .int 0, .ref 204]),
  (10, List.replicate 12 (.int 0)),
  (12, List.replicate 12 (.int 0)),
  (10, List.replicate 12 (.int 0)),
  (10, List.replicate 12 (.int 0)),
  (10, List.replicate 12 (.int 0)),
  (10, List.replicate 12 (.int 0)),
  (10, List.replicate 12 (.int 0)),
  (10, List.replicate 12 (.int 0)),
  (10, List.replicate 12 (.int 0)),
  (10, List.replicate 12 (.int 0)),
  (12, List.replicate 11 (.int 0)),
  (10, List.replicate 11 (.int 0)),
  (10, List.replicate 200 (.int 0)),
  (6, [.int 0, .int 0, .ref 206, .ref 207, .ref 208, .ref 209, .ref 210, .ref 211, .ref 212, .ref 213, .ref 214, .ref 215, .ref 216, .ref 217, .int 0, .ref 218]),
  (10, List.replicate 12 (.int 0)),
  (12, List.replicate 12 (.int 0)),
  (10, List.replicate 12 (.int 0)),
  (10, List.replicate 12 (.int 0)),
  (10, List.replicate 12 (.int 0)),
  (10, List.replicate 12 (.int 0)),
  (10, List.replicate 12 (.int 0)),
  (10, List.replicate 12 (.int 0)),
  (10, List.replicate 12 (.int 0)),
  (10, List.replicate 12 (.int 0)),
  (12, List.replicate 11 (.int 0)),
  (10, List.replicate 11 (.int 0)),
  (10, List.replicate 200 (.int 0)),
  (6, [.int 0, .int 0, .ref 220, .ref 221, .ref 222, .ref 223, .ref 224, .ref 225, .ref 226, .ref 227, .ref 228, .ref 229, .ref 230, .ref 231, .int 0, .ref 232]),
  (10, List.replicate 12 (.int 0)),
  (12, List.replicate 12 (.int 0)),
  (10, List.replicate 12 (.int 0)),
  (10, List.replicate 12 (.int 0)),
  (10, List.replicate 12 (.int 0)),
  (10, List.replicate 12 (.int 0)),
  (10, List.replicate 12 (.int 0)),
  (10, List.replicate 12 (.int 0)),
  (10, List.replicate 12 (.int 0)),
  (10, List.replicate 12 (.int 0)),
  (12, List.replicate 11 (.int 0)),
  (10, List.replicate 11 (.int 0)),
  (10, List.replicate 200 (.int 0)),
  (6, [.int 0, .int 0, .ref 234, .ref 235, .ref 236, .ref 237, .ref 238, .ref 239, .ref 240, .ref 241, .ref 242, .ref 243, .ref 244, .ref 245, .int 0, .ref 246]),
  (10, List.replicate 12 (.int 0)),
  (12, List.replicate 12 (.int 0)),
  (10, List.replicate 12 (.int 0)),
  (10, List.replicate 12 (.int 0)),
  (10, List.replicate 12 (.int 0)),
  (10, List.replicate 12 (.int 0)),
  (10, List.replicate 12 (.int 0)),
  (10, List.replicate 12 (.int 0)),
  (10, List.replicate 12 (.int 0)),
  (10, List.replicate 12 (.int 0)),
  (12, List.replicate 11 (.int 0)),
  (10, List.replicate 11 (.int 0)),
  (10, List.replicate 200 (.int 0)),
  (6, [.int 0, .int 0, .ref 248, .ref 249, .ref 250, .ref 251, .ref 252, .ref 253, .ref 254, .ref 255, .ref 256, .ref 257, .ref 258, .ref 259, .int 0, .ref 260]),
  (10, List.replicate 12 (.int 0)),
  (12, List.replicate 12 (.int 0)),
  (10, List.replicate 12 (.int 0)),
  (10, List.replicate 12 (.int 0)),
  (10, List.replicate 12 (.int 0)),
  (10, List.replicate 12 (.int 0)),
  (10, List.replicate 12 (.int 0)),
  (10, List.replicate 12 (.int 0)),
  (10, List.replicate 12 (.int 0)),
  (10, List.replicate 12 (.int 0)),
  (12, List.replicate 11 (.int 0)),
  (10, List.replicate 11 (.int 0)),
  (10, List.replicate 200 (.int 0)),
  (6, [.int 0, .int 0, .ref 262, .ref 263, .ref 264, .ref 265, .ref 266, .ref 267, .ref 268, .ref 269, .ref 270, .ref 271, .ref 272, .ref 273, .int 0, .ref 274]),
  (10, List.replicate 12 (.int 0)),
  (12, List.replicate 12 (.int 0)),
  (10, List.replicate 12 (.int 0)),
  (10, List.replicate 12 (.int 0)),
  (10, List.replicate 12 (.int 0)),
  (10, List.replicate 12 (.int 0)),
  (10, List.replicate 12 (.int 0)),
  (10, List.replicate 12 (.int 0)),
  (10, List.replicate 12 (.int 0)),
  (10, List.replicate 12 (.int 0)),
  (12, List.replicate 11 (.int 0)),
  (10, List.replicate 11 (.int 0)),
  (10, List.replicate 200 (.int 0)),
  (6, [.int 0, .int 0, .ref 276, .ref 277, .ref 278, .ref 279, .ref 280, .ref 281, .ref 282, .ref 283, .ref 284, .ref 285, .ref 286, .ref 287, .int 0, .ref 288]),
  (10, List.replicate 12 (.int 0)),
  (12, List.replicate 12 (.int 0)),
  (10, List.replicate 12 (.int 0)),
  (10, List.replicate 12 (.int 0)),
  (10, List.replicate 12 (.int 0)),
  (10, List.replicate 12 (.int 0)),
  (10, List.replicate 12 (.int 0)),
  (10, List.replicate 12 (.int 0)),
  (10, List.replicate 12 (.int 0)),
  (10, List.replicate 12 (.int 0)),
  (12, List.replicate 11 (.int 0)),
  (10, List.replicate 11 (.int 0)),
  (10, List.replicate 200 (.int 0)),
  (6, [.int 0, .int 0, .ref 290, .ref 291, .ref 292, .ref 293, .ref 294, .ref 295, .ref 296, .ref 297, .ref 298, .ref 299, .ref 300, .ref 301, .int 0, .ref 302]),
  (10, List.replicate 12 (.int 0)),
  (12, List.replicate 12 (.int 0)),
  (10, List.replicate 12 (.int 0)),
  (10, List.replicate 12 (.int 0)),
  (10, List.replicate 12 (.int 0)),
  (10, List.replicate 12 (.int 0)),
  (10, List.replicate 12 (.int 0)),
  (10, List.replicate 12 (.int 0)),
  (10, List.replicate 12 (.int 0)),
  (10, List.replicate 12 (.int 0)),
  (12, List.replicate 11 (.int 0)),
  (10, List.replicate 11 (.int 0)),
  (10, List.replicate 200 (.int 0))])
def za4 : zS := (40, [some (.ref 77), some (.int 20)], [], [(8, [.ref 1, .int 0, .ref 2, .ref 28, .ref 49, .ref 63, .null, .null, .null, .null, .null, .int 0, .null, .int 0, .null, .int 0]),
  (10, List.replicate 1600 (.int 0)),
  (5, [.int 0, .int (-1), .ref 3, .ref 4, .ref 5, .ref 6, .int 0, .int 0, .ref 7, .int 0, .int 0]),
  (10, [.int 5360102, .int 679716023, .int 9060516, .int 5342608, .int 189446445, .int 172280994, .int 667814, .int 26082, .int 626831, .int 20329136, .int 643382739, .int 21609735, .int 11634067, .int 641, .int 13669956, .int 7860, .int 20597804, .int 643419184, .int 642096, .int 529572, .int 464151, .int 591, .int 4545, .int 20974, .int 12673, .int 14637, .int 24621]),
  (10, List.replicate 1601 (.int 0)),
  (10, List.replicate 1601 (.int 0)),
  (10, List.replicate 1601 (.int 0)),
  (1, [.int 0, .int 0, .int 0, .ref 8, .ref 9, .ref 10, .ref 11, .ref 12, .ref 13, .ref 14, .ref 15, .ref 16, .ref 17, .ref 18, .ref 19, .ref 20]),
  (10, List.replicate 12 (.int 0)),
  (10, List.replicate 12 (.int 0)),
  (10, List.replicate 12 (.int 0)),
  (10, List.replicate 12 (.int 0)),
  (10, List.replicate 12 (.int 0)),
  (10, List.replicate 12 (.int 0)),
  (10, List.replicate 6 (.int 0)),
  (10, List.replicate 6 (.int 0)),
  (10, List.replicate 6 (.int 0)),
  (10, List.replicate 6 (.int 0)),
  (10, List.replicate 6 (.int 0)),
  (10, List.replicate 11 (.int 0)),
  (2, [.int 0, .int 0, .ref 21, .ref 22, .ref 23, .ref 24, .ref 25, .ref 26, .ref 27]),
  (10, List.replicate 1600 (.int 0)),
  (12, List.replicate 8 (.int 0)),
  (10, List.replicate 8 (.int 0)),
  (10, List.replicate 8 (.int 0)),
  (10, List.replicate 8 (.int 0)),
  (10, List.replicate 64 (.int 0)),
  (10, List.replicate 7 (.int 0)),
  (1, [.int 0, .int 0, .int 0, .ref 29, .ref 30, .ref 31, .ref 32, .ref 33, .ref 34, .ref 35, .ref 36, .ref 37, .ref 38, .ref 39, .ref 40, .ref 41]),
  (10, List.replicate 12 (.int 0)),
  (10, List.replicate 12 (.int 0)),
  (10, List.replicate 12 (.int 0)),
  (10, List.replicate 12 (.int 0)),
  (10, List.replicate 12 (.int 0)),
  (10, List.replicate 12 (.int 0)),
  (10, List.replicate 6 (.int 0)),
  (10, List.replicate 6 (.int 0)),
  (10, List.replicate 6 (.int 0)),
  (10, List.replicate 6 (.int 0)),
  (10, List.replicate 6 (.int 0)),
  (10, List.replicate 11 (.int 0)),
  (2, [.int 0, .int 0, .ref 42, .ref 43, .ref 44, .ref 45, .ref 46, .ref 47, .ref 48]),
  (10, List.replicate 1600 (.int 0)),
  (12, List.replicate 8 (.int 0)),
  (10, List.replicate 8 (.int 0)),
  (10, List.replicate 8 (.int 0)),
  (10, List.replicate 8 (.int 0)),
  (10, List.replicate 64 (.int 0)),
  (10, List.replicate 7 (.int 0)),
  (6, [.int 0, .int 0, .ref 50, .ref 51, .ref 52, .ref 53, .ref 54, .ref 55, .ref 56, .ref 57, .ref 58, .ref 59, .ref 60, .ref 61, .int 0, .ref 62]),
  (10, List.replicate 12 (.int 0)),
  (12, List.replicate 12 (.int 0)),
  (10, List.replicate 12 (.int 0)),
  (10, List.replicate 12 (.int 0)),
  (10, List.replicate 12 (.int 0)),
  (10, List.replicate 12 (.int 0)),
  (10, List.replicate 12 (.int 0)),
  (10, List.replicate 12 (.int 0)),
  (10, List.replicate 12 (.int 0)),
  (10, List.replicate 12 (.int 0)),
  (12, List.replicate 11 (.int 0)),
  (10, List.replicate 11 (.int 0)),
  (10, List.replicate 200 (.int 0)),
  (6, [.int 0, .int 0, .ref 64, .ref 65, .ref 66, .ref 67, .ref 68, .ref 69, .ref 70, .ref 71, .ref 72, .ref 73, .ref 74, .ref 75, .int 0, .ref 76]),
  (10, List.replicate 12 (.int 0)),
  (12, List.replicate 12 (.int 0)),
  (10, List.replicate 12 (.int 0)),
  (10, List.replicate 12 (.int 0)),
  (10, List.replicate 12 (.int 0)),
  (10, List.replicate 12 (.int 0)),
  (10, List.replicate 12 (.int 0)),
  (10, List.replicate 12 (.int 0)),
  (10, List.replicate 12 (.int 0)),
  (10, List.replicate 12 (.int 0)),
  (12, List.replicate 11 (.int 0)),
  (10, List.replicate 11 (.int 0)),
  (10, List.replicate 200 (.int 0)),
  (0, [.int 0, .int 0, .ref 78]),
  (13, [.ref 79, .ref 93, .ref 107, .ref 121, .ref 135, .ref 149, .ref 163, .ref 177, .ref 191, .ref 205, .ref 219, .ref 233, .ref 247, .ref 261, .ref 275, .ref 289, .ref 303, .ref 317, .ref 331, .ref 345]),
  (6, [.int 0, .int 0, .ref 80, .ref 81, .ref 82, .ref 83, .ref 84, .ref 85, .ref 86, .ref 87, .ref 88, .ref 89, .ref 90, .ref 91, .int 0, .ref 92]),
  (10, List.replicate 12 (.int 0)),
  (12, List.replicate 12 (.int 0)),
  (10, List.replicate 12 (.int 0)),
  (10, List.replicate 12 (.int 0)),
  (10, List.replicate 12 (.int 0)),
  (10, List.replicate 12 (.int 0)),
  (10, List.replicate 12 (.int 0)),
  (10, List.replicate 12 (.int 0)),
  (10, List.replicate 12 (.int 0)),
  (10, List.replicate 12 (.int 0)),
  (12, List.replicate 11 (.int 0)),
  (10, List.replicate 11 (.int 0)),
  (10, List.replicate 200 (.int 0)),
  (6, [.int 0, .int 0, .ref 94, .ref 95, .ref 96, .ref 97, .ref 98, .ref 99, .ref 100, .ref 101, .ref 102, .ref 103, .ref 104, .ref 105, .int 0, .ref 106]),
  (10, List.replicate 12 (.int 0)),
  (12, List.replicate 12 (.int 0)),
  (10, List.replicate 12 (.int 0)),
  (10, List.replicate 12 (.int 0)),
  (10, List.replicate 12 (.int 0)),
  (10, List.replicate 12 (.int 0)),
  (10, List.replicate 12 (.int 0)),
  (10, List.replicate 12 (.int 0)),
  (10, List.replicate 12 (.int 0)),
  (10, List.replicate 12 (.int 0)),
  (12, List.replicate 11 (.int 0)),
  (10, List.replicate 11 (.int 0)),
  (10, List.replicate 200 (.int 0)),
  (6, [.int 0, .int 0, .ref 108, .ref 109, .ref 110, .ref 111, .ref 112, .ref 113, .ref 114, .ref 115, .ref 116, .ref 117, .ref 118, .ref 119, .int 0, .ref 120]),
  (10, List.replicate 12 (.int 0)),
  (12, List.replicate 12 (.int 0)),
  (10, List.replicate 12 (.int 0)),
  (10, List.replicate 12 (.int 0)),
  (10, List.replicate 12 (.int 0)),
  (10, List.replicate 12 (.int 0)),
  (10, List.replicate 12 (.int 0)),
  (10, List.replicate 12 (.int 0)),
  (10, List.replicate 12 (.int 0)),
  (10, List.replicate 12 (.int 0)),
  (12, List.replicate 11 (.int 0)),
  (10, List.replicate 11 (.int 0)),
  (10, List.replicate 200 (.int 0)),
  (6, [.int 0, .int 0, .ref 122, .ref 123, .ref 124, .ref 125, .ref 126, .ref 127, .ref 128, .ref 129, .ref 130, .ref 131, .ref 132, .ref 133, .int 0, .ref 134]),
  (10, List.replicate 12 (.int 0)),
  (12, List.replicate 12 (.int 0)),
  (10, List.replicate 12 (.int 0)),
  (10, List.replicate 12 (.int 0)),
  (10, List.replicate 12 (.int 0)),
  (10, List.replicate 12 (.int 0)),
  (10, List.replicate 12 (.int 0)),
  (10, List.replicate 12 (.int 0)),
  (10, List.replicate 12 (.int 0)),
  (10, List.replicate 12 (.int 0)),
  (12, List.replicate 11 (.int 0)),
  (10, List.replicate 11 (.int 0)),
  (10, List.replicate 200 (.int 0)),
  (6, [.int 0, .int 0, .ref 136, .ref 137, .ref 138, .ref 139, .ref 140, .ref 141, .ref 142, .ref 143, .ref 144, .ref 145, .ref 146, .ref 147, .int 0, .ref 148]),
  (10, List.replicate 12 (.int 0)),
  (12, List.replicate 12 (.int 0)),
  (10, List.replicate 12 (.int 0)),
  (10, List.replicate 12 (.int 0)),
  (10, List.replicate 12 (.int 0)),
  (10, List.replicate 12 (.int 0)),
  (10, List.replicate 12 (.int 0)),
  (10, List.replicate 12 (.int 0)),
  (10, List.replicate 12 (.int 0)),
  (10, List.replicate 12 (.int 0)),
  (12, List.replicate 11 (.int 0)),
  (10, List.replicate 11 (.int 0)),
  (10, List.replicate 200 (.int 0)),
  (6, [.int 0, .int 0, .ref 150, .ref 151, .ref 152, .ref 153, .ref 154, .ref 155, .ref 156, .ref 157, .ref 158, .ref 159, .ref 160, .ref 161, .int 0, .ref 162]),
  (10, List.replicate 12 (.int 0)),
  (12, List.replicate 12 (.int 0)),
  (10, List.replicate 12 (.int 0)),
  (10, List.replicate 12 (.int 0)),
  (10, List.replicate 12 (.int 0)),
  (10, List.replicate 12 (.int 0)),
  (10, List.replicate 12 (.int 0)),
  (10, List.replicate 12 (.int 0)),
  (10, List.replicate 12 (.int 0)),
  (10, List.replicate 12 (.int 0)),
  (12, List.replicate 11 (.int 0)),
  (10, List.replicate 11 (.int 0)),
  (10, List.replicate 200 (.int 0)),
  (6, [.int 0, .int 0, .ref 164, .ref 165, .ref 166, .ref 167, .ref 168, .ref 169, .ref 170, .ref 171, .ref 172, .ref 173, .ref 174, .ref 175, .int 0, .ref 176]),
  (10, List.replicate 12 (.int 0)),
  (12, List.replicate 12 (.int 0)),
  (10, List.replicate 12 (.int 0)),
  (10, List.replicate 12 (.int 0)),
  (10, List.replicate 12 (.int 0)),
  (10, List.replicate 12 (.int 0)),
  (10, List.replicate 12 (.int 0)),
  (10, List.replicate 12 (.int 0)),
  (10, List.replicate 12 (.int 0)),
  (10, List.replicate 12 (.int 0)),
  (12, List.replicate 11 (.int 0)),
  (10, List.replicate 11 (.int 0)),
  (10, List.replicate 200 (.int 0)),
  (6, [.int 0, .int 0, .ref 178, .ref 179, .ref 180, .ref 181, .ref 182, .ref 183, .ref 184, .ref 185, .ref 186, .ref 187, .ref 188, .ref 189, .int 0, .ref 190]),
  (10, List.replicate 12 (.int 0)),
  (12, List.replicate 12 (.int 0)),
  (10, List.replicate 12 (.int 0)),
  (10, List.replicate 12 (.int 0)),
  (10, List.replicate 12 (.int 0)),
  (10, List.replicate 12 (.int 0)),
  (10, List.replicate 12 (.int 0)),
  (10, List.replicate 12 (.int 0)),
  (10, List.replicate 12 (.int 0)),
  (10, List.replicate 12 (.int 0)),
  (12, List.replicate 11 (.int 0)),
  (10, List.replicate 11 (.int 0)),
  (10, List.replicate 200 (.int 0)),
  (6, [.int 0, .int 0, .ref 192, .ref 193, .ref 194, .ref 195, .ref 196, .ref 197, .ref 198, .ref 199, .ref 200, .ref 201, .ref 202, .ref 203, .int 0, .ref 204]),
  (10, List.replicate 12 (.int 0)),
  (12, List.replicate 12 (.int 0)),
  (10, List.replicate 12 (.int 0)),
  (10, List.replicate 12 (.int 0)),
  (10, List.replicate 12 (.int 0)),
  (10, List.replicate 12 (.int 0)),
  (10, List.replicate 12 (.int 0)),
  (10, List.replicate 12 (.int 0)),
  (10, List.replicate 12 (.int 0)),
  (10, List.replicate 12 (.int 0)),
  (12, List.replicate 11 (.int 0)),
  (10, List.replicate 11 (.int 0)),
  (10, List.replicate 200 (.int 0)),
  (6, [.int 0, .int 0, .ref 206, .ref 207, .ref 208, .ref 209, .ref 210, .ref 211, .ref 212, .ref 213, .ref 214, .ref 215, .ref 216, .ref 217, .int 0, .ref 218]),
  (10, List.replicate 12 (.int 0)),
  (12, List.replicate 12 (.int 0)),
  (10, List.replicate 12 (.int 0)),
  (10, List.replicate 12 (.int 0)),
  (10, List.replicate 12 (.int 0)),
  (10, List.replicate 12 (.int 0)),
  (10, List.replicate 12 (.int 0)),
  (10, List.replicate 12 (.int 0)),
  (10, List.replicate 12 (.int 0)),
  (10, List.replicate 12 (.int 0)),
  (12, List.replicate 11 (.int 0)),
  (10, List.replicate 11 (.int 0)),
  (10, List.replicate 200 (.int 0)),
  (6, [.int 0, .int 0, .ref 220, .ref 221, .ref 222, .ref 223, .ref 224, .ref 225, .ref 226, .ref 227, .ref 228, .ref 229, .ref 230, .ref 231, .int 0, .ref 232]),
  (10, List.replicate 12 (.int 0)),
  (12, List.replicate 12 (.int 0)),
  (10, List.replicate 12 (.int 0)),
  (10, List.replicate 12 (.int 0)),
  (10, List.replicate 12 (.int 0)),
  (10, List.replicate 12 (.int 0)),
  (10, List.replicate 12 (.int 0)),
  (10, List.replicate 12 (.int 0)),
  (10, List.replicate 12 (.int 0)),
  (10, List.replicate 12 (.int 0)),
  (12, List.replicate 11 (.int 0)),
  (10, List.replicate 11 (.int 0)),
  (10, List.replicate 200 (.int 0)),
  (6, [.int 0, .int 0, .ref 234, .ref 235, .ref 236, .ref 237, .ref 238, .ref 239, .ref 240, .ref 241, .ref 242, .ref 243, .ref 244, .ref 245, .int 0, .ref 246]),
  (10, List.replicate 12 (.int 0)),
  (12, List.replicate 12 (.int 0)),
  (10, List.replicate 12 (.int 0)),
  (10, List.replicate 12 (.int 0)),
  (10, List.replicate 12 (.int 0)),
  (10, List.replicate 12 (.int 0)),
  (10, List.replicate 12 (.int 0)),
  (10, List.replicate 12 (.int 0)),
  (10, List.replicate 12 (.int 0)),
  (10, List.replicate 12 (.int 0)),
  (12, List.replicate 11 (.int 0)),
  (10, List.replicate 11 (.int 0)),
  (10, List.replicate 200 (.int 0)),
  (6, [.int 0, .int 0, .ref 248, .ref 249, .ref 250, .ref 251, .ref 252, .ref 253, .ref 254, .ref 255, .ref 256, .ref 257, .ref 258, .ref 259, .int 0, .ref 260]),
  (10, List.replicate 12 (.int 0)),
  (12, List.replicate 12 (.int 0)),
  (10, List.replicate 12 (.int 0)),
  (10, List.replicate 12 (.int 0)),
  (10, List.replicate 12 (.int 0)),
  (10, List.replicate 12 (.int 0)),
  (10, List.replicate 12 (.int 0)),
  (10, List.replicate 12 (.int 0)),
  (10, List.replicate 12 (.int 0)),
  (10, List.replicate 12 (.int 0)),
  (12, List.replicate 11 (.int 0)),
  (10, List.replicate 11 (.int 0)),
  (10, List.replicate 200 (.int 0)),
  (6, [.int 0, .int 0, .ref 262, .ref 263, .ref 264, .ref 265, .ref 266, .ref 267, .ref 268, .ref 269, .ref 270, .ref 271, .ref 272, .ref 273, .int 0, .ref 274]),
  (10, List.replicate 12 (.int 0)),
  (12, List.replicate 12 (.int 0)),
  (10, List.replicate 12 (.int 0)),
  (10, List.replicate 12 (.int 0)),
  (10, List.replicate 12 (.int 0)),
  (10, List.replicate 12 (.int 0)),
  (10, List.replicate 12 (.int 0)),
  (10, List.replicate 12 (.int 0)),
  (10, List.replicate 12 (.int 0)),
  (10, List.replicate 12 (.int 0)),
  (12, List.replicate 11 (.int 0)),
  (10, List.replicate 11 (.int 0)),
  (10, List.replicate 200 (.int 0)),
  (6, [.int 0, .int 0, .ref 276, .ref 277, .ref 278, .ref 279, .ref 280, .ref 281, .ref 282, .ref 283, .ref 284, .ref 285, .ref 286, .ref 287, .int 0, .ref 288]),
  (10, List.replicate 12 (.int 0)),
  (12, List.replicate 12 (.int 0)),
  (10, List.replicate 12 (.int 0)),
  (10, List.replicate 12 (.int 0)),
  (10, List.replicate 12 (.int 0)),
  (10, List.replicate 12 (.int 0)),
  (10, List.replicate 12 (.int 0)),
  (10, List.replicate 12 (.int 0)),
  (10, List.replicate 12 (.int 0)),
  (10, List.replicate 12 (.int 0)),
  (12, List.replicate 11 (.int 0)),
  (10, List.replicate 11 (.int 0)),
  (10, List.replicate 200 (.int 0)),
  (6, [.int 0, .int 0, .ref 290, .ref 291, .ref 292, .ref 293, .ref 294, .ref 295, .ref 296, .ref 297, .ref 298, .ref 299, .ref 300, .ref 301, .int 0, .ref 302]),
  (10, List.replicate 12 (.int 0)),
  (12, List.replicate 12 (.int 0)),
  (10, List.replicate 12 (.int 0)),
  (10, List.replicate 12 (.int 0)),
  (10, List.replicate 12 (.int 0)),
  (10, List.replicate 12 (.int 0)),
  (10, List.replicate 12 (.int 0)),
  (10, List.replicate 12 (.int 0)),
  (10, List.replicate 12 (.int 0)),
  (10, List.replicate 12 (.int 0)),
  (12, List.replicate 11 (.int 0)),
  (10, List.replicate 11 (.int 0)),
  (10, List.replicate 200 (.int 0)),
  (6, [.int 0, .int 0, .ref 304, .ref 305, .ref 306, .ref 307, .ref 308, .ref 309, .ref 310, .ref 311, .ref 312, .ref 313, .ref 314, .ref 315, .int 0, .ref 316]),
  (10, List.replicate 12 (.int 0)),
  (12, List.replicate 12 (.int 0)),
  (10, List.replicate 12 (.int 0)),
  (10, List.replicate 12 (.int 0)),
  (10, List.replicate 12 (.int 0)),
  (10, List.replicate 12 (.int 0)),
  (10, List.replicate 12 (.int 0)),
  (10, List.replicate 12 (.int 0)),
  (10, List.replicate 12 (.int 0)),
  (10, List.replicate 12 (.int 0)),
  (12, List.replicate 11 (.int 0)),
  (10, List.replicate 11 (.int 0)),
  (10, List.replicate 200 (.int 0)),
  (6, [.int 0, .int 0, .ref 318, .ref 319, .ref 320, .ref 321, .ref 322, .ref 323, .ref 324, .ref 325, .ref 326, .ref 327, .ref 328, .ref 329, .int 0, .ref 330]),
  (10, List.replicate 12 (.int 0)),
  (12, List.replicate 12 (.int 0)),
  (10, List.replicate 12 (.int 0)),
  (10, List.replicate 12 (.int 0)),
  (10, List.replicate 12 (.int 0)),
  (10, List.replicate 12 (.int 0)),
  (10, List.replicate 12 (.int 0)),
  (10, List.replicate 12 (.int 0)),
  (10, List.replicate 12 (.int 0)),
  (10, List.replicate 12 (.int 0)),
  (12, List.replicate 11 (.int 0)),
  (10, List.replicate 11 (.int 0)),
  (10, List.replicate 200 (.int 0)),
  (6, [.int 0, .int 0, .ref 332, .ref 333, .ref 334, .ref 335, .ref 336, .ref 337, .ref 338, .ref 339, .ref 340, .ref 341, .ref 342, .ref 343, .int 0, .ref 344]),
  (10, List.replicate 12 (.int 0)),
  (12, List.replicate 12 (.int 0)),
  (10, List.replicate 12 (.int 0)),
  (10, List.replicate 12 (.int 0)),
  (10, List.replicate 12 (.int 0)),
  (10, List.replicate 12 (.int 0)),
  (10, List.replicate 12 (.int 0)),
  (10, List.replicate 12 (.int 0)),
  (10, List.replicate 12 (.int 0)),
  (10, List.replicate 12 (.int 0)),
  (12, List.replicate 11 (.int 0)),
  (10, List.replicate 11 (.int 0)),
  (10, List.replicate 200 (.int 0)),
  (6, [.int 0, .int 0, .ref 346, .ref 347, .ref 348, .ref 349, .ref 350, .ref 351, .ref 352, .ref 353, .ref 354, .ref 355, .ref 356, .ref 357, .int 0, .ref 358]),
  (10, List.replicate 12 (.int 0)),
  (12, List.replicate 12 (.int 0)),
  (10, List.replicate 12 (.int 0)),
  (10, List.replicate 12 (.int 0)),
  (10, List.replicate 12 (.int 0)),
  (10, List.replicate 12 (.int 0)),
  (10, List.replicate 12 (.int 0)),
  (10, List.replicate 12 (.int 0)),
  (10, List.replicate 12 (.int 0)),
  (10, List.replicate 12 (.int 0)),
  (12, List.replicate 11 (.int 0)),
  (10, List.replicate 11 (.int 0)),
  (10, List.replicate 200 (.int 0))])
set_option maxRecDepth 1000000 in
theorem za0_ok : zgo (zstep 0 true none cX0_init [] (zev [] 2000 9)) 66 za0 = some za1 := by decide +kernel
set_option maxRecDepth 1000000 in
theorem za1_ok : zgo (zstep 0 true none cX0_init [] (zev [] 2000 9)) 66 za1 = some za2 := by decide +kernel
set_option maxRecDepth 1000000 in
theorem za2_ok : zgo (zstep 0 true none cX0_init [] (zev [] 2000 9)) 66 za2 = some za3 := by decide +kernel
set_option maxRecDepth 1000000 in
theorem za3_ok : zgo (zstep 0 true none cX0_init [] (zev [] 2000 9)) 53 za3 = some za4 := by decide +kernel
def zaE : zM := za4.2.2.2
set_option maxRecDepth 1000000 in
theorem za_fin : zout (zstep 0 true none cX0_init [] (fun _ _ _ => none)) za4 = some (none, zaE) := by decide +kernel
theorem za_all : ZC [] 10 0 [.ref 77] za0.2.2.2 (none, zaE) := by
  refine ZC.of (ci := 0) (na := 0) (y := yX0_init) (cc := cX0_init) (ml := 2) (ret := none) rfl (by decide) ?_
  show ZX [] 9 0 (decide (yX0_init.name = "<init>")) none cX0_init za0 (none, zaE)
  rw [show decide (yX0_init.name = "<init>") = true from by decide +kernel]
  refine ZX.go (zct 2000 9) _ za0_ok ?_
  refine ZX.go (zct 2000 9) _ za1_ok ?_
  refine ZX.go (zct 2000 9) _ za2_ok ?_
  refine ZX.go (zct 2000 9) _ za3_ok ?_
  exact ZX.gofin (zout_eq za_fin)
def zo0 : zS := (0, [some (.ref 0)], [], [(8, [.null, .int 0, .null, .null, .null, .null, .null, .null, .null, .null, .null, .int 0, .null, .int 0, .null, .int 0])])
def zo1 : zS := (18, [some (.ref 0)], [.ref 2, .ref 2, .ref 0], [(8, [.ref 1, .int 0, .null, .null, .null, .null, .null, .null, .null, .null, .null, .int 0, .null, .int 0, .null, .int 0]),
  (10, List.replicate 1600 (.int 0)),
  (5, [.int 0, .int 0, .null, .null, .null, .null, .int 0, .int 0, .null, .int 0, .int 0])])
def zo2 : zS := (21, [some (.ref 0)], [.ref 2, .ref 0], [(8, [.ref 1, .int 0, .null, .null, .null, .null, .null, .null, .null, .null, .null, .int 0, .null, .int 0, .null, .int 0]),
  (10, List.replicate 1600 (.int 0)),
  (5, [.int 0, .int (-1), .ref 3, .ref 4, .ref 5, .ref 6, .int 0, .int 0, .ref 7, .int 0, .int 0]),
  (10, [.int 5360102, .int 679716023, .int 9060516, .int 5342608, .int 189446445, .int 172280994, .int 667814, .int 26082, .int 626831, .int 20329136, .int 643382739, .int 21609735, .int 11634067, .int 641, .int 13669956, .int 7860, .int 20597804, .int 643419184, .int 642096, .int 529572, .int 464151, .int 591, .int 4545, .int 20974, .int 12673, .int 14637, .int 24621]),
  (10, List.replicate 1601 (.int 0)),
  (10, List.replicate 1601 (.int 0)),
  (10, List.replicate 1601 (.int 0)),
  (1, [.int 0, .int 0, .int 0, .ref 8, .ref 9, .ref 10, .ref 11, .ref 12, .ref 13, .ref 14, .ref 15, .ref 16, .ref 17, .ref 18, .ref 19, .ref 20]),
  (10, List.replicate 12 (.int 0)),
  (10, List.replicate 12 (.int 0)),
  (10, List.replicate 12 (.int 0)),
  (10, List.replicate 12 (.int 0)),
  (10, List.replicate 12 (.int 0)),
  (10, List.replicate 12 (.int 0)),
  (10, List.replicate 6 (.int 0)),
  (10, List.replicate 6 (.int 0)),
  (10, List.replicate 6 (.int 0)),
  (10, List.replicate 6 (.int 0)),
  (10, List.replicate 6 (.int 0)),
  (10, List.replicate 11 (.int 0)),
  (2, [.int 0, .int 0, .ref 21, .ref 22, .ref 23, .ref 24, .ref 25, .ref 26, .ref 27]),
  (10, List.replicate 1600 (.int 0)),
  (12, List.replicate 8 (.int 0)),
  (10, List.replicate 8 (.int 0)),
  (10, List.replicate 8 (.int 0)),
  (10, List.replicate 8 (.int 0)),
  (10, List.replicate 64 (.int 0)),
  (10, List.replicate 7 (.int 0))])
def zo3 : zS := (62, [some (.ref 0)], [.ref 77, .ref 77, .ref 0], [(8, [.ref 1, .int 0, .ref 2, .ref 28, .ref 49, .ref 63, .null, .null, .null, .null, .null, .int 0, .null, .int 0, .null, .int 0]),
  (10, List.replicate 1600 (.int 0)),
  (5, [.int 0, .int (-1), .ref 3, .ref 4, .ref 5, .ref 6, .int 0, .int 0, .ref 7, .int 0, .int 0]),
  (10, [.int 5360102, .int 679716023, .int 9060516, .int 5342608, .int 189446445, .int 172280994, .int 667814, .int 26082, .int 626831, .int 20329136, .int 643382739, .int 21609735, .int 11634067, .int 641, .int 13669956, .int 7860, .int 20597804, .int 643419184, .int 642096, .int 529572, .int 464151, .int 591, .int 4545, .int 20974, .int 12673, .int 14637, .int 24621]),
  (10, List.replicate 1601 (.int 0)),
  (10, List.replicate 1601 (.int 0)),
  (10, List.replicate 1601 (.int 0)),
  (1, [.int 0, .int 0, .int 0, .ref 8, .ref 9, .ref 10, .ref 11, .ref 12, .ref 13, .ref 14, .ref 15, .ref 16, .ref 17, .ref 18, .ref 19, .ref 20]),
  (10, List.replicate 12 (.int 0)),
  (10, List.replicate 12 (.int 0)),
  (10, List.replicate 12 (.int 0)),
  (10, List.replicate 12 (.int 0)),
  (10, List.replicate 12 (.int 0)),
  (10, List.replicate 12 (.int 0)),
  (10, List.replicate 6 (.int 0)),
  (10, List.replicate 6 (.int 0)),
  (10, List.replicate 6 (.int 0)),
  (10, List.replicate 6 (.int 0)),
  (10, List.replicate 6 (.int 0)),
  (10, List.replicate 11 (.int 0)),
  (2, [.int 0, .int 0, .ref 21, .ref 22, .ref 23, .ref 24, .ref 25, .ref 26, .ref 27]),
  (10, List.replicate 1600 (.int 0)),
  (12, List.replicate 8 (.int 0)),
  (10, List.replicate 8 (.int 0)),
  (10, List.replicate 8 (.int 0)),
  (10, List.replicate 8 (.int 0)),
  (10, List.replicate 64 (.int 0)),
  (10, List.replicate 7 (.int 0)),
  (1, [.int 0, .int 0, .int 0, .ref 29, .ref 30, .ref 31, .ref 32, .ref 33, .ref 34, .ref 35, .ref 36, .ref 37, .ref 38, .ref 39, .ref 40, .ref 41]),
  (10, List.replicate 12 (.int 0)),
  (10, List.replicate 12 (.int 0)),
  (10, List.replicate 12 (.int 0)),
  (10, List.replicate 12 (.int 0)),
  (10, List.replicate 12 (.int 0)),
  (10, List.replicate 12 (.int 0)),
  (10, List.replicate 6 (.int 0)),
  (10, List.replicate 6 (.int 0)),
  (10, List.replicate 6 (.int 0)),
  (10, List.replicate 6 (.int 0)),
  (10, List.replicate 6 (.int 0)),
  (10, List.replicate 11 (.int 0)),
  (2, [.int 0, .int 0, .ref 42, .ref 43, .ref 44, .ref 45, .ref 46, .ref 47, .ref 48]),
  (10, List.replicate 1600 (.int 0)),
  (12, List.replicate 8 (.int 0)),
  (10, List.replicate 8 (.int 0)),
  (10, List.replicate 8 (.int 0)),
  (10, List.replicate 8 (.int 0)),
  (10, List.replicate 64 (.int 0)),
  (10, List.replicate 7 (.int 0)),
  (6, [.int 0, .int 0, .ref 50, .ref 51, .ref 52, .ref 53, .ref 54, .ref 55, .ref 56, .ref 57, .ref 58, .ref 59, .ref 60, .ref 61, .int 0, .ref 62]),
  (10, List.replicate 12 (.int 0)),
  (12, List.replicate 12 (.int 0)),
  (10, List.replicate 12 (.int 0)),
  (10, List.replicate 12 (.int 0)),
  (10, List.replicate 12 (.int 0)),
  (10, List.replicate 12 (.int 0)),
  (10, List.replicate 12 (.int 0)),
  (10, List.replicate 12 (.int 0)),
  (10, List.replicate 12 (.int 0)),
  (10, List.replicate 12 (.int 0)),
  (12, List.replicate 11 (.int 0)),
  (10, List.replicate 11 (.int 0)),
  (10, List.replicate 200 (.int 0)),
  (6, [.int 0, .int 0, .ref 64, .ref 65, .ref 66, .ref 67, .ref 68, .ref 69, .ref 70, .ref 71, .ref 72, .ref 73, .ref 74, .ref 75, .int 0, .ref 76]),
  (10, List.replicate 12 (.int 0)),
  (12, List.replicate 12 (.int 0)),
  (10, List.replicate 12 (.int 0)),
  (10, List.replicate 12 (.int 0)),
  (10, List.replicate 12 (.int 0)),
  (10, List.replicate 12 (.int 0)),
  (10, List.replicate 12 (.int 0)),
  (10, List.replicate 12 (.int 0)),
  (10, List.replicate 12 (.int 0)),
  (10, List.replicate 12 (.int 0)),
  (12, List.replicate 11 (.int 0)),
  (10, List.replicate 11 (.int 0)),
  (10, List.replicate 200 (.int 0)),
  (0, [.int 0, .int 0, .null])])
def zo4 : zS := (65, [some (.ref 0)], [.ref 77, .ref 0], [(8, [.ref 1, .int 0, .ref 2, .ref 28, .ref 49, .ref 63, .null, .null, .null, .null, .null, .int 0, .null, .int 0, .null, .int 0]),
  (10, List.replicate 1600 (.int 0)),
  (5, [.int 0, .int (-1), .ref 3, .ref 4, .ref 5, .ref 6, .int 0, .int 0, .ref 7, .int 0, .int 0]),
  (10, [.int 5360102, .int 679716023, .int 9060516, .int 5342608, .int 189446445, .int 172280994, .int 667814, .int 26082, .int 626831, .int 20329136, .int 643382739, .int 21609735, .int 11634067, .int 641, .int 13669956, .int 7860, .int 20597804, .int 643419184, .int 642096, .int 529572, .int 464151, .int 591, .int 4545, .int 20974, .int 12673, .int 14637, .int 24621]),
  (10, List.replicate 1601 (.int 0)),
  (10, List.replicate 1601 (.int 0)),
  (10, List.replicate 1601 (.int 0)),
  (1, [.int 0, .int 0, .int 0, .ref 8, .ref 9, .ref 10, .ref 11, .ref 12, .ref 13, .ref 14, .ref 15, .ref 16, .ref 17, .ref 18, .ref 19, .ref 20]),
  (10, List.replicate 12 (.int 0)),
  (10, List.replicate 12 (.int 0)),
  (10, List.replicate 12 (.int 0)),
  (10, List.replicate 12 (.int 0)),
  (10, List.replicate 12 (.int 0)),
  (10, List.replicate 12 (.int 0)),
  (10, List.replicate 6 (.int 0)),
  (10, List.replicate 6 (.int 0)),
  (10, List.replicate 6 (.int 0)),
  (10, List.replicate 6 (.int 0)),
  (10, List.replicate 6 (.int 0)),
  (10, List.replicate 11 (.int 0)),
  (2, [.int 0, .int 0, .ref 21, .ref 22, .ref 23, .ref 24, .ref 25, .ref 26, .ref 27]),
  (10, List.replicate 1600 (.int 0)),
  (12, List.replicate 8 (.int 0)),
  (10, List.replicate 8 (.int 0)),
  (10, List.replicate 8 (.int 0)),
  (10, List.replicate 8 (.int 0)),
  (10, List.replicate 64 (.int 0)),
  (10, List.replicate 7 (.int 0)),
  (1, [.int 0, .int 0, .int 0, .ref 29, .ref 30, .ref 31, .ref 32, .ref 33, .ref 34, .ref 35, .ref 36, .ref 37, .ref 38, .ref 39, .ref 40, .ref 41]),
  (10, List.replicate 12 (.int 0)),
  (10, List.replicate 12 (.int 0)),
  (10, List.replicate 12 (.int 0)),
  (10, List.replicate 12 (.int 0)),
  (10, List.replicate 12 (.int 0)),
  (10, List.replicate 12 (.int 0)),
  (10, List.replicate 6 (.int 0)),
  (10, List.replicate 6 (.int 0)),
  (10, List.replicate 6 (.int 0)),
  (10, List.replicate 6 (.int 0)),
  (10, List.replicate 6 (.int 0)),
  (10, List.replicate 11 (.int 0)),
  (2, [.int 0, .int 0, .ref 42, .ref 43, .ref 44, .ref 45, .ref 46, .ref 47, .ref 48]),
  (10, List.replicate 1600 (.int 0)),
  (12, List.replicate 8 (.int 0)),
  (10, List.replicate 8 (.int 0)),
  (10, List.replicate 8 (.int 0)),
  (10, List.replicate 8 (.int 0)),
  (10, List.replicate 64 (.int 0)),
  (10, List.replicate 7 (.int 0)),
  (6, [.int 0, .int 0, .ref 50, .ref 51, .ref 52, .ref 53, .ref 54, .ref 55, .ref 56, .ref 57, .ref 58, .ref 59, .ref 60, .ref 61, .int 0, .ref 62]),
  (10, List.replicate 12 (.int 0)),
  (12, List.replicate 12 (.int 0)),
  (10, List.replicate 12 (.int 0)),
  (10, List.replicate 12 (.int 0)),
  (10, List.replicate 12 (.int 0)),
  (10, List.replicate 12 (.int 0)),
  (10, List.replicate 12 (.int 0)),
  (10, List.replicate 12 (.int 0)),
  (10, List.replicate 12 (.int 0)),
  (10, List.replicate 12 (.int 0)),
  (12, List.replicate 11 (.int 0)),
  (10, List.replicate 11 (.int 0)),
  (10, List.replicate 200 (.int 0)),
  (6, [.int 0, .int 0, .ref 64, .ref 65, .ref 66, .ref 67, .ref 68, .ref 69, .ref 70, .ref 71, .ref 72, .ref 73, .ref 74, .ref 75, .int 0, .ref 76]),
  (10, List.replicate 12 (.int 0)),
  (12, List.replicate 12 (.int 0)),
  (10, List.replicate 12 (.int 0)),
  (10, List.replicate 12 (.int 0)),
  (10, List.replicate 12 (.int 0)),
  (10, List.replicate 12 (.int 0)),
  (10, List.replicate 12 (.int 0)),
  (10, List.replicate 12 (.int 0)),
  (10, List.replicate 12 (.int 0)),
  (10, List.replicate 12 (.int 0)),
  (12, List.replicate 11 (.int 0)),
  (10, List.replicate 11 (.int 0)),
  (10, List.replicate 200 (.int 0)),
  (0, [.int 0, .int 0, .ref 78]),
  (13, [.ref 79, .ref 93, .ref 107, .ref 121, .ref 135, .ref 149, .ref 163, .ref 177, .ref 191, .ref 205, .ref 219, .ref 233, .ref 247, .ref 261, .ref 275, .ref 289, .ref 303, .ref 317, .ref 331, .ref 345]),
  (6, [.int 0, .int 0, .ref 80, .ref 81, .ref 82, .ref 83, .ref 84, .ref 85, .ref 86, .ref 87, .ref 88, .ref 89, .ref 90, .ref 91, .int 0, .ref 92]),
  (10, List.replicate 12 (.int 0)),
  (12, List.replicate 12 (.int 0)),
  (10, List.replicate 12 (.int 0)),
  (10, List.replicate 12 (.int 0)),
  (10, List.replicate 12 (.int 0)),
  (10, List.replicate 12 (.int 0)),
  (10, List.replicate 12 (.int 0)),
  (10, List.replicate 12 (.int 0)),
  (10, List.replicate 12 (.int 0)),
  (10, List.replicate 12 (.int 0)),
  (12, List.replicate 11 (.int 0)),
  (10, List.replicate 11 (.int 0)),
  (10, List.replicate 200 (.int 0)),
  (6, [.int 0, .int 0, .ref 94, .ref 95, .ref 96, .ref 97, .ref 98, .ref 99, .ref 100, .ref 101, .ref 102, .ref 103, .ref 104, .ref 105, .int 0, .ref 106]),
  (10, List.replicate 12 (.int 0)),
  (12, List.replicate 12 (.int 0)),
  (10, List.replicate 12 (.int 0)),
  (10, List.replicate 12 (.int 0)),
  (10, List.replicate 12 (.int 0)),
  (10, List.replicate 12 (.int 0)),
  (10, List.replicate 12 (.int 0)),
  (10, List.replicate 12 (.int 0)),
  (10, List.replicate 12 (.int 0)),
  (10, List.replicate 12 (.int 0)),
  (12, List.replicate 11 (.int 0)),
  (10, List.replicate 11 (.int 0)),
  (10, List.replicate 200 (.int 0)),
  (6, [.int 0, .int 0, .ref 108, .ref 109, .ref 110, .ref 111, .ref 112, .ref 113, .ref 114, .ref 115, .ref 116, .ref 117, .ref 118, .ref 119, .int 0, .ref 120]),
  (10, List.replicate 12 (.int 0)),
  (12, List.replicate 12 (.int 0)),
  (10, List.replicate 12 (.int 0)),
  (10, List.replicate 12 (.int 0)),
  (10, List.replicate 12 (.int 0)),
  (10, List.replicate 12 (.int 0)),
  (10, List.replicate 12 (.int 0)),
  (10, List.replicate 12 (.int 0)),
  (10, List.replicate 12 (.int 0)),
  (10, List.replicate 12 (.int 0)),
  (12, List.replicate 11 (.int 0)),
  (10, List.replicate 11 (.int 0)),
  (10, List.replicate 200 (.int 0)),
  (6, [.int 0, .int 0, .ref 122, .ref 123, .ref 124, .ref 125, .ref 126, .ref 127, .ref 128, .ref 129, .ref 130, .ref 131, .ref 132, .ref 133, .int 0, .ref 134]),
  (10, List.replicate 12 (.int 0)),
  (12, List.replicate 12 (.int 0)),
  (10, List.replicate 12 (.int 0)),
  (10, List.replicate 12 (.int 0)),
  (10, List.replicate 12 (.int 0)),
  (10, List.replicate 12 (.int 0)),
  (10, List.replicate 12 (.int 0)),
  (10, List.replicate 12 (.int 0)),
  (10, List.replicate 12 (.int 0)),
  (10, List.replicate 12 (.int 0)),
  (12, List.replicate 11 (.int 0)),
  (10, List.replicate 11 (.int 0)),
  (10, List.replicate 200 (.int 0)),
  (6, [.int 0, .int 0, .ref 136, .ref 137, .ref 138, .ref 139, .ref 140, .ref 141, .ref 142, .ref 143, .ref 144, .ref 145, .ref 146, .ref 147, .int 0, .ref 148]),
  (10, List.replicate 12 (.int 0)),
  (12, List.replicate 12 (.int 0)),
  (10, List.replicate 12 (.int 0)),
  (10, List.replicate 12 (.int 0)),
  (10, List.replicate 12 (.int 0)),
  (10, List.replicate 12 (.int 0)),
  (10, List.replicate 12 (.int 0)),
  (10, List.replicate 12 (.int 0)),
  (10, List.replicate 12 (.int 0)),
  (10, List.replicate 12 (.int 0)),
  (12, List.replicate 11 (.int 0)),
  (10, List.replicate 11 (.int 0)),
  (10, List.replicate 200 (.int 0)),
  (6, [.int 0, .int 0, .ref 150, .ref 151, .ref 152, .ref 153, .ref 154, .ref 155, .ref 156, .ref 157, .ref 158, .ref 159, .ref 160, .ref 161, .int 0, .ref 162]),
  (10, List.replicate 12 (.int 0)),
  (12, List.replicate 12 (.int 0)),
  (10, List.replicate 12 (.int 0)),
  (10, List.replicate 12 (.int 0)),
  (10, List.replicate 12 (.int 0)),
  (10, List.replicate 12 (.int 0)),
  (10, List.replicate 12 (.int 0)),
  (10, List.replicate 12 (.int 0)),
  (10, List.replicate 12 (.int 0)),
  (10, List.replicate 12 (.int 0)),
  (12, List.replicate 11 (.int 0)),
  (10, List.replicate 11 (.int 0)),
  (10, List.replicate 200 (.int 0)),
  (6, [.int 0, .int 0, .ref 164, .ref 165, .ref 166, .ref 167, .ref 168, .ref 169, .ref 170, .ref 171, .ref 172, .ref 173, .ref 174, .ref 175, .int 0, .ref 176]),
  (10, List.replicate 12 (.int 0)),
  (12, List.replicate 12 (.int 0)),
  (10, List.replicate 12 (.int 0)),
  (10, List.replicate 12 (.int 0)),
  (10, List.replicate 12 (.int 0)),
  (10, List.replicate 12 (.int 0)),
  (10, List.replicate 12 (.int 0)),
  (10, List.replicate 12 (.int 0)),
  (10, List.replicate 12 (.int 0)),
  (10, List.replicate 12 (.int 0)),
  (12, List.replicate 11 (.int 0)),
  (10, List.replicate 11 (.int 0)),
  (10, List.replicate 200 (.int 0)),
  (6, [.int 0, .int 0, .ref 178, .ref 179, .ref 180, .ref 181, .ref 182, .ref 183, .ref 184, .ref 185, .ref 186, .ref 187, .ref 188, .ref 189, .int 0, .ref 190]),
  (10, List.replicate 12 (.int 0)),
  (12, List.replicate 12 (.int 0)),
  (10, List.replicate 12 (.int 0)),
  (10, List.replicate 12 (.int 0)),
  (10, List.replicate 12 (.int 0)),
  (10, List.replicate 12 (.int 0)),
  (10, List.replicate 12 (.int 0)),
  (10, List.replicate 12 (.int 0)),
  (10, List.replicate 12 (.int 0)),
  (10, List.replicate 12 (.int 0)),
  (12, List.replicate 11 (.int 0)),
  (10, List.replicate 11 (.int 0)),
  (10, List.replicate 200 (.int 0)),
  (6, [.int 0, .int 0, .ref 192, .ref 193, .ref 194, .ref 195, .ref 196, .ref 197, .ref 198, .ref 199, .ref 200, .ref 201, .ref 202, .ref 203, .int 0, .ref 204]),
  (10, List.replicate 12 (.int 0)),
  (12, List.replicate 12 (.int 0)),
  (10, List.replicate 12 (.int 0)),
  (10, List.replicate 12 (.int 0)),
  (10, List.replicate 12 (.int 0)),
  (10, List.replicate 12 (.int 0)),
  (10, List.replicate 12 (.int 0)),
  (10, List.replicate 12 (.int 0)),
  (10, List.replicate 12 (.int 0)),
  (10, List.replicate 12 (.int 0)),
  (12, List.replicate 11 (.int 0)),
  (10, List.replicate 11 (.int 0)),
  (10, List.replicate 200 (.int 0)),
  (6, [.int 0, .int 0, .ref 206, .ref 207, .ref 208, .ref 209, .ref 210, .ref 211, .ref 212, .ref 213, .ref 214, .ref 215, .ref 216, .ref 217, .int 0, .ref 218]),
  (10, List.replicate 12 (.int 0)),
  (12, List.replicate 12 (.int 0)),
  (10, List.replicate 12 (.int 0)),
  (10, List.replicate 12 (.int 0)),
  (10, List.replicate 12 (.int 0)),
  (10, List.replicate 12 (.int 0)),
  (10, List.replicate 12 (.int 0)),
  (10, List.replicate 12 (.int 0)),
  (10, List.replicate 12 (.int 0)),
  (10, List.replicate 12 (.int 0)),
  (12, List.replicate 11 (.int 0)),
  (10, List.replicate 11 (.int 0)),
  (10, List.replicate 200 (.int 0)),
  (6, [.int 0, .int 0, .ref 220, .ref 221, .ref 222, .ref 223, .ref 224, .ref 225, .ref 226, .ref 227, .ref 228, .ref 229, .ref 230, .ref 231, .int 0, .ref 232]),
  (10, List.replicate 12 (.int 0)),
  (12, List.replicate 12 (.int 0)),
  (10, List.replicate 12 (.int 0)),
  (10, List.replicate 12 (.int 0)),
  (10, List.replicate 12 (.int 0)),
  (10, List.replicate 12 (.int 0)),
  (10, List.replicate 12 (.int 0)),
  (10, List.replicate 12 (.int 0)),
  (10, List.replicate 12 (.int 0)),
  (10, List.replicate 12 (.int 0)),
  (12, List.replicate 11 (.int 0)),
  (10, List.replicate 11 (.int 0)),
  (10, List.replicate 200 (.int 0)),
  (6, [.int 0, .int 0, .ref 234, .ref 235, .ref 236, .ref 237, .ref 238, .ref 239, .ref 240, .ref 241, .ref 242, .ref 243, .ref 244, .ref 245, .int 0, .ref 246]),
  (10, List.replicate 12 (.int 0)),
  (12, List.replicate 12 (.int 0)),
  (10, List.replicate 12 (.int 0)),
  (10, List.replicate 12 (.int 0)),
  (10, List.replicate 12 (.int 0)),
  (10, List.replicate 12 (.int 0)),
  (10, List.replicate 12 (.int 0)),
  (10, List.replicate 12 (.int 0)),
  (10, List.replicate 12 (.int 0)),
  (10, List.replicate 12 (.int 0)),
  (12, List.replicate 11 (.int 0)),
  (10, List.replicate 11 (.int 0)),
  (10, List.replicate 200 (.int 0)),
  (6, [.int 0, .int 0, .ref 248, .ref 249, .ref 250, .ref 251, .ref 252, .ref 253, .ref 254, .ref 255, .ref 256, .ref 257, .ref 258, .ref 259, .int 0, .ref 260]),
  (10, List.replicate 12 (.int 0)),
  (12, List.replicate 12 (.int 0)),
  (10, List.replicate 12 (.int 0)),
  (10, List.replicate 12 (.int 0)),
  (10, List.replicate 12 (.int 0)),
  (10, List.replicate 12 (.int 0)),
  (10, List.replicate 12 (.int 0)),
  (10, List.replicate 12 (.int 0)),
  (10, List.replicate 12 (.int 0)),
  (10, List.replicate 12 (.int 0)),
  (12, List.replicate 11 (.int 0)),
  (10, List.replicate 11 (.int 0)),
  (10, List.replicate 200 (.int 0)),
  (6, [.int 0, .int 0, .ref 262, .ref 263, .ref 264, .ref 265, .ref 266, .ref 267, .ref 268, .ref 269, .ref 270, .ref 271, .ref 272, .ref 273, .int 0, .ref 274]),
  (10, List.replicate 12 (.int 0)),
  (12, List.replicate 12 (.int 0)),
  (10, List.replicate 12 (.int 0)),
  (10, List.replicate 12 (.int 0)),
  (10, List.replicate 12 (.int 0)),
  (10, List.replicate 12 (.int 0)),
  (10, List.replicate 12 (.int 0)),
  (10, List.replicate 12 (.int 0)),
  (10, List.replicate 12 (.int 0)),
  (10, List.replicate 12 (.int 0)),
  (12, List.replicate 11 (.int 0)),
  (10, List.replicate 11 (.int 0)),
  (10, List.replicate 200 (.int 0)),
  (6, [.int 0, .int 0, .ref 276, .ref 277, .ref 278, .ref 279, .ref 280, .ref 281, .ref 282, .ref 283, .ref 284, .ref 285, .ref 286, .ref 287, .int 0, .ref 288]),
  (10, List.replicate 12 (.int 0)),
  (12, List.replicate 12 (.int 0)),
  (10, List.replicate 12 (.int 0)),
  (10, List.replicate 12 (.int 0)),
  (10, List.replicate 12 (.int 0)),
  (10, List.replicate 12 (.int 0)),
  (10, List.replicate 12 (.int 0)),
  (10, List.replicate 12 (.int 0)),
  (10, List.replicate 12 (.int 0)),
  (10, List.replicate 12 (.int 0)),
  (12, List.replicate 11 (.int 0)),
  (10, List.replicate 11 (.int 0)),
  (10, List.replicate 200 (.int 0)),
  (6, [.int 0, .int 0, .ref 290, .ref 291, .ref 292, .ref 293, .ref 294, .ref 295, .ref 296, .ref 297, .ref 298, .ref 299, .ref 300, .ref 301, .int 0, .ref 302]),
  (10, List.replicate 12 (.int 0)),
  (12, List.replicate 12 (.int 0)),
  (10, List.replicate 12 (.int 0)),
  (10, List.replicate 12 (.int 0)),
  (10, List.replicate 12 (.int 0)),
  (10, List.replicate 12 (.int 0)),
  (10, List.replicate 12 (.int 0)),
  (10, List.replicate 12 (.int 0)),
  (10, List.replicate 12 (.int 0)),
  (10, List.replicate 12 (.int 0)),
  (12, List.replicate 11 (.int 0)),
  (10, List.replicate 11 (.int 0)),
  (10, List.replicate 200 (.int 0)),
  (6, [.int 0, .int 0, .ref 304, .ref 305, .ref 306, .ref 307, .ref 308, .ref 309, .ref 310, .ref 311, .ref 312, .ref 313, .ref 314, .ref 315, .int 0, .ref 316]),
  (10, List.replicate 12 (.int 0)),
  (12, List.replicate 12 (.int 0)),
  (10, List.replicate 12 (.int 0)),
  (10, List.replicate 12 (.int 0)),
  (10, List.replicate 12 (.int 0)),
  (10, List.replicate 12 (.int 0)),
  (10, List.replicate 12 (.int 0)),
  (10, List.replicate 12 (.int 0)),
  (10, List.replicate 12 (.int 0)),
  (10, List.replicate 12 (.int 0)),
  (12, List.replicate 11 (.int 0)),
  (10, List.replicate 11 (.int 0)),
  (10, List.replicate 200 (.int 0)),
  (6, [.int 0, .int 0, .ref 318, .ref 319, .ref 320, .ref 321, .ref 322, .ref 323, .ref 324, .ref 325, .ref 326, .ref 327, .ref 328, .ref 329, .int 0, .ref 330]),
  (10, List.replicate 12 (.int 0)),
  (12, List.replicate 12 (.int 0)),
  (10, List.replicate 12 (.int 0)),
  (10, List.replicate 12 (.int 0)),
  (10, List.replicate 12 (.int 0)),
  (10, List.replicate 12 (.int 0)),
  (10, List.replicate 12 (.int 0)),
  (10, List.replicate 12 (.int 0)),
  (10, List.replicate 12 (.int 0)),
  (10, List.replicate 12 (.int 0)),
  (12, List.replicate 11 (.int 0)),
  (10, List.replicate 11 (.int 0)),
  (10, List.replicate 200 (.int 0)),
  (6, [.int 0, .int 0, .ref 332, .ref 333, .ref 334, .ref 335, .ref 336, .ref 337, .ref 338, .ref 339, .ref 340, .ref 341, .ref 342, .ref 343, .int 0, .ref 344]),
  (10, List.replicate 12 (.int 0)),
  (12, List.replicate 12 (.int 0)),
  (10, List.replicate 12 (.int 0)),
  (10, List.replicate 12 (.int 0)),
  (10, List.replicate 12 (.int 0)),
  (10, List.replicate 12 (.int 0)),
  (10, List.replicate 12 (.int 0)),
  (10, List.replicate 12 (.int 0)),
  (10, List.replicate 12 (.int 0)),
  (10, List.replicate 12 (.int 0)),
  (12, List.replicate 11 (.int 0)),
  (10, List.replicate 11 (.int 0)),
  (10, List.replicate 200 (.int 0)),
  (6, [.int 0, .int 0, .ref 346, .ref 347, .ref 348, .ref 349, .ref 350, .ref 351, .ref 352, .ref 353, .ref 354, .ref 355, .ref 356, .ref 357, .int 0, .ref 358]),
  (10, List.replicate 12 (.int 0)),
  (12, List.replicate 12 (.int 0)),
  (10, List.replicate 12 (.int 0)),
  (10, List.replicate 12 (.int 0)),
  (10, List.replicate 12 (.int 0)),
  (10, List.replicate 12 (.int 0)),
  (10, List.replicate 12 (.int 0)),
  (10, List.replicate 12 (.int 0)),
  (10, List.replicate 12 (.int 0)),
  (10, List.replicate 12 (.int 0)),
  (12, List.replicate 11 (.int 0)),
  (10, List.replicate 11 (.int 0)),
  (10, List.replicate 200 (.int 0))])
def zo5 : zS := (125, [some (.ref 0)], [], [(8, [.ref 1, .int 0, .ref 2, .ref 28, .ref 49, .ref 63, .ref 77, .ref 359, .ref 362, .ref 364, .ref 383, .int 0, .ref 384, .int 0, .ref 385, .int 0]),
  (10, List.replicate 1600 (.int 0)),
  (5, [.int 0, .int (-1), .ref 3, .ref 4, .ref 5, .ref 6, .int 0, .int 0, .ref 7, .int 0, .int 0]),
  (10, [.int 5360102, .int 679716023, .int 9060516, .int 5342608, .int 189446445, .int 172280994, .int 667814, .int 26082, .int 626831, .int 20329136, .int 643382739, .int 21609735, .int 11634067, .int 641, .int 13669956, .int 7860, .int 20597804, .int 643419184, .int 642096, .int 529572, .int 464151, .int 591, .int 4545, .int 20974, .int 12673, .int 14637, .int 24621]),
  (10, List.replicate 1601 (.int 0)),
  (10, List.replicate 1601 (.int 0)),
  (10, List.replicate 1601 (.int 0)),
  (1, [.int 0, .int 0, .int 0, .ref 8, .ref 9, .ref 10, .ref 11, .ref 12, .ref 13, .ref 14, .ref 15, .ref 16, .ref 17, .ref 18, .ref 19, .ref 20]),
  (10, List.replicate 12 (.int 0)),
  (10, List.replicate 12 (.int 0)),
  (10, List.replicate 12 (.int 0)),
  (10, List.replicate 12 (.int 0)),
  (10, List.replicate 12 (.int 0)),
  (10, List.replicate 12 (.int 0)),
  (10, List.replicate 6 (.int 0)),
  (10, List.replicate 6 (.int 0)),
  (10, List.replicate 6 (.int 0)),
  (10, List.replicate 6 (.int 0)),
  (10, List.replicate 6 (.int 0)),
  (10, List.replicate 11 (.int 0)),
  (2, [.int 0, .int 0, .ref 21, .ref 22, .ref 23, .ref 24, .ref 25, .ref 26, .ref 27]),
  (10, List.replicate 1600 (.int 0)),
  (12, List.replicate 8 (.int 0)),
  (10, List.replicate 8 (.int 0)),
  (10, List.replicate 8 (.int 0)),
  (10, List.replicate 8 (.int 0)),
  (10, List.replicate 64 (.int 0)),
  (10, List.replicate 7 (.int 0)),
  (1, [.int 0, .int 0, .int 0, .ref 29, .ref 30, .ref 31, .ref 32, .ref 33, .ref 34, .ref 35, .ref 36, .ref 37, .ref 38, .ref 39, .ref 40, .ref 41]),
  (10, List.replicate 12 (.int 0)),
  (10, List.replicate 12 (.int 0)),
  (10, List.replicate 12 (.int 0)),
  (10, List.replicate 12 (.int 0)),
  (10, List.replicate 12 (.int 0)),
  (10, List.replicate 12 (.int 0)),
  (10, List.replicate 6 (.int 0)),
  (10, List.replicate 6 (.int 0)),
  (10, List.replicate 6 (.int 0)),
  (10, List.replicate 6 (.int 0)),
  (10, List.replicate 6 (.int 0)),
  (10, List.replicate 11 (.int 0)),
  (2, [.int 0, .int 0, .ref 42, .ref 43, .ref 44, .ref 45, .ref 46, .ref 47, .ref 48]),
  (10, List.replicate 1600 (.int 0)),
  (12, List.replicate 8 (.int 0)),
  (10, List.replicate 8 (.int 0)),
  (10, List.replicate 8 (.int 0)),
  (10, List.replicate 8 (.int 0)),
  (10, List.replicate 64 (.int 0)),
  (10, List.replicate 7 (.int 0)),
  (6, [.int 0, .int 0, .ref 50, .ref 51, .ref 52, .ref 53, .ref 54, .ref 55, .ref 56, .ref 57, .ref 58, .ref 59, .ref 60, .ref 61, .int 0, .ref 62]),
  (10, List.replicate 12 (.int 0)),
  (12, List.replicate 12 (.int 0)),
  (10, List.replicate 12 (.int 0)),
  (10, List.replicate 12 (.int 0)),
  (10, List.replicate 12 (.int 0)),
  (10, List.replicate 12 (.int 0)),
  (10, List.replicate 12 (.int 0)),
  (10, List.replicate 12 (.int 0)),
  (10, List.replicate 12 (.int 0)),
  (10, List.replicate 12 (.int 0)),
  (12, List.replicate 11 (.int 0)),
  (10, List.replicate 11 (.int 0)),
  (10, List.replicate 200 (.int 0)),
  (6, [.int 0, .int 0, .ref 64, .ref 65, .ref 66, .ref 67, .ref 68, .ref 69, .ref 70, .ref 71, .ref 72, .ref 73, .ref 74, .ref 75, .int 0, .ref 76]),
  (10, List.replicate 12 (.int 0)),
  (12, List.replicate 12 (.int 0)),
  (10, List.replicate 12 (.int 0)),
  (10, List.replicate 12 (.int 0)),
  (10, List.replicate 12 (.int 0)),
  (10, List.replicate 12 (.int 0)),
  (10, List.replicate 12 (.int 0)),
  (10, List.replicate 12 (.int 0)),
  (10, List.replicate 12 (.int 0)),
  (10, List.replicate 12 (.int 0)),
  (12, List.replicate 11 (.int 0)),
  (10, List.replicate 11 (.int 0)),
  (10, List.replicate 200 (.int 0)),
  (0, [.int 0, .int 0, .ref 78]),
  (13, [.ref 79, .ref 93, .ref 107, .ref 121, .ref 135, .ref 149, .ref 163, .ref 177, .ref 191, .ref 205, .ref 219, .ref 233, .ref 247, .ref 261, .ref 275, .ref 289, .ref 303, .ref 317, .ref 331, .ref 345]),
  (6, [.int 0, .int 0, .ref 80, .ref 81, .ref 82, .ref 83, .ref 84, .ref 85, .ref 86, .ref 87, .ref 88, .ref 89, .ref 90, .ref 91, .int 0, .ref 92]),
  (10, List.replicate 12 (.int 0)),
  (12, List.replicate 12 (.int 0)),
  (10, List.replicate 12 (.int 0)),
  (10, List.replicate 12 (.int 0)),
  (10, List.replicate 12 (.int 0)),
  (10, List.replicate 12 (.int 0)),
  (10, List.replicate 12 (.int 0)),
  (10, List.replicate 12 (.int 0)),
  (10, List.replicate 12 (.int 0)),
  (10, List.replicate 12 (.int 0)),
  (12, List.replicate 11 (.int 0)),
  (10, List.replicate 11 (.int 0)),
  (10, List.replicate 200 (.int 0)),
  (6, [.int 0, .int 0, .ref 94, .ref 95, .ref 96, .ref 97, .ref 98, .ref 99, .ref 100, .ref 101, .ref 102, .ref 103, .ref 104, .ref 105, .int 0, .ref 106]),
  (10, List.replicate 12 (.int 0)),
  (12, List.replicate 12 (.int 0)),
  (10, List.replicate 12 (.int 0)),
  (10, List.replicate 12 (.int 0)),
  (10, List.replicate 12 (.int 0)),
  (10, List.replicate 12 (.int 0)),
  (10, List.replicate 12 (.int 0)),
  (10, List.replicate 12 (.int 0)),
  (10, List.replicate 12 (.int 0)),
  (10, List.replicate 12 (.int 0)),
  (12, List.replicate 11 (.int 0)),
  (10, List.replicate 11 (.int 0)),
  (10, List.replicate 200 (.int 0)),
  (6, [.int 0, .int 0, .ref 108, .ref 109, .ref 110, .ref 111, .ref 112, .ref 113, .ref 114, .ref 115, .ref 116, .ref 117, .ref 118, .ref 119, .int 0, .ref 120]),
  (10, List.replicate 12 (.int 0)),
  (12, List.replicate 12 (.int 0)),
  (10, List.replicate 12 (.int 0)),
  (10, List.replicate 12 (.int 0)),
  (10, List.replicate 12 (.int 0)),
  (10, List.replicate 12 (.int 0)),
  (10, List.replicate 12 (.int 0)),
  (10, List.replicate 12 (.int 0)),
  (10, List.replicate 12 (.int 0)),
  (10, List.replicate 12 (.int 0)),
  (12, List.replicate 11 (.int 0)),
  (10, List.replicate 11 (.int 0)),
  (10, List.replicate 200 (.int 0)),
  (6, [.int 0, .int 0, .ref 122, .ref 123, .ref 124, .ref 125, .ref 126, .ref 127, .ref 128, .ref 129, .ref 130, .ref 131, .ref 132, .ref 133, .int 0, .ref 134]),
  (10, List.replicate 12 (.int 0)),
  (12, List.replicate 12 (.int 0)),
  (10, List.replicate 12 (.int 0)),
  (10, List.replicate 12 (.int 0)),
  (10, List.replicate 12 (.int 0)),
  (10, List.replicate 12 (.int 0)),
  (10, List.replicate 12 (.int 0)),
  (10, List.replicate 12 (.int 0)),
  (10, List.replicate 12 (.int 0)),
  (10, List.replicate 12 (.int 0)),
  (12, List.replicate 11 (.int 0)),
  (10, List.replicate 11 (.int 0)),
  (10, List.replicate 200 (.int 0)),
  (6, [.int 0, .int 0, .ref 136, .ref 137, .ref 138, .ref 139, .ref 140, .ref 141, .ref 142, .ref 143, .ref 144, .ref 145, .ref 146, .ref 147, .int 0, .ref 148]),
  (10, List.replicate 12 (.int 0)),
  (12, List.replicate 12 (.int 0)),
  (10, List.replicate 12 (.int 0)),
  (10, List.replicate 12 (.int 0)),
  (10, List.replicate 12 (.int 0)),
  (10, List.replicate 12 (.int 0)),
  (10, List.replicate 12 (.int 0)),
  (10, List.replicate 12 (.int 0)),
  (10, List.replicate 12 (.int 0)),
  (10, List.replicate 12 (.int 0)),
  (12, List.replicate 11 (.int 0)),
  (10, List.replicate 11 (.int 0)),
  (10, List.replicate 200 (.int 0)),
  (6, [.int 0, .int 0, .ref 150, .ref 151, .ref 152, .ref 153, .ref 154, .ref 155, .ref 156, .ref 157, .ref 158, .ref 159, .ref 160, .ref 161, .int 0, .ref 162]),
  (10, List.replicate 12 (.int 0)),
  (12, List.replicate 12 (.int 0)),
  (10, List.replicate 12 (.int 0)),
  (10, List.replicate 12 (.int 0)),
  (10, List.replicate 12 (.int 0)),
  (10, List.replicate 12 (.int 0)),
  (10, List.replicate 12 (.int 0)),
  (10, List.replicate 12 (.int 0)),
  (10, List.replicate 12 (.int 0)),
  (10, List.replicate 12 (.int 0)),
  (12, List.replicate 11 (.int 0)),
  (10, List.replicate 11 (.int 0)),
  (10, List.replicate 200 (.int 0)),
  (6, [.int 0, .int 0, .ref 164, .ref 165, .ref 166, .ref 167, .ref 168, .ref 169, .ref 170, .ref 171, .ref 172, .ref 173, .ref 174, .ref 175, .int 0, .ref 176]),
  (10, List.replicate 12 (.int 0)),
  (12, List.replicate 12 (.int 0)),
  (10, List.replicate 12 (.int 0)),
  (10, List.replicate 12 (.int 0)),
  (10, List.replicate 12 (.int 0)),
  (10, List.replicate 12 (.int 0)),
  (10, List.replicate 12 (.int 0)),
  (10, List.replicate 12 (.int 0)),
  (10, List.replicate 12 (.int 0)),
  (10, List.replicate 12 (.int 0)),
  (12, List.replicate 11 (.int 0)),
  (10, List.replicate 11 (.int 0)),
  (10, List.replicate 200 (.int 0)),
  (6, [.int 0, .int 0, .ref 178, .ref 179, .ref 180, .ref 181, .ref 182, .ref 183, .ref 184, .ref 185, .ref 186, .ref 187, .ref 188, .ref 189, .int 0, .ref 190]),
  (10, List.replicate 12 (.int 0)),
  (12, List.replicate 12 (.int 0)),
  (10, List.replicate 12 (.int 0)),
  (10, List.replicate 12 (.int 0)),
  (10, List.replicate 12 (.int 0)),
  (10, List.replicate 12 (.int 0)),
  (10, List.replicate 12 (.int 0)),
  (10, List.replicate 12 (.int 0)),
  (10, List.replicate 12 (.int 0)),
  (10, List.replicate 12 (.int 0)),
  (12, List.replicate 11 (.int 0)),
  (10, List.replicate 11 (.int 0)),
  (10, List.replicate 200 (.int 0)),
  (6, [.int 0, .int 0, .ref 192, .ref 193, .ref 194, .ref 195, .ref 196, .ref 197, .ref 198, .ref 199, .ref 200, .ref 201, .ref 202, .ref 203, .int 0, .ref 204]),
  (10, List.replicate 12 (.int 0)),
  (12, List.replicate 12 (.int 0)),
  (10, List.replicate 12 (.int 0)),
  (10, List.replicate 12 (.int 0)),
  (10, List.replicate 12 (.int 0)),
  (10, List.replicate 12 (.int 0)),
  (10, List.replicate 12 (.int 0)),
  (10, List.replicate 12 (.int 0)),
  (10, List.replicate 12 (.int 0)),
  (10, List.replicate 12 (.int 0)),
  (12, List.replicate 11 (.int 0)),
  (10, List.replicate 11 (.int 0)),
  (10, List.replicate 200 (.int 0)),
  (6, [.int 0, .int 0, .ref 206, .ref 207, .ref 208, .ref 209, .ref 210, .ref 211, .ref 212, .ref 213, .ref 214, .ref 215, .ref 216, .ref 217, .int 0, .ref 218]),
  (10, List.replicate 12 (.int 0)),
  (12, List.replicate 12 (.int 0)),
  (10, List.replicate 12 (.int 0)),
  (10, List.replicate 12 (.int 0)),
  (10, List.replicate 12 (.int 0)),
  (10, List.replicate 12 (.int 0)),
  (10, List.replicate 12 (.int 0)),
  (10, List.replicate 12 (.int 0)),
  (10, List.replicate 12 (.int 0)),
  (10, List.replicate 12 (.int 0)),
  (12, List.replicate 11 (.int 0)),
  (10, List.replicate 11 (.int 0)),
  (10, List.replicate 200 (.int 0)),
  (6, [.int 0, .int 0, .ref 220, .ref 221, .ref 222, .ref 223, .ref 224, .ref 225, .ref 226, .ref 227, .ref 228, .ref 229, .ref 230, .ref 231, .int 0, .ref 232]),
  (10, List.replicate 12 (.int 0)),
  (12, List.replicate 12 (.int 0)),
  (10, List.replicate 12 (.int 0)),
  (10, List.replicate 12 (.int 0)),
  (10, List.replicate 12 (.int 0)),
  (10, List.replicate 12 (.int 0)),
  (10, List.replicate 12 (.int 0)),
  (10, List.replicate 12 (.int 0)),
  (10, List.replicate 12 (.int 0)),
  (10, List.replicate 12 (.int 0)),
  (12, List.replicate 11 (.int 0)),
  (10, List.replicate 11 (.int 0)),
  (10, List.replicate 200 (.int 0)),
  (6, [.int 0, .int 0, .ref 234, .ref 235, .ref 236, .ref 237, .ref 238, .ref 239, .ref 240, .ref 241, .ref 242, .ref 243, .ref 244, .ref 245, .int 0, .ref 246]),
  (10, List.replicate 12 (.int 0)),
  (12, List.replicate 12 (.int 0)),
  (10, List.replicate 12 (.int 0)),
  (10, List.replicate 12 (.int 0)),
  (10, List.replicate 12 (.int 0)),
  (10, List.replicate 12 (.int 0)),
  (10, List.replicate 12 (.int 0)),
  (10, List.replicate 12 (.int 0)),
  (10, List.replicate 12 (.int 0)),
  (10, List.replicate 12 (.int 0)),
  (12, List.replicate 11 (.int 0)),
  (10, List.replicate 11 (.int 0)),
  (10, List.replicate 200 (.int 0)),
  (6, [.int 0, .int 0, .ref 248, .ref 249, .ref 250, .ref 251, .ref 252, .ref 253, .ref 254, .ref 255, .ref 256, .ref 257, .ref 258, .ref 259, .int 0, .ref 260]),
  (10, List.replicate 12 (.int 0)),
  (12, List.replicate 12 (.int 0)),
  (10, List.replicate 12 (.int 0)),
  (10, List.replicate 12 (.int 0)),
  (10, List.replicate 12 (.int 0)),
  (10, List.replicate 12 (.int 0)),
  (10, List.replicate 12 (.int 0)),
  (10, List.replicate 12 (.int 0)),
  (10, List.replicate 12 (.int 0)),
  (10, List.replicate 12 (.int 0)),
  (12, List.replicate 11 (.int 0)),
  (10, List.replicate 11 (.int 0)),
  (10, List.replicate 200 (.int 0)),
  (6, [.int 0, .int 0, .ref 262, .ref 263, .ref 264, .ref 265, .ref 266, .ref 267, .ref 268, .ref 269, .ref 270, .ref 271, .ref 272, .ref 273, .int 0, .ref 274]),
  (10, List.replicate 12 (.int 0)),
  (12, List.replicate 12 (.int 0)),
  (10, List.replicate 12 (.int 0)),
  (10, List.replicate 12 (.int 0)),
  (10, List.replicate 12 (.int 0)),
  (10, List.replicate 12 (.int 0)),
  (10, List.replicate 12 (.int 0)),
  (10, List.replicate 12 (.int 0)),
  (10, List.replicate 12 (.int 0)),
  (10, List.replicate 12 (.int 0)),
  (12, List.replicate 11 (.int 0)),
  (10, List.replicate 11 (.int 0)),
  (10, List.replicate 200 (.int 0)),
  (6, [.int 0, .int 0, .ref 276, .ref 277, .ref 278, .ref 279, .ref 280, .ref 281, .ref 282, .ref 283, .ref 284, .ref 285, .ref 286, .ref 287, .int 0, .ref 288]),
  (10, List.replicate 12 (.int 0)),
  (12, List.replicate 12 (.int 0)),
  (10, List.replicate 12 (.int 0)),
  (10, List.replicate 12 (.int 0)),
  (10, List.replicate 12 (.int 0)),
  (10, List.replicate 12 (.int 0)),
  (10, List.replicate 12 (.int 0)),
  (10, List.replicate 12 (.int 0)),
  (10, List.replicate 12 (.int 0)),
  (10, List.replicate 12 (.int 0)),
  (12, List.replicate 11 (.int 0)),
  (10, List.replicate 11 (.int 0)),
  (10, List.replicate 200 (.int 0)),
  (6, [.int 0, .int 0, .ref 290, .ref 291, .ref 292, .ref 293, .ref 294, .ref 295, .ref 296, .ref 297, .ref 298, .ref 299, .ref 300, .ref 301, .int 0, .ref 302]),
  (10, List.replicate 12 (.int 0)),
  (12, List.replicate 12 (.int 0)),
  (10, List.replicate 12 (.int 0)),
  (10, List.replicate 12 (.int 0)),
  (10, List.replicate 12 (.int 0)),
  (10, List.replicate 12 (.int 0)),
  (10, List.replicate 12 (.int 0)),
  (10, List.replicate 12 (.int 0)),
  (10, List.replicate 12 (.int 0)),
  (10, List.replicate 12 (.int 0)),
  (12, List.replicate 11 (.int 0)),
  (10, List.replicate 11 (.int 0)),
  (10, List.replicate 200 (.int 0)),
  (6, [.int 0, .int 0, .ref 304, .ref 305, .ref 306, .ref 307, .ref 308, .ref 309, .ref 310, .ref 311, .ref 312, .ref 313, .ref 314, .ref 315, .int 0, .ref 316]),
  (10, List.replicate 12 (.int 0)),
  (12, List.replicate 12 (.int 0)),
  (10, List.replicate 12 (.int 0)),
  (10, List.replicate 12 (.int 0)),
  (10, List.replicate 12 (.int 0)),
  (10, List.replicate 12 (.int 0)),
  (10, List.replicate 12 (.int 0)),
  (10, List.replicate 12 (.int 0)),
  (10, List.replicate 12 (.int 0)),
  (10, List.replicate 12 (.int 0)),
  (12, List.replicate 11 (.int 0)),
  (10, List.replicate 11 (.int 0)),
  (10, List.replicate 200 (.int 0)),
  (6, [.int 0, .int 0, .ref 318, .ref 319, .ref 320, .ref 321, .ref 322, .ref 323, .ref 324, .ref 325, .ref 326, .ref 327, .ref 328, .ref 329, .int 0, .ref 330]),
  (10, List.replicate 12 (.int 0)),
  (12, List.replicate 12 (.int 0)),
  (10, List.replicate 12 (.int 0)),
  (10, List.replicate 12 (.int 0)),
  (10, List.replicate 12 (.int 0)),
  (10, List.replicate 12 (.int 0)),
  (10, List.replicate 12 (.int 0)),
  (10, List.replicate 12 (.int 0)),
  (10, List.replicate 12 (.int 0)),
  (10, List.replicate 12 (.int 0)),
  (12, List.replicate 11 (.int 0)),
  (10, List.replicate 11 (.int 0)),
  (10, List.replicate 200 (.int 0)),
  (6, [.int 0, .int 0, .ref 332, .ref 333, .ref 334, .ref 335, .ref 336, .ref 337, .ref 338, .ref 339, .ref 340, .ref 341, .ref 342, .ref 343, .int 0, .ref 344]),
  (10, List.replicate 12 (.int 0)),
  (12, List.replicate 12 (.int 0)),
  (10, List.replicate 12 (.int 0)),
  (10, List.replicate 12 (.int 0)),
  (10, List.replicate 12 (.int 0)),
  (10, List.replicate 12 (.int 0)),
  (10, List.replicate 12 (.int 0)),
  (10, List.replicate 12 (.int 0)),
  (10, List.replicate 12 (.int 0)),
  (10, List.replicate 12 (.int 0)),
  (12, List.replicate 11 (.int 0)),
  (10, List.replicate 11 (.int 0)),
  (10, List.replicate 200 (.int 0)),
  (6, [.int 0, .int 0, .ref 346, .ref 347, .ref 348, .ref 349, .ref 350, .ref 351, .ref 352, .ref 353, .ref 354, .ref 355, .ref 356, .ref 357, .int 0, .ref 358]),
  (10, List.replicate 12 (.int 0)),
  (12, List.replicate 12 (.int 0)),
  (10, List.replicate 12 (.int 0)),
  (10, List.replicate 12 (.int 0)),
  (10, List.replicate 12 (.int 0)),
  (10, List.replicate 12 (.int 0)),
  (10, List.replicate 12 (.int 0)),
  (10, List.replicate 12 (.int 0)),
  (10, List.replicate 12 (.int 0)),
  (10, List.replicate 12 (.int 0)),
  (12, List.replicate 11 (.int 0)),
  (10, List.replicate 11 (.int 0)),
  (10, List.replicate 200 (.int 0)),
  (3, [.int 1, .ref 360]),
  (7, [.ref 361, .int 0]),
  (10, List.replicate 12 (.int 0)),
  (7, [.ref 363, .int 0]),
  (10, List.replicate 12 (.int 0)),
  (4, [.int 0, .ref 365, .int 0, .int 0, .ref 366, .int 0, .int 0, .int (-1), .int (-1), .int (-1), .ref 367, .ref 381]),
  (10, List.replicate 12 (.int 0)),
  (10, List.replicate 12 (.int 0)),
  (6, [.int 0, .int 0, .ref 368, .ref 369, .ref 370, .ref 371, .ref 372, .ref 373, .ref 374, .ref 375, .ref 376, .ref 377, .ref 378, .ref 379, .int 0, .ref 380]),
  (10, List.replicate 12 (.int 0)),
  (12, List.replicate 12 (.int 0)),
  (10, List.replicate 12 (.int 0)),
  (10, List.replicate 12 (.int 0)),
  (10, List.replicate 12 (.int 0)),
  (10, List.replicate 12 (.int 0)),
  (10, List.replicate 12 (.int 0)),
  (10, List.replicate 12 (.int 0)),
  (10, List.replicate 12 (.int 0)),
  (10, List.replicate 12 (.int 0)),
  (12, List.replicate 11 (.int 0)),
  (10, List.replicate 11 (.int 0)),
  (10, List.replicate 200 (.int 0)),
  (7, [.ref 382, .int 0]),
  (10, List.replicate 12 (.int 0)),
  (10, List.replicate 12 (.int 0)),
  (10, List.replicate 109 (.int 0)),
  (10, List.replicate 6 (.int 0))])
set_option maxRecDepth 1000000 in
theorem zo0_ok : zgo (zstep 8 true none cX8_init [] (zev [] 2000 10)) 9 zo0 = some zo1 := by decide +kernel
set_option maxRecDepth 1000000 in
theorem zo1_eq : zo1.2.2.2 = zr0.2.2.2 := by decide +kernel
set_option maxRecDepth 1000000 in
theorem zo1_ok : zgo (zstep 8 true none cX8_init [] (fun j' vs' _ => if j' = 1280 ∧ vs' = [.ref 2] then some (none, zrE) else none)) 1 zo1 = some zo2 := by decide +kernel
set_option maxRecDepth 1000000 in
theorem zo2_ok : zgo (zstep 8 true none cX8_init [] (zev [] 2000 10)) 19 zo2 = some zo3 := by decide +kernel
set_option maxRecDepth 1000000 in
theorem zo3_eq : zo3.2.2.2 = za0.2.2.2 := by decide +kernel
set_option maxRecDepth 1000000 in
theorem zo3_ok : zgo (zstep 8 true none cX8_init [] (fun j' vs' _ => if j' = 0 ∧ vs' = [.ref 77] then some (none, zaE) else none)) 1 zo3 = some zo4 := by decide +kernel
set_option maxRecDepth 1000000 in
theorem zo4_ok : zgo (zstep 8 true none cX8_init [] (zev [] 2000 10)) 28 zo4 = some zo5 := by decide +kernel
/-- behind the class' constructor -/
def zM0x : zM := [(8, [.ref 1, .int 0, .ref 2, .ref 28, .ref 49, .ref 63, .ref 77, .ref 359, .ref 362, .ref 364, .ref 383, .int 0, .ref 384, .int 0, .ref 385, .int 0]),
  (10, List.replicate 1600 (.int 0)),
  (5, [.int 0, .int (-1), .ref 3, .ref 4, .ref 5, .ref 6, .int 0, .int 0, .ref 7, .int 0, .int 0]),
  (10, [.int 5360102, .int 679716023, .int 9060516, .int 5342608, .int 189446445, .int 172280994, .int 667814, .int 26082, .int 626831, .int 20329136, .int 643382739, .int 21609735, .int 11634067, .int 641, .int 13669956, .int 7860, .int 20597804, .int 643419184, .int 642096, .int 529572, .int 464151, .int 591, .int 4545, .int 20974, .int 12673, .int 14637, .int 24621]),
  (10, List.replicate 1601 (.int 0)),
  (10, List.replicate 1601 (.int 0)),
  (10, List.replicate 1601 (.int 0)),
  (1, [.int 0, .int 0, .int 0, .ref 8, .ref 9, .ref 10, .ref 11, .ref 12, .ref 13, .ref 14, .ref 15, .ref 16, .ref 17, .ref 18, .ref 19, .ref 20]),
  (10, List.replicate 12 (.int 0)),
  (10, List.replicate 12 (.int 0)),
  (10, List.replicate 12 (.int 0)),
  (10, List.replicate 12 (.int 0)),
  (10, List.replicate 12 (.int 0)),
  (10, List.replicate 12 (.int 0)),
  (10, List.replicate 6 (.int 0)),
  (10, List.replicate 6 (.int 0)),
  (10, List.replicate 6 (.int 0)),
  (10, List.replicate 6 (.int 0)),
  (10, List.replicate 6 (.int 0)),
  (10, List.replicate 11 (.int 0)),
  (2, [.int 0, .int 0, .ref 21, .ref 22, .ref 23, .ref 24, .ref 25, .ref 26, .ref 27]),
  (10, List.replicate 1600 (.int 0)),
  (12, List.replicate 8 (.int 0)),
  (10, List.replicate 8 (.int 0)),
  (10, List.replicate 8 (.int 0)),
  (10, List.replicate 8 (.int 0)),
  (10, List.replicate 64 (.int 0)),
  (10, List.replicate 7 (.int 0)),
  (1, [.int 0, .int 0, .int 0, .ref 29, .ref 30, .ref 31, .ref 32, .ref 33, .ref 34, .ref 35, .ref 36, .ref 37, .ref 38, .ref 39, .ref 40, .ref 41]),
  (10, List.replicate 12 (.int 0)),
  (10, List.replicate 12 (.int 0)),
  (10, List.replicate 12 (.int 0)),
  (10, List.replicate 12 (.int 0)),
  (10, List.replicate 12 (.int 0)),
  (10, List.replicate 12 (.int 0)),
  (10, List.replicate 6 (.int 0)),
  (10, List.replicate 6 (.int 0)),
  (10, List.replicate 6 (.int 0)),
  (10, List.replicate 6 (.int 0)),
  (10, List.replicate 6 (.int 0)),
  (10, List.replicate 11 (.int 0)),
  (2, [.int 0, .int 0, .ref 42, .ref 43, .ref 44, .ref 45, .ref 46, .ref 47, .ref 48]),
  (10, List.replicate 1600 (.int 0)),
  (12, List.replicate 8 (.int 0)),
  (10, List.replicate 8 (.int 0)),
  (10, List.replicate 8 (.int 0)),
  (10, List.replicate 8 (.int 0)),
  (10, List.replicate 64 (.int 0)),
  (10, List.replicate 7 (.int 0)),
  (6, [.int 0, .int 0, .ref 50, .ref 51, .ref 52, .ref 53, .ref 54, .ref 55, .ref 56, .ref 57, .ref 58, .ref 59, .ref 60, .ref 61, .int 0, .ref 62]),
  (10, List.replicate 12 (.int 0)),
  (12, List.replicate 12 (.int 0)),
  (10, List.replicate 12 (.int 0)),
  (10, List.replicate 12 (.int 0)),
  (10, List.replicate 12 (.int 0)),
  (10, List.replicate 12 (.int 0)),
  (10, List.replicate 12 (.int 0)),
  (10, List.replicate 12 (.int 0)),
  (10, List.replicate 12 (.int 0)),
  (10, List.replicate 12 (.int 0)),
  (12, List.replicate 11 (.int 0)),
  (10, List.replicate 11 (.int 0)),
  (10, List.replicate 200 (.int 0)),
  (6, [.int 0, .int 0, .ref 64, .ref 65, .ref 66, .ref 67, .ref 68, .ref 69, .ref 70, .ref 71, .ref 72, .ref 73, .ref 74, .ref 75, .int 0, .ref 76]),
  (10, List.replicate 12 (.int 0)),
  (12, List.replicate 12 (.int 0)),
  (10, List.replicate 12 (.int 0)),
  (10, List.replicate 12 (.int 0)),
  (10, List.replicate 12 (.int 0)),
  (10, List.replicate 12 (.int 0)),
  (10, List.replicate 12 (.int 0)),
  (10, List.replicate 12 (.int 0)),
  (10, List.replicate 12 (.int 0)),
  (10, List.replicate 12 (.int 0)),
  (12, List.replicate 11 (.int 0)),
  (10, List.replicate 11 (.int 0)),
  (10, List.replicate 200 (.int 0)),
  (0, [.int 0, .int 0, .ref 78]),
  (13, [.ref 79, .ref 93, .ref 107, .ref 121, .ref 135, .ref 149, .ref 163, .ref 177, .ref 191, .ref 205, .ref 219, .ref 233, .ref 247, .ref 261, .ref 275, .ref 289, .ref 303, .ref 317, .ref 331, .ref 345]),
  (6, [.int 0, .int 0, .ref 80, .ref 81, .ref 82, .ref 83, .ref 84, .ref 85, .ref 86, .ref 87, .ref 88, .ref 89, .ref 90, .ref 91, .int 0, .ref 92]),
  (10, List.replicate 12 (.int 0)),
  (12, List.replicate 12 (.int 0)),
  (10, List.replicate 12 (.int 0)),
  (10, List.replicate 12 (.int 0)),
  (10, List.replicate 12 (.int 0)),
  (10, List.replicate 12 (.int 0)),
  (10, List.replicate 12 (.int 0)),
  (10, List.replicate 12 (.int 0)),
  (10, List.replicate 12 (.int 0)),
  (10, List.replicate 12 (.int 0)),
  (12, List.replicate 11 (.int 0)),
  (10, List.replicate 11 (.int 0)),
  (10, List.replicate 200 (.int 0)),
  (6, [.int 0, .int 0, .ref 94, .ref 95, .ref 96, .ref 97, .ref 98, .ref 99, .ref 100, .ref 101, .ref 102, .ref 103, .ref 104, .ref 105, .int 0, .ref 106]),
  (10, List.replicate 12 (.int 0)),
  (12, List.replicate 12 (.int 0)),
  (10, List.replicate 12 (.int 0)),
  (10, List.replicate 12 (.int 0)),
  (10, List.replicate 12 (.int 0)),
  (10, List.replicate 12 (.int 0)),
  (10, List.replicate 12 (.int 0)),
  (10, List.replicate 12 (.int 0)),
  (10, List.replicate 12 (.int 0)),
  (10, List.replicate 12 (.int 0)),
  (12, List.replicate 11 (.int 0)),
  (10, List.replicate 11 (.int 0)),
  (10, List.replicate 200 (.int 0)),
  (6, [.int 0, .int 0, .ref 108, .ref 109, .ref 110, .ref 111, .ref 112, .ref 113, .ref 114, .ref 115, .ref 116, .ref 117, .ref 118, .ref 119, .int 0, .ref 120]),
  (10, List.replicate 12 (.int 0)),
  (12, List.replicate 12 (.int 0)),
  (10, List.replicate 12 (.int 0)),
  (10, List.replicate 12 (.int 0)),
  (10, List.replicate 12 (.int 0)),
  (10, List.replicate 12 (.int 0)),
  (10, List.replicate 12 (.int 0)),
  (10, List.replicate 12 (.int 0)),
  (10, List.replicate 12 (.int 0)),
  (10, List.replicate 12 (.int 0)),
  (12, List.replicate 11 (.int 0)),
  (10, List.replicate 11 (.int 0)),
  (10, List.replicate 200 (.int 0)),
  (6, [.int 0, .int 0, .ref 122, .ref 123, .ref 124, .ref 125, .ref 126, .ref 127, .ref 128, .ref 129, .ref 130, .ref 131, .ref 132, .ref 133, .int 0, .ref 134]),
  (10, List.replicate 12 (.int 0)),
  (12, List.replicate 12 (.int 0)),
  (10, List.replicate 12 (.int 0)),
  (10, List.replicate 12 (.int 0)),
  (10, List.replicate 12 (.int 0)),
  (10, List.replicate 12 (.int 0)),
  (10, List.replicate 12 (.int 0)),
  (10, List.replicate 12 (.int 0)),
  (10, List.replicate 12 (.int 0)),
  (10, List.replicate 12 (.int 0)),
  (12, List.replicate 11 (.int 0)),
  (10, List.replicate 11 (.int 0)),
  (10, List.replicate 200 (.int 0)),
  (6, [.int 0, .int 0, .ref 136, .ref 137, .ref 138, .ref 139, .ref 140, .ref 141, .ref 142, .ref 143, .ref 144, .ref 145, .ref 146, .ref 147, .int 0, .ref 148]),
  (10, List.replicate 12 (.int 0)),
  (12, List.replicate 12 (.int 0)),
  (10, List.replicate 12 (.int 0)),
  (10, List.replicate 12 (.int 0)),
  (10, List.replicate 12 (.int 0)),
  (10, List.replicate 12 (.int 0)),
  (10, List.replicate 12 (.int 0)),
  (10, List.replicate 12 (.int 0)),
  (10, List.replicate 12 (.int 0)),
  (10, List.replicate 12 (.int 0)),
  (12, List.replicate 11 (.int 0)),
  (10, List.replicate 11 (.int 0)),
  (10, List.replicate 200 (.int 0)),
  (6, [.int 0, .int 0, .ref 150, .ref 151, .ref 152, .ref 153, .ref 154, .ref 155, .ref 156, .ref 157, .ref 158, .ref 159, .ref 160, .ref 161, .int 0, .ref 162]),
  (10, List.replicate 12 (.int 0)),
  (12, List.replicate 12 (.int 0)),
  (10, List.replicate 12 (.int 0)),
  (10, List.replicate 12 (.int 0)),
  (10, List.replicate 12 (.int 0)),
  (10, List.replicate 12 (.int 0)),
  (10, List.replicate 12 (.int 0)),
  (10, List.replicate 12 (.int 0)),
  (10, List.replicate 12 (.int 0)),
  (10, List.replicate 12 (.int 0)),
  (12, List.replicate 11 (.int 0)),
  (10, List.replicate 11 (.int 0)),
  (10, List.replicate 200 (.int 0)),
  (6, [.int 0, .int 0, .ref 164, .ref 165, .ref 166, .ref 167, .ref 168, .ref 169, .ref 170, .ref 171, .ref 172, .ref 173, .ref 174, .ref 175, .int 0, .ref 176]),
  (10, List.replicate 12 (.int 0)),
  (12, List.replicate 12 (.int 0)),
  (10, List.replicate 12 (.int 0)),
  (10, List.replicate 12 (.int 0)),
  (10, List.replicate 12 (.int 0)),
  (10, List.replicate 12 (.int 0)),
  (10, List.replicate 12 (.int 0)),
  (10, List.replicate 12 (.int 0)),
  (10, List.replicate 12 (.int 0)),
  (10, List.replicate 12 (.int 0)),
  (12, List.replicate 11 (.int 0)),
  (10, List.replicate 11 (.int 0)),
  (10, List.replicate 200 (.int 0)),
  (6, [.int 0, .int 0, .ref 178, .ref 179, .ref 180, .ref 181, .ref 182, .ref 183, .ref 184, .ref 185, .ref 186, .ref 187, .ref 188, .ref 189, .int 0, .ref 190]),
  (10, List.replicate 12 (.int 0)),
  (12, List.replicate 12 (.int 0)),
  (10, List.replicate 12 (.int 0)),
  (10, List.replicate 12 (.int 0)),
  (10, List.replicate 12 (.int 0)),
  (10, List.replicate 12 (.int 0)),
  (10, List.replicate 12 (.int 0)),
  (10, List.replicate 12 (.int 0)),
  (10, List.replicate 12 (.int 0)),
  (10, List.replicate 12 (.int 0)),
  (12, List.replicate 11 (.int 0)),
  (10, List.replicate 11 (.int 0)),
  (10, List.replicate 200 (.int 0)),
  (6, [.int 0, .int 0, .ref 192, .ref 193, .ref 194, .ref 195, .ref 196, .ref 197, .ref 198, .ref 199, .ref 200, .ref 201, .ref 202, .ref 203, .int 0, .ref 204]),
  (10, List.replicate 12 (.int 0)),
  (12, List.replicate 12 (.int 0)),
  (10, List.replicate 12 (.int 0)),
  (10, List.replicate 12 (.int 0)),
  (10, List.replicate 12 (.int 0)),
  (10, List.replicate 12 (.int 0)),
  (10, List.replicate 12 (.int 0)),
  (10, List.replicate 12 (.int 0)),
  (10, List.replicate 12 (.int 0)),
  (10, List.replicate 12 (.int 0)),
  (12, List.replicate 11 (.int 0)),
  (10, List.replicate 11 (.int 0)),
  (10, List.replicate 200 (.int 0)),
  (6, [.int 0, .int 0, .ref 206, .ref 207, .ref 208, .ref 209, .ref 210, .ref 211, .ref 212, .ref 213, .ref 214, .ref 215, .ref 216, .ref 217, .int 0, .ref 218]),
  (10, List.replicate 12 (.int 0)),
  (12, List.replicate 12 (.int 0)),
  (10, List.replicate 12 (.int 0)),
  (10, List.replicate 12 (.int 0)),
  (10, List.replicate 12 (.int 0)),
  (10, List.replicate 12 (.int 0)),
  (10, List.replicate 12 (.int 0)),
  (10, List.replicate 12 (.int 0)),
  (10, List.replicate 12 (.int 0)),
  (10, List.replicate 12 (.int 0)),
  (12, List.replicate 11 (.int 0)),
  (10, List.replicate 11 (.int 0)),
  (10, List.replicate 200 (.int 0)),
  (6, [.int 0, .int 0, .ref 220, .ref 221, .ref 222, .ref 223, .ref 224, .ref 225, .ref 226, .ref 227, .ref 228, .ref 229, .ref 230, .ref 231, .int 0, .ref 232]),
  (10, List.replicate 12 (.int 0)),
  (12, List.replicate 12 (.int 0)),
  (10, List.replicate 12 (.int 0)),
  (10, List.replicate 12 (.int 0)),
  (10, List.replicate 12 (.int 0)),
  (10, List.replicate 12 (.int 0)),
  (10, List.replicate 12 (.int 0)),
  (10, List.replicate 12 (.int 0)),
  (10, List.replicate 12 (.int 0)),
  (10, List.replicate 12 (.int 0)),
  (12, List.replicate 11 (.int 0)),
  (10, List.replicate 11 (.int 0)),
  (10, List.replicate 200 (.int 0)),
  (6, [.int 0, .int 0, .ref 234, .ref 235, .ref 236, .ref 237, .ref 238, .ref 239, .ref 240, .ref 241, .ref 242, .ref 243, .ref 244, .ref 245, .int 0, .ref 246]),
  (10, List.replicate 12 (.int 0)),
  (12, List.replicate 12 (.int 0)),
  (10, List.replicate 12 (.int 0)),
  (10, List.replicate 12 (.int 0)),
  (10, List.replicate 12 (.int 0)),
  (10, List.replicate 12 (.int 0)),
  (10, List.replicate 12 (.int 0)),
  (10, List.replicate 12 (.int 0)),
  (10, List.replicate 12 (.int 0)),
  (10, List.replicate 12 (.int 0)),
  (12, List.replicate 11 (.int 0)),
  (10, List.replicate 11 (.int 0)),
  (10, List.replicate 200 (.int 0)),
  (6, [.int 0, .int 0, .ref 248, .ref 249, .ref 250, .ref 251, .ref 252, .ref 253, .ref 254, .ref 255, .ref 256, .ref 257, .ref 258, .ref 259, .int 0, .ref 260]),
  (10, List.replicate 12 (.int 0)),
  (12, List.replicate 12 (.int 0)),
  (10, List.replicate 12 (.int 0)),
  (10, List.replicate 12 (.int 0)),
  (10, List.replicate 12 (.int 0)),
  (10, List.replicate 12 (.int 0)),
  (10, List.replicate 12 (.int 0)),
  (10, List.replicate 12 (.int 0)),
  (10, List.replicate 12 (.int 0)),
  (10, List.replicate 12 (.int 0)),
  (12, List.replicate 11 (.int 0)),
  (10, List.replicate 11 (.int 0)),
  (10, List.replicate 200 (.int 0)),
  (6, [.int 0, .int 0, .ref 262, .ref 263, .ref 264, .ref 265, .ref 266, .ref 267, .ref 268, .ref 269, .ref 270, .ref 271, .ref 272, .ref 273, .int 0, .ref 274]),
  (10, List.replicate 12 (.int 0)),
  (12, List.replicate 12 (.int 0)),
  (10, List.replicate 12 (.int 0)),
  (10, List.replicate 12 (.int 0)),
  (10, List.replicate 12 (.int 0)),
  (10, List.replicate 12 (.int 0)),
  (10, List.replicate 12 (.int 0)),
  (10, List.replicate 12 (.int 0)),
  (10, List.replicate 12 (.int 0)),
  (10, List.replicate 12 (.int 0)),
  (12, List.replicate 11 (.int 0)),
  (10, List.replicate 11 (.int 0)),
  (10, List.replicate 200 (.int 0)),
  (6, [.int 0, .int 0, .ref 276, .ref 277, .ref 278, .ref 279, .ref 280, .ref 281, .ref 282, .ref 283, .ref 284, .ref 285, .ref 286, .ref 287, .int 0, .ref 288]),
  (10, List.replicate 12 (.int 0)),
  (12, List.replicate 12 (.int 0)),
  (10, List.replicate 12 (.int 0)),
  (10, List.replicate 12 (.int 0)),
  (10, List.replicate 12 (.int 0)),
  (10, List.replicate 12 (.int 0)),
  (10, List.replicate 12 (.int 0)),
  (10, List.replicate 12 (.int 0)),
  (10, List.replicate 12 (.int 0)),
  (10, List.replicate 12 (.int 0)),
  (12, List.replicate 11 (.int 0)),
  (10, List.replicate 11 (.int 0)),
  (10, List.replicate 200 (.int 0)),
  (6, [.int 0, .int 0, .ref 290, .ref 291, .ref 292, .ref 293, .ref 294, .ref 295, .ref 296, .ref 297, .ref 298, .ref 299, .ref 300, .ref 301, .int 0, .ref 302]),
  (10, List.replicate 12 (.int 0)),
  (12, List.replicate 12 (.int 0)),
  (10, List.replicate 12 (.int 0)),
  (10, List.replicate 12 (.int 0)),
  (10, List.replicate 12 (.int 0)),
  (10, List.replicate 12 (.int 0)),
  (10, List.replicate 12 (.int 0)),
  (10, List.replicate 12 (.int 0)),
  (10, List.replicate 12 (.int 0)),
  (10, List.replicate 12 (.int 0)),
  (12, List.replicate 11 (.int 0)),
  (10, List.replicate 11 (.int 0)),
  (10, List.replicate 200 (.int 0)),
  (6, [.int 0, .int 0, .ref 304, .ref 305, .ref 306, .ref 307, .ref 308, .ref 309, .ref 310, .ref 311, .ref 312, .ref 313, .ref 314, .ref 315, .int 0, .ref 316]),
  (10, List.replicate 12 (.int 0)),
  (12, List.replicate 12 (.int 0)),
  (10, List.replicate 12 (.int 0)),
  (10, List.replicate 12 (.int 0)),
  (10, List.replicate 12 (.int 0)),
  (10, List.replicate 12 (.int 0)),
  (10, List.replicate 12 (.int 0)),
  (10, List.replicate 12 (.int 0)),
  (10, List.replicate 12 (.int 0)),
  (10, List.replicate 12 (.int 0)),
  (12, List.replicate 11 (.int 0)),
  (10, List.replicate 11 (.int 0)),
  (10, List.replicate 200 (.int 0)),
  (6, [.int 0, .int 0, .ref 318, .ref 319, .ref 320, .ref 321, .ref 322, .ref 323, .ref 324, .ref 325, .ref 326, .ref 327, .ref 328, .ref 329, .int 0, .ref 330]),
  (10, List.replicate 12 (.int 0)),
  (12, List.replicate 12 (.int 0)),
  (10, List.replicate 12 (.int 0)),
  (10, List.replicate 12 (.int 0)),
  (10, List.replicate 12 (.int 0)),
  (10, List.replicate 12 (.int 0)),
  (10, List.replicate 12 (.int 0)),
  (10, List.replicate 12 (.int 0)),
  (10, List.replicate 12 (.int 0)),
  (10, List.replicate 12 (.int 0)),
  (12, List.replicate 11 (.int 0)),
  (10, List.replicate 11 (.int 0)),
  (10, List.replicate 200 (.int 0)),
  (6, [.int 0, .int 0, .ref 332, .ref 333, .ref 334, .ref 335, .ref 336, .ref 337, .ref 338, .ref 339, .ref 340, .ref 341, .ref 342, .ref 343, .int 0, .ref 344]),
  (10, List.replicate 12 (.int 0)),
  (12, List.replicate 12 (.int 0)),
  (10, List.replicate 12 (.int 0)),
  (10, List.replicate 12 (.int 0)),
  (10, List.replicate 12 (.int 0)),
  (10, List.replicate 12 (.int 0)),
  (10, List.replicate 12 (.int 0)),
  (10, List.replicate 12 (.int 0)),
  (10, List.replicate 12 (.int 0)),
  (10, List.replicate 12 (.int 0)),
  (12, List.replicate 11 (.int 0)),
  (10, List.replicate 11 (.int 0)),
  (10, List.replicate 200 (.int 0)),
  (6, [.int 0, .int 0, .ref 346, .ref 347, .ref 348, .ref 349, .ref 350, .ref 351, .ref 352, .ref 353, .ref 354, .ref 355, .ref 356, .ref 357, .int 0, .ref 358]),
  (10, List.replicate 12 (.int 0)),
  (12, List.replicate 12 (.int 0)),
  (10, List.replicate 12 (.int 0)),
  (10, List.replicate 12 (.int 0)),
  (10, List.replicate 12 (.int 0)),
  (10, List.replicate 12 (.int 0)),
  (10, List.replicate 12 (.int 0)),
  (10, List.replicate 12 (.int 0)),
  (10, List.replicate 12 (.int 0)),
  (10, List.replicate 12 (.int 0)),
  (12, List.replicate 11 (.int 0)),
  (10, List.replicate 11 (.int 0)),
  (10, List.replicate 200 (.int 0)),
  (3, [.int 1, .ref 360]),
  (7, [.ref 361, .int 0]),
  (10, List.replicate 12 (.int 0)),
  (7, [.ref 363, .int 0]),
  (10, List.replicate 12 (.int 0)),
  (4, [.int 0, .ref 365, .int 0, .int 0, .ref 366, .int 0, .int 0, .int (-1), .int (-1), .int (-1), .ref 367, .ref 381]),
  (10, List.replicate 12 (.int 0)),
  (10, List.replicate 12 (.int 0)),
  (6, [.int 0, .int 0, .ref 368, .ref 369, .ref 370, .ref 371, .ref 372, .ref 373, .ref 374, .ref 375, .ref 376, .ref 377, .ref 378, .ref 379, .int 0, .ref 380]),
  (10, List.replicate 12 (.int 0)),
  (12, List.replicate 12 (.int 0)),
  (10, List.replicate 12 (.int 0)),
  (10, List.replicate 12 (.int 0)),
  (10, List.replicate 12 (.int 0)),
  (10, List.replicate 12 (.int 0)),
  (10, List.replicate 12 (.int 0)),
  (10, List.replicate 12 (.int 0)),
  (10, List.replicate 12 (.int 0)),
  (10, List.replicate 12 (.int 0)),
  (12, List.replicate 11 (.int 0)),
  (10, List.replicate 11 (.int 0)),
  (10, List.replicate 200 (.int 0)),
  (7, [.ref 382, .int 0]),
  (10, List.replicate 12 (.int 0)),
  (10, List.replicate 12 (.int 0)),
  (10, List.replicate 109 (.int 0)),
  (10, List.replicate 6 (.int 0))]
set_option maxRecDepth 1000000 in
theorem zo_fin : zout (zstep 8 true none cX8_init [] (fun _ _ _ => none)) zo5 = some (none, zM0x) := by decide +kernel
theorem zrun0x : ZC [] 11 2048 [.ref 0] [(8, zdef 8)] (none, zM0x) := by
  refine ZC.of (ci := 8) (na := 0) (y := yX8_init) (cc := cX8_init) (ml := 1) (ret := none) rfl (by decide) ?_
  show ZX [] 10 8 (decide (yX8_init.name = "<init>")) none cX8_init (0, zent [.ref 0] 1, [], [(8, zdef 8)]) (none, zM0x)
  rw [show decide (yX8_init.name = "<init>") = true from by decide +kernel, show ((0, zent [.ref 0] 1, [], [(8, zdef 8)]) : zS) = zo0 from by decide +kernel]
  refine ZX.go (zct 2000 10) _ zo0_ok ?_
  refine ZX.call (j := 1280) (vs := [.ref 2]) (r1 := (none, zrE)) (by rw [zo1_eq]; exact zr_all) (zgo1_eq zo1_ok) ?_
  refine ZX.go (zct 2000 10) _ zo2_ok ?_
  refine ZX.call (j := 0) (vs := [.ref 77]) (r1 := (none, zaE)) (by rw [zo3_eq]; exact za_all) (zgo1_eq zo3_ok) ?_
  refine ZX.go (zct 2000 10) _ zo4_ok ?_
  exact ZX.gofin (zout_eq zo_fin)
/-- what the reference's constructor puts behind it -/
def zM0m : zM := [(9, [.ref 387, .int 0, .int 0, .int 0, .int 0, .int 0, .int 0, .long 0, .int 0, .int (-1), .int 0, .int (-1), .int 0, .ref 388, .ref 389, .ref 390, .ref 391, .ref 392, .ref 393, .ref 394, .ref 395, .ref 396, .ref 397, .ref 398, .ref 399, .ref 400, .ref 401, .ref 402, .ref 403, .ref 404, .ref 405, .ref 406, .ref 407, .ref 408, .int 0, .int 1, .ref 409, .ref 410, .ref 411, .ref 412, .ref 413, .int 0, .int 0, .ref 414, .int 0, .int 0, .ref 415, .ref 416, .ref 417, .ref 418, .ref 419, .ref 420, .ref 421, .ref 422, .ref 423, .ref 424, .ref 425, .ref 426, .ref 427, .ref 428, .ref 429, .ref 430, .ref 431, .ref 432, .int 0, .int 0, .long 1, .ref 433, .int 0, .ref 434, .int 0, .int 0, .int 0, .ref 435, .int 0, .int 0, .ref 436, .int 0, .ref 437, .ref 438, .ref 439, .int 0]),
  (10, List.replicate 1800 (.int 0)),
  (10, [.int 0, .int 0]),
  (11, List.replicate 24 (.long 0)),
  (10, List.replicate 24 (.int 0)),
  (10, List.replicate 24 (.int 0)),
  (10, List.replicate 24 (.int 0)),
  (10, List.replicate 24 (.int 0)),
  (10, List.replicate 24 (.int 0)),
  (10, List.replicate 22 (.int 0)),
  (10, [.int 0, .int 0]),
  (11, List.replicate 12 (.long 0)),
  (10, List.replicate 12 (.int 0)),
  (10, List.replicate 12 (.int 0)),
  (10, List.replicate 12 (.int 0)),
  (10, List.replicate 12 (.int 0)),
  (10, [.int 0, .int 0]),
  (10, List.replicate 16 (.int 0)),
  (10, List.replicate 16 (.int 0)),
  (10, List.replicate 16 (.int 0)),
  (10, List.replicate 16 (.int 0)),
  (10, List.replicate 3200 (.int 0)),
  (10, List.replicate 3200 (.int 0)),
  (10, List.replicate 20 (.int 0)),
  (10, List.replicate 20 (.int 0)),
  (12, List.replicate 20 (.int 0)),
  (10, List.replicate 20 (.int 0)),
  (10, List.replicate 20 (.int 0)),
  (10, List.replicate 500 (.int 0)),
  (10, List.replicate 6 (.int 0)),
  (11, List.replicate 1650 (.long 0)),
  (10, List.replicate 10 (.int 0)),
  (10, List.replicate 22 (.int 0)),
  (10, List.replicate 264 (.int 0)),
  (10, List.replicate 264 (.int 0)),
  (10, List.replicate 264 (.int 0)),
  (10, List.replicate 264 (.int 0)),
  (10, List.replicate 264 (.int 0)),
  (10, List.replicate 264 (.int 0)),
  (10, List.replicate 264 (.int 0)),
  (10, List.replicate 264 (.int 0)),
  (10, List.replicate 264 (.int 0)),
  (10, List.replicate 264 (.int 0)),
  (10, List.replicate 242 (.int 0)),
  (10, List.replicate 242 (.int 0)),
  (10, List.replicate 22 (.int 0)),
  (10, List.replicate 22000 (.int 0)),
  (10, List.replicate 12 (.int 0)),
  (10, List.replicate 12 (.int 0)),
  (10, List.replicate 12 (.int 0)),
  (10, List.replicate 12 (.int 0)),
  (10, [.int 0, .int 0, .int 0, .int 0]),
  (10, [.int 0, .int 0, .int 0, .int 0]),
  (10, List.replicate 120 (.int 0))]
def zM0 : zM := zM0x ++ zM0m
set_option maxRecDepth 1000000 in
theorem zrun0m : zev [] 100000 10 2304 [.ref 386] (zM0x ++ [(9, zdef 9)]) = some (none, zM0) := by decide +kernel
theorem zM0_len : zM0.length = 440 := by decide +kernel
theorem zM0x_len : zM0x.length = 386 := by decide +kernel
set_option maxRecDepth 1000000 in
theorem zM0_sl : zsl zM0 = 54791 := by decide +kernel
theorem ZC.X {X : List Int32} {d j : Nat} {vs : List Value} {M : zM} {r : zRes} (h : ZC [] d j vs M r) : ZC X d j vs M r := by
  obtain ⟨F, h⟩ := h
  exact ⟨F, by rw [zev_X X []]; exact h⟩
end
section
/-! rows of the small machine for runs over unknown numbers: by the kind of the instruction -/
section ZXK
variable {X : List Int32} {d own : Nat} {ini : Bool} {ret : Option FieldType} {cc : ByteArray} {r : zRes} {pc n : Nat} {i : Instr} {ml ml' : zML} {st st' : List Value} {M M' : zM}
theorem ZX.pu (hd : decode cc pc = .ok (i, n)) (h1 : zret ret i st = none) (h : zpure i st = some (n, st')) (k : ZX X d own ini ret cc (pc + n, ml, st', M) r) : ZX X d own ini ret cc (pc, ml, st, M) r := by
  refine ZX.step ?_ k
  unfold zstep
  simp only [hd, h1, h]
  rw [if_pos trivial]
theorem ZX.br {pc' : Nat} (hd : decode cc pc = .ok (i, n)) (h1 : zret ret i st = none) (h2 : zpure i st = none) (h : zbr i pc n st = some (pc', st')) (k : ZX X d own ini ret cc (pc', ml, st', M) r) : ZX X d own ini ret cc (pc, ml, st, M) r := by
  refine ZX.step ?_ k
  unfold zstep
  simp only [hd, h1, h2, h]
theorem ZX.lo (hd : decode cc pc = .ok (i, n)) (h1 : zret ret i st = none) (h2 : zpure i st = none) (h3 : zbr i pc n st = none) (h : zloc i ml st = some (n, ml', st')) (k : ZX X d own ini ret cc (pc + n, ml', st', M) r) : ZX X d own ini ret cc (pc, ml, st, M) r := by
  refine ZX.step ?_ k
  unfold zstep
  simp only [hd, h1, h2, h3, h]
  rw [if_pos trivial]
theorem ZX.me (hd : decode cc pc = .ok (i, n)) (h1 : zret ret i st = none) (h2 : zpure i st = none) (h3 : zbr i pc n st = none) (h4 : zloc i ml st = none) (h : zmem own ini X i st M = some (n, st', M')) (k : ZX X d own ini ret cc (pc + n, ml, st', M') r) : ZX X d own ini ret cc (pc, ml, st, M) r := by
  refine ZX.step ?_ k
  unfold zstep
  simp only [hd, h1, h2, h3, h4, h]
  rw [if_pos trivial]
theorem ZX.ca {j : Nat} {vs : List Value} {r1 : zRes} (hc : ZC X d j vs M r1) (hd : decode cc pc = .ok (i, 3)) (h1 : zret ret i st = none) (h2 : zpure i st = none) (h3 : zbr i pc 3 st = none) (h4 : zloc i ml st = none) (h5 : zmem own ini X i st M = none) (h : zinv own (fun j' vs' _ => if j' = j ∧ vs' = vs then some r1 else none) i st M = some (st', M')) (k : ZX X d own ini ret cc (pc + 3, ml, st', M') r) : ZX X d own ini ret cc (pc, ml, st, M) r := by
  refine ZX.call hc (st' := (pc + 3, ml, st', M')) ?_ k
  unfold zstep
  simp only [hd, h1, h2, h3, h4, h5, h]
  rw [if_pos trivial]
theorem ZX.en {v : Option Value} (hd : decode cc pc = .ok (i, 1)) (h1 : zret ret i st = some v) : ZX X d own ini ret cc (pc, ml, st, M) (v, M) := by
  refine ZX.fin ?_
  unfold zstep
  simp only [hd, h1]
  rw [if_pos trivial]
/-- getfield -/
theorem ZX.gf {idx ci k a : Nat} {vs s' : List Value} {v : Value} (hd : decode cc pc = .ok (.getfield idx, 3)) (hf : zfld own idx = some (ci, k)) (ha : zarr M a ci = some vs) (hv : vs[k]? = some v) (kk : ZX X d own ini ret cc (pc + 3, ml, v :: s', M) r) : ZX X d own ini ret cc (pc, ml, .ref a :: s', M) r := by
  refine ZX.me hd rfl rfl rfl rfl ?_ kk
  simp only [zmem, hf, ha, hv, Option.map_some]
/-- putfield -/
theorem ZX.pf {idx ci k a : Nat} {vs s' : List Value} {v : Value} (hd : decode cc pc = .ok (.putfield idx, 3)) (hf : zfld own idx = some (ci, k)) (ha : zarr M a ci = some vs) (hq : k < vs.length ∧ narrow (zty ci k) v = v ∧ fits (zty ci k) v = true ∧ ((ztb ci k).2.2.2 = true → ini = true ∧ own = ci)) (kk : ZX X d own ini ret cc (pc + 3, ml, s', M.set a (ci, vs.set k v)) r) : ZX X d own ini ret cc (pc, ml, v :: .ref a :: s', M) r := by
  refine ZX.me hd ?_ ?_ ?_ ?_ ?_ kk
  · cases s' <;> rfl
  · cases v <;> rfl
  · cases v <;> rfl
  · cases v <;> rfl
  · simp only [zmem, hf, ha]
    rw [if_pos hq]
/-- iaload, laload, baload, aaload -/
theorem ZX.ia {a : Nat} {x : Int32} {k : Nat} {vs s' : List Value} {v : Value} (hd : decode cc pc = .ok (.iaload, 1)) (hb : a ≠ zBig) (ha : zarr M a 10 = some vs) (hk : zidx vs x = some k) (hv : vs[k]? = some v) (kk : ZX X d own ini ret cc (pc + 1, ml, v :: s', M) r) : ZX X d own ini ret cc (pc, ml, .int x :: .ref a :: s', M) r := by
  refine ZX.me hd rfl rfl rfl rfl ?_ kk
  simp only [zmem, zald, ha, hk, hv, Option.map_some]
  rw [if_neg hb]
/-- iastore -/
theorem ZX.is {a : Nat} {x y : Int32} {k : Nat} {vs s' : List Value} (hd : decode cc pc = .ok (.iastore, 1)) (ha : zarr M a 10 = some vs) (hk : zidx vs x = some k) (kk : ZX X d own ini ret cc (pc + 1, ml, s', M.set a (10, vs.set k (.int y))) r) : ZX X d own ini ret cc (pc, ml, .int y :: .int x :: .ref a :: s', M) r := by
  refine ZX.me hd rfl rfl rfl rfl ?_ kk
  simp only [zmem, zast, ha, hk, Option.map_some]
/-- the law's own reading of the script -/
theorem ZX.sl {x : Int32} {s' : List Value} (hd : decode cc pc = .ok (.arraylength, 1)) (ho : own = 10) (kk : ZX X d own ini ret cc (pc + 1, ml, .int (nI X.length) :: s', M) r) : ZX X d own ini ret cc (pc, ml, .ref zBig :: s', M) r := by
  refine ZX.me hd rfl rfl rfl rfl ?_ kk
  simp only [zmem]
  rw [if_pos trivial, if_pos ho]
theorem ZX.sr {x : Int32} {s' : List Value} (hd : decode cc pc = .ok (.iaload, 1)) (ho : own = 10) (hx : ¬ (x < 0 ∨ X.length ≤ x.toNatClampNeg)) (kk : ZX X d own ini ret cc (pc + 1, ml, .int (X.getD x.toNatClampNeg 0) :: s', M) r) : ZX X d own ini ret cc (pc, ml, .int x :: .ref zBig :: s', M) r := by
  refine ZX.me hd rfl rfl rfl rfl ?_ kk
  simp only [zmem]
  rw [if_pos trivial, if_neg (fun q => q.elim (fun z => z ho) hx)]
/-- invokevirtual of a method of one's own -/
theorem ZX.iv {idx j ci na a : Nat} {y : MethodName} {c2 : ByteArray} {ml2 pos : Nat} {ret2 : Option FieldType} {vs As s' : List Value} {r1 : zRes} (hd : decode cc pc = .ok (.invokevirtual idx, 3)) (hcl : zcall own idx = some (0, j)) (hz : zmt j = some (ci, na, y, c2, ml2, ret2, pos)) (hst : st = As.reverse ++ .ref a :: s') (hn : As.length = na) (ha : zarr M a ci = some vs) (hcat : zcat s' ≤ 8) (hc : ZC X d j (.ref a :: As) M r1) (kk : ZX X d own ini ret cc (pc + 3, ml, r1.1.toList ++ s', r1.2) r) : ZX X d own ini ret cc (pc, ml, st, M) r := by
  have e1 : st.drop na = .ref a :: s' := by
    rw [hst, ← hn, ← List.length_reverse, List.drop_left]
  have e2 : (st.take na).reverse = As := by
    rw [hst, ← hn, ← List.length_reverse, List.take_left, List.reverse_reverse]
  have e3 : na ≤ st.length := by
    rw [hst, ← hn]
    simp
  refine ZX.ca hc hd ?_ ?_ ?_ ?_ ?_ ?_ kk
  · cases st <;> rfl
  · cases st <;> rfl
  · cases st <;> rfl
  · cases st <;> rfl
  · cases st <;> rfl
  · simp only [zinv, hcl, hz, e1, ha]
    rw [if_pos ⟨e3, hcat⟩, e2, if_pos (by simp)]
    rfl
end ZXK
end
section
/-! the law's decode rows (wip/whole/mk20.py) -/
theorem dl_0 : decode code 0 = .ok (.new 7, 3) := by decide +kernel
theorem dl_3 : decode code 3 = .ok (.dup, 1) := by decide +kernel
theorem dl_4 : decode code 4 = .ok (.invokespecial 9, 3) := by decide +kernel
theorem dl_7 : decode code 7 = .ok (.astore_n 1, 1) := by decide +kernel
theorem dl_8 : decode code 8 = .ok (.new 10, 3) := by decide +kernel
theorem dl_11 : decode code 11 = .ok (.dup, 1) := by decide +kernel
theorem dl_12 : decode code 12 = .ok (.invokespecial 12, 3) := by decide +kernel
theorem dl_15 : decode code 15 = .ok (.astore_n 2, 1) := by decide +kernel
theorem dl_16 : decode code 16 = .ok (.iconst 0, 1) := by decide +kernel
theorem dl_17 : decode code 17 = .ok (.istore_n 3, 1) := by decide +kernel
theorem dl_18 : decode code 18 = .ok (.iload_n 3, 1) := by decide +kernel
theorem dl_19 : decode code 19 = .ok (.aload_n 0, 1) := by decide +kernel
theorem dl_20 : decode code 20 = .ok (.arraylength, 1) := by decide +kernel
theorem dl_21 : decode code 21 = .ok (.bipush 6, 2) := by decide +kernel
theorem dl_23 : decode code 23 = .ok (.isub, 1) := by decide +kernel
theorem dl_24 : decode code 24 = .ok (.if_icmp .gt 1294, 3) := by decide +kernel
theorem dl_27 : decode code 27 = .ok (.aload_n 0, 1) := by decide +kernel
theorem dl_28 : decode code 28 = .ok (.iload_n 3, 1) := by decide +kernel
theorem dl_29 : decode code 29 = .ok (.iaload, 1) := by decide +kernel
theorem dl_30 : decode code 30 = .ok (.bipush 63, 2) := by decide +kernel
theorem dl_32 : decode code 32 = .ok (.iand, 1) := by decide +kernel
theorem dl_33 : decode code 33 = .ok (.tableswitch 1279 0 37 #[167, 230, 253, 266, 289, 312, 355, 388, 411, 444, 477, 510, 569, 592, 625, 674, 723, 756, 789, 802, 825, 868, 901, 934, 947, 970, 993, 1006, 1029, 1042, 1075, 1108, 1131, 1164, 1207, 1220, 1243, 1256], 167) := by decide +kernel
theorem dl_200 : decode code 200 = .ok (.aload_n 1, 1) := by decide +kernel
theorem dl_201 : decode code 201 = .ok (.aload_n 0, 1) := by decide +kernel
theorem dl_202 : decode code 202 = .ok (.iload_n 3, 1) := by decide +kernel
theorem dl_203 : decode code 203 = .ok (.iconst 1, 1) := by decide +kernel
theorem dl_204 : decode code 204 = .ok (.iadd, 1) := by decide +kernel
theorem dl_205 : decode code 205 = .ok (.iaload, 1) := by decide +kernel
theorem dl_206 : decode code 206 = .ok (.aload_n 0, 1) := by decide +kernel
theorem dl_207 : decode code 207 = .ok (.iload_n 3, 1) := by decide +kernel
theorem dl_208 : decode code 208 = .ok (.iconst 2, 1) := by decide +kernel
theorem dl_209 : decode code 209 = .ok (.iadd, 1) := by decide +kernel
theorem dl_210 : decode code 210 = .ok (.iaload, 1) := by decide +kernel
theorem dl_211 : decode code 211 = .ok (.aload_n 0, 1) := by decide +kernel
theorem dl_212 : decode code 212 = .ok (.iload_n 3, 1) := by decide +kernel
theorem dl_213 : decode code 213 = .ok (.iconst 3, 1) := by decide +kernel
theorem dl_214 : decode code 214 = .ok (.iadd, 1) := by decide +kernel
theorem dl_215 : decode code 215 = .ok (.iaload, 1) := by decide +kernel
theorem dl_216 : decode code 216 = .ok (.aload_n 0, 1) := by decide +kernel
theorem dl_217 : decode code 217 = .ok (.iload_n 3, 1) := by decide +kernel
theorem dl_218 : decode code 218 = .ok (.iconst 4, 1) := by decide +kernel
theorem dl_219 : decode code 219 = .ok (.iadd, 1) := by decide +kernel
theorem dl_220 : decode code 220 = .ok (.iaload, 1) := by decide +kernel
theorem dl_221 : decode code 221 = .ok (.aload_n 0, 1) := by decide +kernel
theorem dl_222 : decode code 222 = .ok (.iload_n 3, 1) := by decide +kernel
theorem dl_223 : decode code 223 = .ok (.iconst 5, 1) := by decide +kernel
theorem dl_224 : decode code 224 = .ok (.iadd, 1) := by decide +kernel
theorem dl_225 : decode code 225 = .ok (.iaload, 1) := by decide +kernel
theorem dl_226 : decode code 226 = .ok (.invokevirtual 13, 3) := by decide +kernel
theorem dl_229 : decode code 229 = .ok (.aload_n 2, 1) := by decide +kernel
theorem dl_230 : decode code 230 = .ok (.aload_n 0, 1) := by decide +kernel
theorem dl_231 : decode code 231 = .ok (.iload_n 3, 1) := by decide +kernel
theorem dl_232 : decode code 232 = .ok (.iconst 1, 1) := by decide +kernel
theorem dl_233 : decode code 233 = .ok (.iadd, 1) := by decide +kernel
theorem dl_234 : decode code 234 = .ok (.iaload, 1) := by decide +kernel
theorem dl_235 : decode code 235 = .ok (.aload_n 0, 1) := by decide +kernel
theorem dl_236 : decode code 236 = .ok (.iload_n 3, 1) := by decide +kernel
theorem dl_237 : decode code 237 = .ok (.iconst 2, 1) := by decide +kernel
theorem dl_238 : decode code 238 = .ok (.iadd, 1) := by decide +kernel
theorem dl_239 : decode code 239 = .ok (.iaload, 1) := by decide +kernel
theorem dl_240 : decode code 240 = .ok (.aload_n 0, 1) := by decide +kernel
theorem dl_241 : decode code 241 = .ok (.iload_n 3, 1) := by decide +kernel
theorem dl_242 : decode code 242 = .ok (.iconst 3, 1) := by decide +kernel
theorem dl_243 : decode code 243 = .ok (.iadd, 1) := by decide +kernel
theorem dl_244 : decode code 244 = .ok (.iaload, 1) := by decide +kernel
theorem dl_245 : decode code 245 = .ok (.aload_n 0, 1) := by decide +kernel
theorem dl_246 : decode code 246 = .ok (.iload_n 3, 1) := by decide +kernel
theorem dl_247 : decode code 247 = .ok (.iconst 4, 1) := by decide +kernel
theorem dl_248 : decode code 248 = .ok (.iadd, 1) := by decide +kernel
theorem dl_249 : decode code 249 = .ok (.iaload, 1) := by decide +kernel
theorem dl_250 : decode code 250 = .ok (.aload_n 0, 1) := by decide +kernel
theorem dl_251 : decode code 251 = .ok (.iload_n 3, 1) := by decide +kernel
theorem dl_252 : decode code 252 = .ok (.iconst 5, 1) := by decide +kernel
theorem dl_253 : decode code 253 = .ok (.iadd, 1) := by decide +kernel
theorem dl_254 : decode code 254 = .ok (.iaload, 1) := by decide +kernel
theorem dl_255 : decode code 255 = .ok (.invokevirtual 17, 3) := by decide +kernel
theorem dl_258 : decode code 258 = .ok (.if_icmp .eq 1054, 3) := by decide +kernel
theorem dl_261 : decode code 261 = .ok (.iconst 0, 1) := by decide +kernel
theorem dl_262 : decode code 262 = .ok (.ireturn, 1) := by decide +kernel
theorem dl_263 : decode code 263 = .ok (.aload_n 1, 1) := by decide +kernel
theorem dl_264 : decode code 264 = .ok (.aload_n 0, 1) := by decide +kernel
theorem dl_265 : decode code 265 = .ok (.iload_n 3, 1) := by decide +kernel
theorem dl_266 : decode code 266 = .ok (.iconst 1, 1) := by decide +kernel
theorem dl_267 : decode code 267 = .ok (.iadd, 1) := by decide +kernel
theorem dl_268 : decode code 268 = .ok (.iaload, 1) := by decide +kernel
theorem dl_269 : decode code 269 = .ok (.invokevirtual 18, 3) := by decide +kernel
theorem dl_272 : decode code 272 = .ok (.aload_n 2, 1) := by decide +kernel
theorem dl_273 : decode code 273 = .ok (.aload_n 0, 1) := by decide +kernel
theorem dl_274 : decode code 274 = .ok (.iload_n 3, 1) := by decide +kernel
theorem dl_275 : decode code 275 = .ok (.iconst 1, 1) := by decide +kernel
theorem dl_276 : decode code 276 = .ok (.iadd, 1) := by decide +kernel
theorem dl_277 : decode code 277 = .ok (.iaload, 1) := by decide +kernel
theorem dl_278 : decode code 278 = .ok (.invokevirtual 22, 3) := by decide +kernel
theorem dl_281 : decode code 281 = .ok (.if_icmp .eq 1031, 3) := by decide +kernel
theorem dl_284 : decode code 284 = .ok (.iconst 0, 1) := by decide +kernel
theorem dl_285 : decode code 285 = .ok (.ireturn, 1) := by decide +kernel
theorem dl_286 : decode code 286 = .ok (.aload_n 1, 1) := by decide +kernel
theorem dl_287 : decode code 287 = .ok (.invokevirtual 23, 3) := by decide +kernel
theorem dl_290 : decode code 290 = .ok (.aload_n 2, 1) := by decide +kernel
theorem dl_291 : decode code 291 = .ok (.invokevirtual 27, 3) := by decide +kernel
theorem dl_294 : decode code 294 = .ok (.if_icmp .eq 1018, 3) := by decide +kernel
theorem dl_297 : decode code 297 = .ok (.iconst 0, 1) := by decide +kernel
theorem dl_298 : decode code 298 = .ok (.ireturn, 1) := by decide +kernel
theorem dl_299 : decode code 299 = .ok (.aload_n 1, 1) := by decide +kernel
theorem dl_300 : decode code 300 = .ok (.aload_n 0, 1) := by decide +kernel
theorem dl_301 : decode code 301 = .ok (.iload_n 3, 1) := by decide +kernel
theorem dl_302 : decode code 302 = .ok (.iconst 1, 1) := by decide +kernel
theorem dl_303 : decode code 303 = .ok (.iadd, 1) := by decide +kernel
theorem dl_304 : decode code 304 = .ok (.iaload, 1) := by decide +kernel
theorem dl_305 : decode code 305 = .ok (.invokevirtual 28, 3) := by decide +kernel
theorem dl_308 : decode code 308 = .ok (.aload_n 2, 1) := by decide +kernel
theorem dl_309 : decode code 309 = .ok (.aload_n 0, 1) := by decide +kernel
theorem dl_310 : decode code 310 = .ok (.iload_n 3, 1) := by decide +kernel
theorem dl_311 : decode code 311 = .ok (.iconst 1, 1) := by decide +kernel
theorem dl_312 : decode code 312 = .ok (.iadd, 1) := by decide +kernel
theorem dl_313 : decode code 313 = .ok (.iaload, 1) := by decide +kernel
theorem dl_314 : decode code 314 = .ok (.invokevirtual 32, 3) := by decide +kernel
theorem dl_317 : decode code 317 = .ok (.if_icmp .eq 995, 3) := by decide +kernel
theorem dl_320 : decode code 320 = .ok (.iconst 0, 1) := by decide +kernel
theorem dl_321 : decode code 321 = .ok (.ireturn, 1) := by decide +kernel
theorem dl_322 : decode code 322 = .ok (.aload_n 1, 1) := by decide +kernel
theorem dl_323 : decode code 323 = .ok (.aload_n 0, 1) := by decide +kernel
theorem dl_324 : decode code 324 = .ok (.iload_n 3, 1) := by decide +kernel
theorem dl_325 : decode code 325 = .ok (.iconst 1, 1) := by decide +kernel
theorem dl_326 : decode code 326 = .ok (.iadd, 1) := by decide +kernel
theorem dl_327 : decode code 327 = .ok (.iaload, 1) := by decide +kernel
theorem dl_328 : decode code 328 = .ok (.invokevirtual 33, 3) := by decide +kernel
theorem dl_331 : decode code 331 = .ok (.aload_n 2, 1) := by decide +kernel
theorem dl_332 : decode code 332 = .ok (.aload_n 0, 1) := by decide +kernel
theorem dl_333 : decode code 333 = .ok (.iload_n 3, 1) := by decide +kernel
theorem dl_334 : decode code 334 = .ok (.iconst 1, 1) := by decide +kernel
theorem dl_335 : decode code 335 = .ok (.iadd, 1) := by decide +kernel
theorem dl_336 : decode code 336 = .ok (.iaload, 1) := by decide +kernel
theorem dl_337 : decode code 337 = .ok (.invokevirtual 36, 3) := by decide +kernel
theorem dl_340 : decode code 340 = .ok (.if_icmp .eq 972, 3) := by decide +kernel
theorem dl_343 : decode code 343 = .ok (.iconst 0, 1) := by decide +kernel
theorem dl_344 : decode code 344 = .ok (.ireturn, 1) := by decide +kernel
theorem dl_345 : decode code 345 = .ok (.aload_n 1, 1) := by decide +kernel
theorem dl_346 : decode code 346 = .ok (.aload_n 0, 1) := by decide +kernel
theorem dl_347 : decode code 347 = .ok (.iload_n 3, 1) := by decide +kernel
theorem dl_348 : decode code 348 = .ok (.iconst 1, 1) := by decide +kernel
theorem dl_349 : decode code 349 = .ok (.iadd, 1) := by decide +kernel
theorem dl_350 : decode code 350 = .ok (.iaload, 1) := by decide +kernel
theorem dl_351 : decode code 351 = .ok (.aload_n 0, 1) := by decide +kernel
theorem dl_352 : decode code 352 = .ok (.iload_n 3, 1) := by decide +kernel
theorem dl_353 : decode code 353 = .ok (.iconst 2, 1) := by decide +kernel
theorem dl_354 : decode code 354 = .ok (.iadd, 1) := by decide +kernel
theorem dl_355 : decode code 355 = .ok (.iaload, 1) := by decide +kernel
theorem dl_356 : decode code 356 = .ok (.aload_n 0, 1) := by decide +kernel
theorem dl_357 : decode code 357 = .ok (.iload_n 3, 1) := by decide +kernel
theorem dl_358 : decode code 358 = .ok (.iconst 3, 1) := by decide +kernel
theorem dl_359 : decode code 359 = .ok (.iadd, 1) := by decide +kernel
theorem dl_360 : decode code 360 = .ok (.iaload, 1) := by decide +kernel
theorem dl_361 : decode code 361 = .ok (.invokevirtual 37, 3) := by decide +kernel
theorem dl_364 : decode code 364 = .ok (.aload_n 2, 1) := by decide +kernel
theorem dl_365 : decode code 365 = .ok (.aload_n 0, 1) := by decide +kernel
theorem dl_366 : decode code 366 = .ok (.iload_n 3, 1) := by decide +kernel
theorem dl_367 : decode code 367 = .ok (.iconst 1, 1) := by decide +kernel
theorem dl_368 : decode code 368 = .ok (.iadd, 1) := by decide +kernel
theorem dl_369 : decode code 369 = .ok (.iaload, 1) := by decide +kernel
theorem dl_370 : decode code 370 = .ok (.aload_n 0, 1) := by decide +kernel
theorem dl_371 : decode code 371 = .ok (.iload_n 3, 1) := by decide +kernel
theorem dl_372 : decode code 372 = .ok (.iconst 2, 1) := by decide +kernel
theorem dl_373 : decode code 373 = .ok (.iadd, 1) := by decide +kernel
theorem dl_374 : decode code 374 = .ok (.iaload, 1) := by decide +kernel
theorem dl_375 : decode code 375 = .ok (.aload_n 0, 1) := by decide +kernel
theorem dl_376 : decode code 376 = .ok (.iload_n 3, 1) := by decide +kernel
theorem dl_377 : decode code 377 = .ok (.iconst 3, 1) := by decide +kernel
theorem dl_378 : decode code 378 = .ok (.iadd, 1) := by decide +kernel
theorem dl_379 : decode code 379 = .ok (.iaload, 1) := by decide +kernel
theorem dl_380 : decode code 380 = .ok (.invokevirtual 41, 3) := by decide +kernel
theorem dl_383 : decode code 383 = .ok (.if_icmp .eq 929, 3) := by decide +kernel
theorem dl_386 : decode code 386 = .ok (.iconst 0, 1) := by decide +kernel
theorem dl_387 : decode code 387 = .ok (.ireturn, 1) := by decide +kernel
theorem dl_388 : decode code 388 = .ok (.aload_n 1, 1) := by decide +kernel
theorem dl_389 : decode code 389 = .ok (.aload_n 0, 1) := by decide +kernel
theorem dl_390 : decode code 390 = .ok (.iload_n 3, 1) := by decide +kernel
theorem dl_391 : decode code 391 = .ok (.iconst 1, 1) := by decide +kernel
theorem dl_392 : decode code 392 = .ok (.iadd, 1) := by decide +kernel
theorem dl_393 : decode code 393 = .ok (.iaload, 1) := by decide +kernel
theorem dl_394 : decode code 394 = .ok (.aload_n 0, 1) := by decide +kernel
theorem dl_395 : decode code 395 = .ok (.iload_n 3, 1) := by decide +kernel
theorem dl_396 : decode code 396 = .ok (.iconst 2, 1) := by decide +kernel
theorem dl_397 : decode code 397 = .ok (.iadd, 1) := by decide +kernel
theorem dl_398 : decode code 398 = .ok (.iaload, 1) := by decide +kernel
theorem dl_399 : decode code 399 = .ok (.invokevirtual 42, 3) := by decide +kernel
theorem dl_402 : decode code 402 = .ok (.aload_n 2, 1) := by decide +kernel
theorem dl_403 : decode code 403 = .ok (.aload_n 0, 1) := by decide +kernel
theorem dl_404 : decode code 404 = .ok (.iload_n 3, 1) := by decide +kernel
theorem dl_405 : decode code 405 = .ok (.iconst 1, 1) := by decide +kernel
theorem dl_406 : decode code 406 = .ok (.iadd, 1) := by decide +kernel
theorem dl_407 : decode code 407 = .ok (.iaload, 1) := by decide +kernel
theorem dl_408 : decode code 408 = .ok (.aload_n 0, 1) := by decide +kernel
theorem dl_409 : decode code 409 = .ok (.iload_n 3, 1) := by decide +kernel
theorem dl_410 : decode code 410 = .ok (.iconst 2, 1) := by decide +kernel
theorem dl_411 : decode code 411 = .ok (.iadd, 1) := by decide +kernel
theorem dl_412 : decode code 412 = .ok (.iaload, 1) := by decide +kernel
theorem dl_413 : decode code 413 = .ok (.invokevirtual 46, 3) := by decide +kernel
theorem dl_416 : decode code 416 = .ok (.if_icmp .eq 896, 3) := by decide +kernel
theorem dl_419 : decode code 419 = .ok (.iconst 0, 1) := by decide +kernel
theorem dl_420 : decode code 420 = .ok (.ireturn, 1) := by decide +kernel
theorem dl_421 : decode code 421 = .ok (.aload_n 1, 1) := by decide +kernel
theorem dl_422 : decode code 422 = .ok (.aload_n 0, 1) := by decide +kernel
theorem dl_423 : decode code 423 = .ok (.iload_n 3, 1) := by decide +kernel
theorem dl_424 : decode code 424 = .ok (.iconst 1, 1) := by decide +kernel
theorem dl_425 : decode code 425 = .ok (.iadd, 1) := by decide +kernel
theorem dl_426 : decode code 426 = .ok (.iaload, 1) := by decide +kernel
theorem dl_427 : decode code 427 = .ok (.invokevirtual 47, 3) := by decide +kernel
theorem dl_430 : decode code 430 = .ok (.aload_n 2, 1) := by decide +kernel
theorem dl_431 : decode code 431 = .ok (.aload_n 0, 1) := by decide +kernel
theorem dl_432 : decode code 432 = .ok (.iload_n 3, 1) := by decide +kernel
theorem dl_433 : decode code 433 = .ok (.iconst 1, 1) := by decide +kernel
theorem dl_434 : decode code 434 = .ok (.iadd, 1) := by decide +kernel
theorem dl_435 : decode code 435 = .ok (.iaload, 1) := by decide +kernel
theorem dl_436 : decode code 436 = .ok (.invokevirtual 50, 3) := by decide +kernel
theorem dl_439 : decode code 439 = .ok (.if_icmp .eq 873, 3) := by decide +kernel
theorem dl_442 : decode code 442 = .ok (.iconst 0, 1) := by decide +kernel
theorem dl_443 : decode code 443 = .ok (.ireturn, 1) := by decide +kernel
theorem dl_444 : decode code 444 = .ok (.aload_n 1, 1) := by decide +kernel
theorem dl_445 : decode code 445 = .ok (.aload_n 0, 1) := by decide +kernel
theorem dl_446 : decode code 446 = .ok (.iload_n 3, 1) := by decide +kernel
theorem dl_447 : decode code 447 = .ok (.iconst 1, 1) := by decide +kernel
theorem dl_448 : decode code 448 = .ok (.iadd, 1) := by decide +kernel
theorem dl_449 : decode code 449 = .ok (.iaload, 1) := by decide +kernel
theorem dl_450 : decode code 450 = .ok (.aload_n 0, 1) := by decide +kernel
theorem dl_451 : decode code 451 = .ok (.iload_n 3, 1) := by decide +kernel
theorem dl_452 : decode code 452 = .ok (.iconst 2, 1) := by decide +kernel
theorem dl_453 : decode code 453 = .ok (.iadd, 1) := by decide +kernel
theorem dl_454 : decode code 454 = .ok (.iaload, 1) := by decide +kernel
theorem dl_455 : decode code 455 = .ok (.invokevirtual 51, 3) := by decide +kernel
theorem dl_458 : decode code 458 = .ok (.aload_n 2, 1) := by decide +kernel
theorem dl_459 : decode code 459 = .ok (.aload_n 0, 1) := by decide +kernel
theorem dl_460 : decode code 460 = .ok (.iload_n 3, 1) := by decide +kernel
theorem dl_461 : decode code 461 = .ok (.iconst 1, 1) := by decide +kernel
theorem dl_462 : decode code 462 = .ok (.iadd, 1) := by decide +kernel
theorem dl_463 : decode code 463 = .ok (.iaload, 1) := by decide +kernel
theorem dl_464 : decode code 464 = .ok (.aload_n 0, 1) := by decide +kernel
theorem dl_465 : decode code 465 = .ok (.iload_n 3, 1) := by decide +kernel
theorem dl_466 : decode code 466 = .ok (.iconst 2, 1) := by decide +kernel
theorem dl_467 : decode code 467 = .ok (.iadd, 1) := by decide +kernel
theorem dl_468 : decode code 468 = .ok (.iaload, 1) := by decide +kernel
theorem dl_469 : decode code 469 = .ok (.invokevirtual 54, 3) := by decide +kernel
theorem dl_472 : decode code 472 = .ok (.if_icmp .eq 840, 3) := by decide +kernel
theorem dl_475 : decode code 475 = .ok (.iconst 0, 1) := by decide +kernel
theorem dl_476 : decode code 476 = .ok (.ireturn, 1) := by decide +kernel
theorem dl_477 : decode code 477 = .ok (.aload_n 1, 1) := by decide +kernel
theorem dl_478 : decode code 478 = .ok (.aload_n 0, 1) := by decide +kernel
theorem dl_479 : decode code 479 = .ok (.iload_n 3, 1) := by decide +kernel
theorem dl_480 : decode code 480 = .ok (.iconst 1, 1) := by decide +kernel
theorem dl_481 : decode code 481 = .ok (.iadd, 1) := by decide +kernel
theorem dl_482 : decode code 482 = .ok (.iaload, 1) := by decide +kernel
theorem dl_483 : decode code 483 = .ok (.aload_n 0, 1) := by decide +kernel
theorem dl_484 : decode code 484 = .ok (.iload_n 3, 1) := by decide +kernel
theorem dl_485 : decode code 485 = .ok (.iconst 2, 1) := by decide +kernel
theorem dl_486 : decode code 486 = .ok (.iadd, 1) := by decide +kernel
theorem dl_487 : decode code 487 = .ok (.iaload, 1) := by decide +kernel
theorem dl_488 : decode code 488 = .ok (.invokevirtual 55, 3) := by decide +kernel
theorem dl_491 : decode code 491 = .ok (.aload_n 2, 1) := by decide +kernel
theorem dl_492 : decode code 492 = .ok (.aload_n 0, 1) := by decide +kernel
theorem dl_493 : decode code 493 = .ok (.iload_n 3, 1) := by decide +kernel
theorem dl_494 : decode code 494 = .ok (.iconst 1, 1) := by decide +kernel
theorem dl_495 : decode code 495 = .ok (.iadd, 1) := by decide +kernel
theorem dl_496 : decode code 496 = .ok (.iaload, 1) := by decide +kernel
theorem dl_497 : decode code 497 = .ok (.aload_n 0, 1) := by decide +kernel
theorem dl_498 : decode code 498 = .ok (.iload_n 3, 1) := by decide +kernel
theorem dl_499 : decode code 499 = .ok (.iconst 2, 1) := by decide +kernel
theorem dl_500 : decode code 500 = .ok (.iadd, 1) := by decide +kernel
theorem dl_501 : decode code 501 = .ok (.iaload, 1) := by decide +kernel
theorem dl_502 : decode code 502 = .ok (.invokevirtual 58, 3) := by decide +kernel
theorem dl_505 : decode code 505 = .ok (.if_icmp .eq 807, 3) := by decide +kernel
theorem dl_508 : decode code 508 = .ok (.iconst 0, 1) := by decide +kernel
theorem dl_509 : decode code 509 = .ok (.ireturn, 1) := by decide +kernel
theorem dl_510 : decode code 510 = .ok (.aload_n 1, 1) := by decide +kernel
theorem dl_511 : decode code 511 = .ok (.aload_n 0, 1) := by decide +kernel
theorem dl_512 : decode code 512 = .ok (.iload_n 3, 1) := by decide +kernel
theorem dl_513 : decode code 513 = .ok (.iconst 1, 1) := by decide +kernel
theorem dl_514 : decode code 514 = .ok (.iadd, 1) := by decide +kernel
theorem dl_515 : decode code 515 = .ok (.iaload, 1) := by decide +kernel
theorem dl_516 : decode code 516 = .ok (.aload_n 0, 1) := by decide +kernel
theorem dl_517 : decode code 517 = .ok (.iload_n 3, 1) := by decide +kernel
theorem dl_518 : decode code 518 = .ok (.iconst 2, 1) := by decide +kernel
theorem dl_519 : decode code 519 = .ok (.iadd, 1) := by decide +kernel
theorem dl_520 : decode code 520 = .ok (.iaload, 1) := by decide +kernel
theorem dl_521 : decode code 521 = .ok (.invokevirtual 59, 3) := by decide +kernel
theorem dl_524 : decode code 524 = .ok (.aload_n 2, 1) := by decide +kernel
theorem dl_525 : decode code 525 = .ok (.aload_n 0, 1) := by decide +kernel
theorem dl_526 : decode code 526 = .ok (.iload_n 3, 1) := by decide +kernel
theorem dl_527 : decode code 527 = .ok (.iconst 1, 1) := by decide +kernel
theorem dl_528 : decode code 528 = .ok (.iadd, 1) := by decide +kernel
theorem dl_529 : decode code 529 = .ok (.iaload, 1) := by decide +kernel
theorem dl_530 : decode code 530 = .ok (.aload_n 0, 1) := by decide +kernel
theorem dl_531 : decode code 531 = .ok (.iload_n 3, 1) := by decide +kernel
theorem dl_532 : decode code 532 = .ok (.iconst 2, 1) := by decide +kernel
theorem dl_533 : decode code 533 = .ok (.iadd, 1) := by decide +kernel
theorem dl_534 : decode code 534 = .ok (.iaload, 1) := by decide +kernel
theorem dl_535 : decode code 535 = .ok (.invokevirtual 62, 3) := by decide +kernel
theorem dl_538 : decode code 538 = .ok (.if_icmp .eq 774, 3) := by decide +kernel
theorem dl_541 : decode code 541 = .ok (.iconst 0, 1) := by decide +kernel
theorem dl_542 : decode code 542 = .ok (.ireturn, 1) := by decide +kernel
theorem dl_543 : decode code 543 = .ok (.aload_n 1, 1) := by decide +kernel
theorem dl_544 : decode code 544 = .ok (.aload_n 0, 1) := by decide +kernel
theorem dl_545 : decode code 545 = .ok (.iload_n 3, 1) := by decide +kernel
theorem dl_546 : decode code 546 = .ok (.iconst 1, 1) := by decide +kernel
theorem dl_547 : decode code 547 = .ok (.iadd, 1) := by decide +kernel
theorem dl_548 : decode code 548 = .ok (.iaload, 1) := by decide +kernel
theorem dl_549 : decode code 549 = .ok (.aload_n 0, 1) := by decide +kernel
theorem dl_550 : decode code 550 = .ok (.iload_n 3, 1) := by decide +kernel
theorem dl_551 : decode code 551 = .ok (.iconst 2, 1) := by decide +kernel
theorem dl_552 : decode code 552 = .ok (.iadd, 1) := by decide +kernel
theorem dl_553 : decode code 553 = .ok (.iaload, 1) := by decide +kernel
theorem dl_554 : decode code 554 = .ok (.aload_n 0, 1) := by decide +kernel
theorem dl_555 : decode code 555 = .ok (.iload_n 3, 1) := by decide +kernel
theorem dl_556 : decode code 556 = .ok (.iconst 3, 1) := by decide +kernel
theorem dl_557 : decode code 557 = .ok (.iadd, 1) := by decide +kernel
theorem dl_558 : decode code 558 = .ok (.iaload, 1) := by decide +kernel
theorem dl_559 : decode code 559 = .ok (.ifCond .eq 7, 3) := by decide +kernel
theorem dl_562 : decode code 562 = .ok (.iconst 1, 1) := by decide +kernel
theorem dl_563 : decode code 563 = .ok (.goto 4, 3) := by decide +kernel
theorem dl_566 : decode code 566 = .ok (.iconst 0, 1) := by decide +kernel
theorem dl_567 : decode code 567 = .ok (.invokevirtual 63, 3) := by decide +kernel
theorem dl_570 : decode code 570 = .ok (.aload_n 2, 1) := by decide +kernel
theorem dl_571 : decode code 571 = .ok (.aload_n 0, 1) := by decide +kernel
theorem dl_572 : decode code 572 = .ok (.iload_n 3, 1) := by decide +kernel
theorem dl_573 : decode code 573 = .ok (.iconst 1, 1) := by decide +kernel
theorem dl_574 : decode code 574 = .ok (.iadd, 1) := by decide +kernel
theorem dl_575 : decode code 575 = .ok (.iaload, 1) := by decide +kernel
theorem dl_576 : decode code 576 = .ok (.aload_n 0, 1) := by decide +kernel
theorem dl_577 : decode code 577 = .ok (.iload_n 3, 1) := by decide +kernel
theorem dl_578 : decode code 578 = .ok (.iconst 2, 1) := by decide +kernel
theorem dl_579 : decode code 579 = .ok (.iadd, 1) := by decide +kernel
theorem dl_580 : decode code 580 = .ok (.iaload, 1) := by decide +kernel
theorem dl_581 : decode code 581 = .ok (.aload_n 0, 1) := by decide +kernel
theorem dl_582 : decode code 582 = .ok (.iload_n 3, 1) := by decide +kernel
theorem dl_583 : decode code 583 = .ok (.iconst 3, 1) := by decide +kernel
theorem dl_584 : decode code 584 = .ok (.iadd, 1) := by decide +kernel
theorem dl_585 : decode code 585 = .ok (.iaload, 1) := by decide +kernel
theorem dl_586 : decode code 586 = .ok (.ifCond .eq 7, 3) := by decide +kernel
theorem dl_589 : decode code 589 = .ok (.iconst 1, 1) := by decide +kernel
theorem dl_590 : decode code 590 = .ok (.goto 4, 3) := by decide +kernel
theorem dl_593 : decode code 593 = .ok (.iconst 0, 1) := by decide +kernel
theorem dl_594 : decode code 594 = .ok (.invokevirtual 67, 3) := by decide +kernel
theorem dl_597 : decode code 597 = .ok (.if_icmp .eq 715, 3) := by decide +kernel
theorem dl_600 : decode code 600 = .ok (.iconst 0, 1) := by decide +kernel
theorem dl_601 : decode code 601 = .ok (.ireturn, 1) := by decide +kernel
theorem dl_602 : decode code 602 = .ok (.aload_n 1, 1) := by decide +kernel
theorem dl_603 : decode code 603 = .ok (.aload_n 0, 1) := by decide +kernel
theorem dl_604 : decode code 604 = .ok (.iload_n 3, 1) := by decide +kernel
theorem dl_605 : decode code 605 = .ok (.iconst 1, 1) := by decide +kernel
theorem dl_606 : decode code 606 = .ok (.iadd, 1) := by decide +kernel
theorem dl_607 : decode code 607 = .ok (.iaload, 1) := by decide +kernel
theorem dl_608 : decode code 608 = .ok (.invokevirtual 68, 3) := by decide +kernel
theorem dl_611 : decode code 611 = .ok (.aload_n 2, 1) := by decide +kernel
theorem dl_612 : decode code 612 = .ok (.aload_n 0, 1) := by decide +kernel
theorem dl_613 : decode code 613 = .ok (.iload_n 3, 1) := by decide +kernel
theorem dl_614 : decode code 614 = .ok (.iconst 1, 1) := by decide +kernel
theorem dl_615 : decode code 615 = .ok (.iadd, 1) := by decide +kernel
theorem dl_616 : decode code 616 = .ok (.iaload, 1) := by decide +kernel
theorem dl_617 : decode code 617 = .ok (.invokevirtual 71, 3) := by decide +kernel
theorem dl_620 : decode code 620 = .ok (.if_icmp .eq 692, 3) := by decide +kernel
theorem dl_623 : decode code 623 = .ok (.iconst 0, 1) := by decide +kernel
theorem dl_624 : decode code 624 = .ok (.ireturn, 1) := by decide +kernel
theorem dl_625 : decode code 625 = .ok (.aload_n 1, 1) := by decide +kernel
theorem dl_626 : decode code 626 = .ok (.aload_n 0, 1) := by decide +kernel
theorem dl_627 : decode code 627 = .ok (.iload_n 3, 1) := by decide +kernel
theorem dl_628 : decode code 628 = .ok (.iconst 1, 1) := by decide +kernel
theorem dl_629 : decode code 629 = .ok (.iadd, 1) := by decide +kernel
theorem dl_630 : decode code 630 = .ok (.iaload, 1) := by decide +kernel
theorem dl_631 : decode code 631 = .ok (.aload_n 0, 1) := by decide +kernel
theorem dl_632 : decode code 632 = .ok (.iload_n 3, 1) := by decide +kernel
theorem dl_633 : decode code 633 = .ok (.iconst 2, 1) := by decide +kernel
theorem dl_634 : decode code 634 = .ok (.iadd, 1) := by decide +kernel
theorem dl_635 : decode code 635 = .ok (.iaload, 1) := by decide +kernel
theorem dl_636 : decode code 636 = .ok (.invokevirtual 72, 3) := by decide +kernel
theorem dl_639 : decode code 639 = .ok (.aload_n 2, 1) := by decide +kernel
theorem dl_640 : decode code 640 = .ok (.aload_n 0, 1) := by decide +kernel
theorem dl_641 : decode code 641 = .ok (.iload_n 3, 1) := by decide +kernel
theorem dl_642 : decode code 642 = .ok (.iconst 1, 1) := by decide +kernel
theorem dl_643 : decode code 643 = .ok (.iadd, 1) := by decide +kernel
theorem dl_644 : decode code 644 = .ok (.iaload, 1) := by decide +kernel
theorem dl_645 : decode code 645 = .ok (.aload_n 0, 1) := by decide +kernel
theorem dl_646 : decode code 646 = .ok (.iload_n 3, 1) := by decide +kernel
theorem dl_647 : decode code 647 = .ok (.iconst 2, 1) := by decide +kernel
theorem dl_648 : decode code 648 = .ok (.iadd, 1) := by decide +kernel
theorem dl_649 : decode code 649 = .ok (.iaload, 1) := by decide +kernel
theorem dl_650 : decode code 650 = .ok (.invokevirtual 75, 3) := by decide +kernel
theorem dl_653 : decode code 653 = .ok (.if_icmp .eq 659, 3) := by decide +kernel
theorem dl_656 : decode code 656 = .ok (.iconst 0, 1) := by decide +kernel
theorem dl_657 : decode code 657 = .ok (.ireturn, 1) := by decide +kernel
theorem dl_658 : decode code 658 = .ok (.aload_n 1, 1) := by decide +kernel
theorem dl_659 : decode code 659 = .ok (.aload_n 0, 1) := by decide +kernel
theorem dl_660 : decode code 660 = .ok (.iload_n 3, 1) := by decide +kernel
theorem dl_661 : decode code 661 = .ok (.iconst 1, 1) := by decide +kernel
theorem dl_662 : decode code 662 = .ok (.iadd, 1) := by decide +kernel
theorem dl_663 : decode code 663 = .ok (.iaload, 1) := by decide +kernel
theorem dl_664 : decode code 664 = .ok (.aload_n 0, 1) := by decide +kernel
theorem dl_665 : decode code 665 = .ok (.iload_n 3, 1) := by decide +kernel
theorem dl_666 : decode code 666 = .ok (.iconst 2, 1) := by decide +kernel
theorem dl_667 : decode code 667 = .ok (.iadd, 1) := by decide +kernel
theorem dl_668 : decode code 668 = .ok (.iaload, 1) := by decide +kernel
theorem dl_669 : decode code 669 = .ok (.ifCond .eq 7, 3) := by decide +kernel
theorem dl_672 : decode code 672 = .ok (.iconst 1, 1) := by decide +kernel
theorem dl_673 : decode code 673 = .ok (.goto 4, 3) := by decide +kernel
theorem dl_676 : decode code 676 = .ok (.iconst 0, 1) := by decide +kernel
theorem dl_677 : decode code 677 = .ok (.invokevirtual 76, 3) := by decide +kernel
theorem dl_680 : decode code 680 = .ok (.aload_n 2, 1) := by decide +kernel
theorem dl_681 : decode code 681 = .ok (.aload_n 0, 1) := by decide +kernel
theorem dl_682 : decode code 682 = .ok (.iload_n 3, 1) := by decide +kernel
theorem dl_683 : decode code 683 = .ok (.iconst 1, 1) := by decide +kernel
theorem dl_684 : decode code 684 = .ok (.iadd, 1) := by decide +kernel
theorem dl_685 : decode code 685 = .ok (.iaload, 1) := by decide +kernel
theorem dl_686 : decode code 686 = .ok (.aload_n 0, 1) := by decide +kernel
theorem dl_687 : decode code 687 = .ok (.iload_n 3, 1) := by decide +kernel
theorem dl_688 : decode code 688 = .ok (.iconst 2, 1) := by decide +kernel
theorem dl_689 : decode code 689 = .ok (.iadd, 1) := by decide +kernel
theorem dl_690 : decode code 690 = .ok (.iaload, 1) := by decide +kernel
theorem dl_691 : decode code 691 = .ok (.ifCond .eq 7, 3) := by decide +kernel
theorem dl_694 : decode code 694 = .ok (.iconst 1, 1) := by decide +kernel
theorem dl_695 : decode code 695 = .ok (.goto 4, 3) := by decide +kernel
theorem dl_698 : decode code 698 = .ok (.iconst 0, 1) := by decide +kernel
theorem dl_699 : decode code 699 = .ok (.invokevirtual 80, 3) := by decide +kernel
theorem dl_702 : decode code 702 = .ok (.if_icmp .eq 610, 3) := by decide +kernel
theorem dl_705 : decode code 705 = .ok (.iconst 0, 1) := by decide +kernel
theorem dl_706 : decode code 706 = .ok (.ireturn, 1) := by decide +kernel
theorem dl_707 : decode code 707 = .ok (.aload_n 1, 1) := by decide +kernel
theorem dl_708 : decode code 708 = .ok (.aload_n 0, 1) := by decide +kernel
theorem dl_709 : decode code 709 = .ok (.iload_n 3, 1) := by decide +kernel
theorem dl_710 : decode code 710 = .ok (.iconst 1, 1) := by decide +kernel
theorem dl_711 : decode code 711 = .ok (.iadd, 1) := by decide +kernel
theorem dl_712 : decode code 712 = .ok (.iaload, 1) := by decide +kernel
theorem dl_713 : decode code 713 = .ok (.aload_n 0, 1) := by decide +kernel
theorem dl_714 : decode code 714 = .ok (.iload_n 3, 1) := by decide +kernel
theorem dl_715 : decode code 715 = .ok (.iconst 2, 1) := by decide +kernel
theorem dl_716 : decode code 716 = .ok (.iadd, 1) := by decide +kernel
theorem dl_717 : decode code 717 = .ok (.iaload, 1) := by decide +kernel
theorem dl_718 : decode code 718 = .ok (.ifCond .eq 7, 3) := by decide +kernel
theorem dl_721 : decode code 721 = .ok (.iconst 1, 1) := by decide +kernel
theorem dl_722 : decode code 722 = .ok (.goto 4, 3) := by decide +kernel
theorem dl_725 : decode code 725 = .ok (.iconst 0, 1) := by decide +kernel
theorem dl_726 : decode code 726 = .ok (.invokevirtual 81, 3) := by decide +kernel
theorem dl_729 : decode code 729 = .ok (.aload_n 2, 1) := by decide +kernel
theorem dl_730 : decode code 730 = .ok (.aload_n 0, 1) := by decide +kernel
theorem dl_731 : decode code 731 = .ok (.iload_n 3, 1) := by decide +kernel
theorem dl_732 : decode code 732 = .ok (.iconst 1, 1) := by decide +kernel
theorem dl_733 : decode code 733 = .ok (.iadd, 1) := by decide +kernel
theorem dl_734 : decode code 734 = .ok (.iaload, 1) := by decide +kernel
theorem dl_735 : decode code 735 = .ok (.aload_n 0, 1) := by decide +kernel
theorem dl_736 : decode code 736 = .ok (.iload_n 3, 1) := by decide +kernel
theorem dl_737 : decode code 737 = .ok (.iconst 2, 1) := by decide +kernel
theorem dl_738 : decode code 738 = .ok (.iadd, 1) := by decide +kernel
theorem dl_739 : decode code 739 = .ok (.iaload, 1) := by decide +kernel
theorem dl_740 : decode code 740 = .ok (.ifCond .eq 7, 3) := by decide +kernel
theorem dl_743 : decode code 743 = .ok (.iconst 1, 1) := by decide +kernel
theorem dl_744 : decode code 744 = .ok (.goto 4, 3) := by decide +kernel
theorem dl_747 : decode code 747 = .ok (.iconst 0, 1) := by decide +kernel
theorem dl_748 : decode code 748 = .ok (.invokevirtual 84, 3) := by decide +kernel
theorem dl_751 : decode code 751 = .ok (.if_icmp .eq 561, 3) := by decide +kernel
theorem dl_754 : decode code 754 = .ok (.iconst 0, 1) := by decide +kernel
theorem dl_755 : decode code 755 = .ok (.ireturn, 1) := by decide +kernel
theorem dl_756 : decode code 756 = .ok (.aload_n 1, 1) := by decide +kernel
theorem dl_757 : decode code 757 = .ok (.aload_n 0, 1) := by decide +kernel
theorem dl_758 : decode code 758 = .ok (.iload_n 3, 1) := by decide +kernel
theorem dl_759 : decode code 759 = .ok (.iconst 1, 1) := by decide +kernel
theorem dl_760 : decode code 760 = .ok (.iadd, 1) := by decide +kernel
theorem dl_761 : decode code 761 = .ok (.iaload, 1) := by decide +kernel
theorem dl_762 : decode code 762 = .ok (.aload_n 0, 1) := by decide +kernel
theorem dl_763 : decode code 763 = .ok (.iload_n 3, 1) := by decide +kernel
theorem dl_764 : decode code 764 = .ok (.iconst 2, 1) := by decide +kernel
theorem dl_765 : decode code 765 = .ok (.iadd, 1) := by decide +kernel
theorem dl_766 : decode code 766 = .ok (.iaload, 1) := by decide +kernel
theorem dl_767 : decode code 767 = .ok (.invokevirtual 85, 3) := by decide +kernel
theorem dl_770 : decode code 770 = .ok (.aload_n 2, 1) := by decide +kernel
theorem dl_771 : decode code 771 = .ok (.aload_n 0, 1) := by decide +kernel
theorem dl_772 : decode code 772 = .ok (.iload_n 3, 1) := by decide +kernel
theorem dl_773 : decode code 773 = .ok (.iconst 1, 1) := by decide +kernel
theorem dl_774 : decode code 774 = .ok (.iadd, 1) := by decide +kernel
theorem dl_775 : decode code 775 = .ok (.iaload, 1) := by decide +kernel
theorem dl_776 : decode code 776 = .ok (.aload_n 0, 1) := by decide +kernel
theorem dl_777 : decode code 777 = .ok (.iload_n 3, 1) := by decide +kernel
theorem dl_778 : decode code 778 = .ok (.iconst 2, 1) := by decide +kernel
theorem dl_779 : decode code 779 = .ok (.iadd, 1) := by decide +kernel
theorem dl_780 : decode code 780 = .ok (.iaload, 1) := by decide +kernel
theorem dl_781 : decode code 781 = .ok (.invokevirtual 88, 3) := by decide +kernel
theorem dl_784 : decode code 784 = .ok (.if_icmp .eq 528, 3) := by decide +kernel
theorem dl_787 : decode code 787 = .ok (.iconst 0, 1) := by decide +kernel
theorem dl_788 : decode code 788 = .ok (.ireturn, 1) := by decide +kernel
theorem dl_789 : decode code 789 = .ok (.aload_n 1, 1) := by decide +kernel
theorem dl_790 : decode code 790 = .ok (.aload_n 0, 1) := by decide +kernel
theorem dl_791 : decode code 791 = .ok (.iload_n 3, 1) := by decide +kernel
theorem dl_792 : decode code 792 = .ok (.iconst 1, 1) := by decide +kernel
theorem dl_793 : decode code 793 = .ok (.iadd, 1) := by decide +kernel
theorem dl_794 : decode code 794 = .ok (.iaload, 1) := by decide +kernel
theorem dl_795 : decode code 795 = .ok (.aload_n 0, 1) := by decide +kernel
theorem dl_796 : decode code 796 = .ok (.iload_n 3, 1) := by decide +kernel
theorem dl_797 : decode code 797 = .ok (.iconst 2, 1) := by decide +kernel
theorem dl_798 : decode code 798 = .ok (.iadd, 1) := by decide +kernel
theorem dl_799 : decode code 799 = .ok (.iaload, 1) := by decide +kernel
theorem dl_800 : decode code 800 = .ok (.invokevirtual 89, 3) := by decide +kernel
theorem dl_803 : decode code 803 = .ok (.aload_n 2, 1) := by decide +kernel
theorem dl_804 : decode code 804 = .ok (.aload_n 0, 1) := by decide +kernel
theorem dl_805 : decode code 805 = .ok (.iload_n 3, 1) := by decide +kernel
theorem dl_806 : decode code 806 = .ok (.iconst 1, 1) := by decide +kernel
theorem dl_807 : decode code 807 = .ok (.iadd, 1) := by decide +kernel
theorem dl_808 : decode code 808 = .ok (.iaload, 1) := by decide +kernel
theorem dl_809 : decode code 809 = .ok (.aload_n 0, 1) := by decide +kernel
theorem dl_810 : decode code 810 = .ok (.iload_n 3, 1) := by decide +kernel
theorem dl_811 : decode code 811 = .ok (.iconst 2, 1) := by decide +kernel
theorem dl_812 : decode code 812 = .ok (.iadd, 1) := by decide +kernel
theorem dl_813 : decode code 813 = .ok (.iaload, 1) := by decide +kernel
theorem dl_814 : decode code 814 = .ok (.invokevirtual 93, 3) := by decide +kernel
theorem dl_817 : decode code 817 = .ok (.if_icmp .eq 495, 3) := by decide +kernel
theorem dl_820 : decode code 820 = .ok (.iconst 0, 1) := by decide +kernel
theorem dl_821 : decode code 821 = .ok (.ireturn, 1) := by decide +kernel
theorem dl_822 : decode code 822 = .ok (.aload_n 1, 1) := by decide +kernel
theorem dl_823 : decode code 823 = .ok (.invokevirtual 94, 3) := by decide +kernel
theorem dl_826 : decode code 826 = .ok (.aload_n 2, 1) := by decide +kernel
theorem dl_827 : decode code 827 = .ok (.invokevirtual 98, 3) := by decide +kernel
theorem dl_830 : decode code 830 = .ok (.if_icmp .eq 482, 3) := by decide +kernel
theorem dl_833 : decode code 833 = .ok (.iconst 0, 1) := by decide +kernel
theorem dl_834 : decode code 834 = .ok (.ireturn, 1) := by decide +kernel
theorem dl_835 : decode code 835 = .ok (.aload_n 1, 1) := by decide +kernel
theorem dl_836 : decode code 836 = .ok (.aload_n 0, 1) := by decide +kernel
theorem dl_837 : decode code 837 = .ok (.iload_n 3, 1) := by decide +kernel
theorem dl_838 : decode code 838 = .ok (.iconst 1, 1) := by decide +kernel
theorem dl_839 : decode code 839 = .ok (.iadd, 1) := by decide +kernel
theorem dl_840 : decode code 840 = .ok (.iaload, 1) := by decide +kernel
theorem dl_841 : decode code 841 = .ok (.invokevirtual 99, 3) := by decide +kernel
theorem dl_844 : decode code 844 = .ok (.aload_n 2, 1) := by decide +kernel
theorem dl_845 : decode code 845 = .ok (.aload_n 0, 1) := by decide +kernel
theorem dl_846 : decode code 846 = .ok (.iload_n 3, 1) := by decide +kernel
theorem dl_847 : decode code 847 = .ok (.iconst 1, 1) := by decide +kernel
theorem dl_848 : decode code 848 = .ok (.iadd, 1) := by decide +kernel
theorem dl_849 : decode code 849 = .ok (.iaload, 1) := by decide +kernel
theorem dl_850 : decode code 850 = .ok (.invokevirtual 102, 3) := by decide +kernel
theorem dl_853 : decode code 853 = .ok (.if_icmp .eq 459, 3) := by decide +kernel
theorem dl_856 : decode code 856 = .ok (.iconst 0, 1) := by decide +kernel
theorem dl_857 : decode code 857 = .ok (.ireturn, 1) := by decide +kernel
theorem dl_858 : decode code 858 = .ok (.aload_n 1, 1) := by decide +kernel
theorem dl_859 : decode code 859 = .ok (.aload_n 0, 1) := by decide +kernel
theorem dl_860 : decode code 860 = .ok (.iload_n 3, 1) := by decide +kernel
theorem dl_861 : decode code 861 = .ok (.iconst 1, 1) := by decide +kernel
theorem dl_862 : decode code 862 = .ok (.iadd, 1) := by decide +kernel
theorem dl_863 : decode code 863 = .ok (.iaload, 1) := by decide +kernel
theorem dl_864 : decode code 864 = .ok (.aload_n 0, 1) := by decide +kernel
theorem dl_865 : decode code 865 = .ok (.iload_n 3, 1) := by decide +kernel
theorem dl_866 : decode code 866 = .ok (.iconst 2, 1) := by decide +kernel
theorem dl_867 : decode code 867 = .ok (.iadd, 1) := by decide +kernel
theorem dl_868 : decode code 868 = .ok (.iaload, 1) := by decide +kernel
theorem dl_869 : decode code 869 = .ok (.aload_n 0, 1) := by decide +kernel
theorem dl_870 : decode code 870 = .ok (.iload_n 3, 1) := by decide +kernel
theorem dl_871 : decode code 871 = .ok (.iconst 3, 1) := by decide +kernel
theorem dl_872 : decode code 872 = .ok (.iadd, 1) := by decide +kernel
theorem dl_873 : decode code 873 = .ok (.iaload, 1) := by decide +kernel
theorem dl_874 : decode code 874 = .ok (.invokevirtual 103, 3) := by decide +kernel
theorem dl_877 : decode code 877 = .ok (.aload_n 2, 1) := by decide +kernel
theorem dl_878 : decode code 878 = .ok (.aload_n 0, 1) := by decide +kernel
theorem dl_879 : decode code 879 = .ok (.iload_n 3, 1) := by decide +kernel
theorem dl_880 : decode code 880 = .ok (.iconst 1, 1) := by decide +kernel
theorem dl_881 : decode code 881 = .ok (.iadd, 1) := by decide +kernel
theorem dl_882 : decode code 882 = .ok (.iaload, 1) := by decide +kernel
theorem dl_883 : decode code 883 = .ok (.aload_n 0, 1) := by decide +kernel
theorem dl_884 : decode code 884 = .ok (.iload_n 3, 1) := by decide +kernel
theorem dl_885 : decode code 885 = .ok (.iconst 2, 1) := by decide +kernel
theorem dl_886 : decode code 886 = .ok (.iadd, 1) := by decide +kernel
theorem dl_887 : decode code 887 = .ok (.iaload, 1) := by decide +kernel
theorem dl_888 : decode code 888 = .ok (.aload_n 0, 1) := by decide +kernel
theorem dl_889 : decode code 889 = .ok (.iload_n 3, 1) := by decide +kernel
theorem dl_890 : decode code 890 = .ok (.iconst 3, 1) := by decide +kernel
theorem dl_891 : decode code 891 = .ok (.iadd, 1) := by decide +kernel
theorem dl_892 : decode code 892 = .ok (.iaload, 1) := by decide +kernel
theorem dl_893 : decode code 893 = .ok (.invokevirtual 106, 3) := by decide +kernel
theorem dl_896 : decode code 896 = .ok (.if_icmp .eq 416, 3) := by decide +kernel
theorem dl_899 : decode code 899 = .ok (.iconst 0, 1) := by decide +kernel
theorem dl_900 : decode code 900 = .ok (.ireturn, 1) := by decide +kernel
theorem dl_901 : decode code 901 = .ok (.aload_n 1, 1) := by decide +kernel
theorem dl_902 : decode code 902 = .ok (.aload_n 0, 1) := by decide +kernel
theorem dl_903 : decode code 903 = .ok (.iload_n 3, 1) := by decide +kernel
theorem dl_904 : decode code 904 = .ok (.iconst 1, 1) := by decide +kernel
theorem dl_905 : decode code 905 = .ok (.iadd, 1) := by decide +kernel
theorem dl_906 : decode code 906 = .ok (.iaload, 1) := by decide +kernel
theorem dl_907 : decode code 907 = .ok (.aload_n 0, 1) := by decide +kernel
theorem dl_908 : decode code 908 = .ok (.iload_n 3, 1) := by decide +kernel
theorem dl_909 : decode code 909 = .ok (.iconst 2, 1) := by decide +kernel
theorem dl_910 : decode code 910 = .ok (.iadd, 1) := by decide +kernel
theorem dl_911 : decode code 911 = .ok (.iaload, 1) := by decide +kernel
theorem dl_912 : decode code 912 = .ok (.invokevirtual 107, 3) := by decide +kernel
theorem dl_915 : decode code 915 = .ok (.aload_n 2, 1) := by decide +kernel
theorem dl_916 : decode code 916 = .ok (.aload_n 0, 1) := by decide +kernel
theorem dl_917 : decode code 917 = .ok (.iload_n 3, 1) := by decide +kernel
theorem dl_918 : decode code 918 = .ok (.iconst 1, 1) := by decide +kernel
theorem dl_919 : decode code 919 = .ok (.iadd, 1) := by decide +kernel
theorem dl_920 : decode code 920 = .ok (.iaload, 1) := by decide +kernel
theorem dl_921 : decode code 921 = .ok (.aload_n 0, 1) := by decide +kernel
theorem dl_922 : decode code 922 = .ok (.iload_n 3, 1) := by decide +kernel
theorem dl_923 : decode code 923 = .ok (.iconst 2, 1) := by decide +kernel
theorem dl_924 : decode code 924 = .ok (.iadd, 1) := by decide +kernel
theorem dl_925 : decode code 925 = .ok (.iaload, 1) := by decide +kernel
theorem dl_926 : decode code 926 = .ok (.invokevirtual 110, 3) := by decide +kernel
theorem dl_929 : decode code 929 = .ok (.if_icmp .eq 383, 3) := by decide +kernel
theorem dl_932 : decode code 932 = .ok (.iconst 0, 1) := by decide +kernel
theorem dl_933 : decode code 933 = .ok (.ireturn, 1) := by decide +kernel
theorem dl_934 : decode code 934 = .ok (.aload_n 1, 1) := by decide +kernel
theorem dl_935 : decode code 935 = .ok (.aload_n 0, 1) := by decide +kernel
theorem dl_936 : decode code 936 = .ok (.iload_n 3, 1) := by decide +kernel
theorem dl_937 : decode code 937 = .ok (.iconst 1, 1) := by decide +kernel
theorem dl_938 : decode code 938 = .ok (.iadd, 1) := by decide +kernel
theorem dl_939 : decode code 939 = .ok (.iaload, 1) := by decide +kernel
theorem dl_940 : decode code 940 = .ok (.aload_n 0, 1) := by decide +kernel
theorem dl_941 : decode code 941 = .ok (.iload_n 3, 1) := by decide +kernel
theorem dl_942 : decode code 942 = .ok (.iconst 2, 1) := by decide +kernel
theorem dl_943 : decode code 943 = .ok (.iadd, 1) := by decide +kernel
theorem dl_944 : decode code 944 = .ok (.iaload, 1) := by decide +kernel
theorem dl_945 : decode code 945 = .ok (.invokevirtual 111, 3) := by decide +kernel
theorem dl_948 : decode code 948 = .ok (.aload_n 2, 1) := by decide +kernel
theorem dl_949 : decode code 949 = .ok (.aload_n 0, 1) := by decide +kernel
theorem dl_950 : decode code 950 = .ok (.iload_n 3, 1) := by decide +kernel
theorem dl_951 : decode code 951 = .ok (.iconst 1, 1) := by decide +kernel
theorem dl_952 : decode code 952 = .ok (.iadd, 1) := by decide +kernel
theorem dl_953 : decode code 953 = .ok (.iaload, 1) := by decide +kernel
theorem dl_954 : decode code 954 = .ok (.aload_n 0, 1) := by decide +kernel
theorem dl_955 : decode code 955 = .ok (.iload_n 3, 1) := by decide +kernel
theorem dl_956 : decode code 956 = .ok (.iconst 2, 1) := by decide +kernel
theorem dl_957 : decode code 957 = .ok (.iadd, 1) := by decide +kernel
theorem dl_958 : decode code 958 = .ok (.iaload, 1) := by decide +kernel
theorem dl_959 : decode code 959 = .ok (.invokevirtual 114, 3) := by decide +kernel
theorem dl_962 : decode code 962 = .ok (.if_icmp .eq 350, 3) := by decide +kernel
theorem dl_965 : decode code 965 = .ok (.iconst 0, 1) := by decide +kernel
theorem dl_966 : decode code 966 = .ok (.ireturn, 1) := by decide +kernel
theorem dl_967 : decode code 967 = .ok (.aload_n 1, 1) := by decide +kernel
theorem dl_968 : decode code 968 = .ok (.invokevirtual 115, 3) := by decide +kernel
theorem dl_971 : decode code 971 = .ok (.aload_n 2, 1) := by decide +kernel
theorem dl_972 : decode code 972 = .ok (.invokevirtual 118, 3) := by decide +kernel
theorem dl_975 : decode code 975 = .ok (.if_icmp .eq 337, 3) := by decide +kernel
theorem dl_978 : decode code 978 = .ok (.iconst 0, 1) := by decide +kernel
theorem dl_979 : decode code 979 = .ok (.ireturn, 1) := by decide +kernel
theorem dl_980 : decode code 980 = .ok (.aload_n 1, 1) := by decide +kernel
theorem dl_981 : decode code 981 = .ok (.aload_n 0, 1) := by decide +kernel
theorem dl_982 : decode code 982 = .ok (.iload_n 3, 1) := by decide +kernel
theorem dl_983 : decode code 983 = .ok (.iconst 1, 1) := by decide +kernel
theorem dl_984 : decode code 984 = .ok (.iadd, 1) := by decide +kernel
theorem dl_985 : decode code 985 = .ok (.iaload, 1) := by decide +kernel
theorem dl_986 : decode code 986 = .ok (.invokevirtual 119, 3) := by decide +kernel
theorem dl_989 : decode code 989 = .ok (.aload_n 2, 1) := by decide +kernel
theorem dl_990 : decode code 990 = .ok (.aload_n 0, 1) := by decide +kernel
theorem dl_991 : decode code 991 = .ok (.iload_n 3, 1) := by decide +kernel
theorem dl_992 : decode code 992 = .ok (.iconst 1, 1) := by decide +kernel
theorem dl_993 : decode code 993 = .ok (.iadd, 1) := by decide +kernel
theorem dl_994 : decode code 994 = .ok (.iaload, 1) := by decide +kernel
theorem dl_995 : decode code 995 = .ok (.invokevirtual 122, 3) := by decide +kernel
theorem dl_998 : decode code 998 = .ok (.if_icmp .eq 314, 3) := by decide +kernel
theorem dl_1001 : decode code 1001 = .ok (.iconst 0, 1) := by decide +kernel
theorem dl_1002 : decode code 1002 = .ok (.ireturn, 1) := by decide +kernel
theorem dl_1003 : decode code 1003 = .ok (.aload_n 1, 1) := by decide +kernel
theorem dl_1004 : decode code 1004 = .ok (.aload_n 0, 1) := by decide +kernel
theorem dl_1005 : decode code 1005 = .ok (.iload_n 3, 1) := by decide +kernel
theorem dl_1006 : decode code 1006 = .ok (.iconst 1, 1) := by decide +kernel
theorem dl_1007 : decode code 1007 = .ok (.iadd, 1) := by decide +kernel
theorem dl_1008 : decode code 1008 = .ok (.iaload, 1) := by decide +kernel
theorem dl_1009 : decode code 1009 = .ok (.invokevirtual 123, 3) := by decide +kernel
theorem dl_1012 : decode code 1012 = .ok (.aload_n 2, 1) := by decide +kernel
theorem dl_1013 : decode code 1013 = .ok (.aload_n 0, 1) := by decide +kernel
theorem dl_1014 : decode code 1014 = .ok (.iload_n 3, 1) := by decide +kernel
theorem dl_1015 : decode code 1015 = .ok (.iconst 1, 1) := by decide +kernel
theorem dl_1016 : decode code 1016 = .ok (.iadd, 1) := by decide +kernel
theorem dl_1017 : decode code 1017 = .ok (.iaload, 1) := by decide +kernel
theorem dl_1018 : decode code 1018 = .ok (.invokevirtual 126, 3) := by decide +kernel
theorem dl_1021 : decode code 1021 = .ok (.if_icmp .eq 291, 3) := by decide +kernel
theorem dl_1024 : decode code 1024 = .ok (.iconst 0, 1) := by decide +kernel
theorem dl_1025 : decode code 1025 = .ok (.ireturn, 1) := by decide +kernel
theorem dl_1026 : decode code 1026 = .ok (.aload_n 1, 1) := by decide +kernel
theorem dl_1027 : decode code 1027 = .ok (.invokevirtual 127, 3) := by decide +kernel
theorem dl_1030 : decode code 1030 = .ok (.aload_n 2, 1) := by decide +kernel
theorem dl_1031 : decode code 1031 = .ok (.invokevirtual 130, 3) := by decide +kernel
theorem dl_1034 : decode code 1034 = .ok (.if_icmp .eq 278, 3) := by decide +kernel
theorem dl_1037 : decode code 1037 = .ok (.iconst 0, 1) := by decide +kernel
theorem dl_1038 : decode code 1038 = .ok (.ireturn, 1) := by decide +kernel
theorem dl_1039 : decode code 1039 = .ok (.aload_n 1, 1) := by decide +kernel
theorem dl_1040 : decode code 1040 = .ok (.aload_n 0, 1) := by decide +kernel
theorem dl_1041 : decode code 1041 = .ok (.iload_n 3, 1) := by decide +kernel
theorem dl_1042 : decode code 1042 = .ok (.iconst 1, 1) := by decide +kernel
theorem dl_1043 : decode code 1043 = .ok (.iadd, 1) := by decide +kernel
theorem dl_1044 : decode code 1044 = .ok (.iaload, 1) := by decide +kernel
theorem dl_1045 : decode code 1045 = .ok (.invokevirtual 131, 3) := by decide +kernel
theorem dl_1048 : decode code 1048 = .ok (.aload_n 2, 1) := by decide +kernel
theorem dl_1049 : decode code 1049 = .ok (.aload_n 0, 1) := by decide +kernel
theorem dl_1050 : decode code 1050 = .ok (.iload_n 3, 1) := by decide +kernel
theorem dl_1051 : decode code 1051 = .ok (.iconst 1, 1) := by decide +kernel
theorem dl_1052 : decode code 1052 = .ok (.iadd, 1) := by decide +kernel
theorem dl_1053 : decode code 1053 = .ok (.iaload, 1) := by decide +kernel
theorem dl_1054 : decode code 1054 = .ok (.invokevirtual 134, 3) := by decide +kernel
theorem dl_1057 : decode code 1057 = .ok (.if_icmp .eq 255, 3) := by decide +kernel
theorem dl_1060 : decode code 1060 = .ok (.iconst 0, 1) := by decide +kernel
theorem dl_1061 : decode code 1061 = .ok (.ireturn, 1) := by decide +kernel
theorem dl_1062 : decode code 1062 = .ok (.aload_n 1, 1) := by decide +kernel
theorem dl_1063 : decode code 1063 = .ok (.invokevirtual 135, 3) := by decide +kernel
theorem dl_1066 : decode code 1066 = .ok (.aload_n 2, 1) := by decide +kernel
theorem dl_1067 : decode code 1067 = .ok (.invokevirtual 138, 3) := by decide +kernel
theorem dl_1070 : decode code 1070 = .ok (.if_icmp .eq 242, 3) := by decide +kernel
theorem dl_1073 : decode code 1073 = .ok (.iconst 0, 1) := by decide +kernel
theorem dl_1074 : decode code 1074 = .ok (.ireturn, 1) := by decide +kernel
theorem dl_1075 : decode code 1075 = .ok (.aload_n 1, 1) := by decide +kernel
theorem dl_1076 : decode code 1076 = .ok (.aload_n 0, 1) := by decide +kernel
theorem dl_1077 : decode code 1077 = .ok (.iload_n 3, 1) := by decide +kernel
theorem dl_1078 : decode code 1078 = .ok (.iconst 1, 1) := by decide +kernel
theorem dl_1079 : decode code 1079 = .ok (.iadd, 1) := by decide +kernel
theorem dl_1080 : decode code 1080 = .ok (.iaload, 1) := by decide +kernel
theorem dl_1081 : decode code 1081 = .ok (.aload_n 0, 1) := by decide +kernel
theorem dl_1082 : decode code 1082 = .ok (.iload_n 3, 1) := by decide +kernel
theorem dl_1083 : decode code 1083 = .ok (.iconst 2, 1) := by decide +kernel
theorem dl_1084 : decode code 1084 = .ok (.iadd, 1) := by decide +kernel
theorem dl_1085 : decode code 1085 = .ok (.iaload, 1) := by decide +kernel
theorem dl_1086 : decode code 1086 = .ok (.invokevirtual 139, 3) := by decide +kernel
theorem dl_1089 : decode code 1089 = .ok (.aload_n 2, 1) := by decide +kernel
theorem dl_1090 : decode code 1090 = .ok (.aload_n 0, 1) := by decide +kernel
theorem dl_1091 : decode code 1091 = .ok (.iload_n 3, 1) := by decide +kernel
theorem dl_1092 : decode code 1092 = .ok (.iconst 1, 1) := by decide +kernel
theorem dl_1093 : decode code 1093 = .ok (.iadd, 1) := by decide +kernel
theorem dl_1094 : decode code 1094 = .ok (.iaload, 1) := by decide +kernel
theorem dl_1095 : decode code 1095 = .ok (.aload_n 0, 1) := by decide +kernel
theorem dl_1096 : decode code 1096 = .ok (.iload_n 3, 1) := by decide +kernel
theorem dl_1097 : decode code 1097 = .ok (.iconst 2, 1) := by decide +kernel
theorem dl_1098 : decode code 1098 = .ok (.iadd, 1) := by decide +kernel
theorem dl_1099 : decode code 1099 = .ok (.iaload, 1) := by decide +kernel
theorem dl_1100 : decode code 1100 = .ok (.invokevirtual 142, 3) := by decide +kernel
theorem dl_1103 : decode code 1103 = .ok (.if_icmp .eq 209, 3) := by decide +kernel
theorem dl_1106 : decode code 1106 = .ok (.iconst 0, 1) := by decide +kernel
theorem dl_1107 : decode code 1107 = .ok (.ireturn, 1) := by decide +kernel
theorem dl_1108 : decode code 1108 = .ok (.aload_n 1, 1) := by decide +kernel
theorem dl_1109 : decode code 1109 = .ok (.aload_n 0, 1) := by decide +kernel
theorem dl_1110 : decode code 1110 = .ok (.iload_n 3, 1) := by decide +kernel
theorem dl_1111 : decode code 1111 = .ok (.iconst 1, 1) := by decide +kernel
theorem dl_1112 : decode code 1112 = .ok (.iadd, 1) := by decide +kernel
theorem dl_1113 : decode code 1113 = .ok (.iaload, 1) := by decide +kernel
theorem dl_1114 : decode code 1114 = .ok (.aload_n 0, 1) := by decide +kernel
theorem dl_1115 : decode code 1115 = .ok (.iload_n 3, 1) := by decide +kernel
theorem dl_1116 : decode code 1116 = .ok (.iconst 2, 1) := by decide +kernel
theorem dl_1117 : decode code 1117 = .ok (.iadd, 1) := by decide +kernel
theorem dl_1118 : decode code 1118 = .ok (.iaload, 1) := by decide +kernel
theorem dl_1119 : decode code 1119 = .ok (.invokevirtual 143, 3) := by decide +kernel
theorem dl_1122 : decode code 1122 = .ok (.aload_n 2, 1) := by decide +kernel
theorem dl_1123 : decode code 1123 = .ok (.aload_n 0, 1) := by decide +kernel
theorem dl_1124 : decode code 1124 = .ok (.iload_n 3, 1) := by decide +kernel
theorem dl_1125 : decode code 1125 = .ok (.iconst 1, 1) := by decide +kernel
theorem dl_1126 : decode code 1126 = .ok (.iadd, 1) := by decide +kernel
theorem dl_1127 : decode code 1127 = .ok (.iaload, 1) := by decide +kernel
theorem dl_1128 : decode code 1128 = .ok (.aload_n 0, 1) := by decide +kernel
theorem dl_1129 : decode code 1129 = .ok (.iload_n 3, 1) := by decide +kernel
theorem dl_1130 : decode code 1130 = .ok (.iconst 2, 1) := by decide +kernel
theorem dl_1131 : decode code 1131 = .ok (.iadd, 1) := by decide +kernel
theorem dl_1132 : decode code 1132 = .ok (.iaload, 1) := by decide +kernel
theorem dl_1133 : decode code 1133 = .ok (.invokevirtual 146, 3) := by decide +kernel
theorem dl_1136 : decode code 1136 = .ok (.if_icmp .eq 176, 3) := by decide +kernel
theorem dl_1139 : decode code 1139 = .ok (.iconst 0, 1) := by decide +kernel
theorem dl_1140 : decode code 1140 = .ok (.ireturn, 1) := by decide +kernel
theorem dl_1141 : decode code 1141 = .ok (.aload_n 1, 1) := by decide +kernel
theorem dl_1142 : decode code 1142 = .ok (.aload_n 0, 1) := by decide +kernel
theorem dl_1143 : decode code 1143 = .ok (.iload_n 3, 1) := by decide +kernel
theorem dl_1144 : decode code 1144 = .ok (.iconst 1, 1) := by decide +kernel
theorem dl_1145 : decode code 1145 = .ok (.iadd, 1) := by decide +kernel
theorem dl_1146 : decode code 1146 = .ok (.iaload, 1) := by decide +kernel
theorem dl_1147 : decode code 1147 = .ok (.invokevirtual 147, 3) := by decide +kernel
theorem dl_1150 : decode code 1150 = .ok (.aload_n 2, 1) := by decide +kernel
theorem dl_1151 : decode code 1151 = .ok (.aload_n 0, 1) := by decide +kernel
theorem dl_1152 : decode code 1152 = .ok (.iload_n 3, 1) := by decide +kernel
theorem dl_1153 : decode code 1153 = .ok (.iconst 1, 1) := by decide +kernel
theorem dl_1154 : decode code 1154 = .ok (.iadd, 1) := by decide +kernel
theorem dl_1155 : decode code 1155 = .ok (.iaload, 1) := by decide +kernel
theorem dl_1156 : decode code 1156 = .ok (.invokevirtual 150, 3) := by decide +kernel
theorem dl_1159 : decode code 1159 = .ok (.if_icmp .eq 153, 3) := by decide +kernel
theorem dl_1162 : decode code 1162 = .ok (.iconst 0, 1) := by decide +kernel
theorem dl_1163 : decode code 1163 = .ok (.ireturn, 1) := by decide +kernel
theorem dl_1164 : decode code 1164 = .ok (.aload_n 1, 1) := by decide +kernel
theorem dl_1165 : decode code 1165 = .ok (.aload_n 0, 1) := by decide +kernel
theorem dl_1166 : decode code 1166 = .ok (.iload_n 3, 1) := by decide +kernel
theorem dl_1167 : decode code 1167 = .ok (.iconst 1, 1) := by decide +kernel
theorem dl_1168 : decode code 1168 = .ok (.iadd, 1) := by decide +kernel
theorem dl_1169 : decode code 1169 = .ok (.iaload, 1) := by decide +kernel
theorem dl_1170 : decode code 1170 = .ok (.aload_n 0, 1) := by decide +kernel
theorem dl_1171 : decode code 1171 = .ok (.iload_n 3, 1) := by decide +kernel
theorem dl_1172 : decode code 1172 = .ok (.iconst 2, 1) := by decide +kernel
theorem dl_1173 : decode code 1173 = .ok (.iadd, 1) := by decide +kernel
theorem dl_1174 : decode code 1174 = .ok (.iaload, 1) := by decide +kernel
theorem dl_1175 : decode code 1175 = .ok (.invokevirtual 151, 3) := by decide +kernel
theorem dl_1178 : decode code 1178 = .ok (.aload_n 2, 1) := by decide +kernel
theorem dl_1179 : decode code 1179 = .ok (.aload_n 0, 1) := by decide +kernel
theorem dl_1180 : decode code 1180 = .ok (.iload_n 3, 1) := by decide +kernel
theorem dl_1181 : decode code 1181 = .ok (.iconst 1, 1) := by decide +kernel
theorem dl_1182 : decode code 1182 = .ok (.iadd, 1) := by decide +kernel
theorem dl_1183 : decode code 1183 = .ok (.iaload, 1) := by decide +kernel
theorem dl_1184 : decode code 1184 = .ok (.aload_n 0, 1) := by decide +kernel
theorem dl_1185 : decode code 1185 = .ok (.iload_n 3, 1) := by decide +kernel
theorem dl_1186 : decode code 1186 = .ok (.iconst 2, 1) := by decide +kernel
theorem dl_1187 : decode code 1187 = .ok (.iadd, 1) := by decide +kernel
theorem dl_1188 : decode code 1188 = .ok (.iaload, 1) := by decide +kernel
theorem dl_1189 : decode code 1189 = .ok (.invokevirtual 154, 3) := by decide +kernel
theorem dl_1192 : decode code 1192 = .ok (.if_icmp .eq 120, 3) := by decide +kernel
theorem dl_1195 : decode code 1195 = .ok (.iconst 0, 1) := by decide +kernel
theorem dl_1196 : decode code 1196 = .ok (.ireturn, 1) := by decide +kernel
theorem dl_1197 : decode code 1197 = .ok (.aload_n 1, 1) := by decide +kernel
theorem dl_1198 : decode code 1198 = .ok (.aload_n 0, 1) := by decide +kernel
theorem dl_1199 : decode code 1199 = .ok (.iload_n 3, 1) := by decide +kernel
theorem dl_1200 : decode code 1200 = .ok (.iconst 1, 1) := by decide +kernel
theorem dl_1201 : decode code 1201 = .ok (.iadd, 1) := by decide +kernel
theorem dl_1202 : decode code 1202 = .ok (.iaload, 1) := by decide +kernel
theorem dl_1203 : decode code 1203 = .ok (.aload_n 0, 1) := by decide +kernel
theorem dl_1204 : decode code 1204 = .ok (.iload_n 3, 1) := by decide +kernel
theorem dl_1205 : decode code 1205 = .ok (.iconst 2, 1) := by decide +kernel
theorem dl_1206 : decode code 1206 = .ok (.iadd, 1) := by decide +kernel
theorem dl_1207 : decode code 1207 = .ok (.iaload, 1) := by decide +kernel
theorem dl_1208 : decode code 1208 = .ok (.aload_n 0, 1) := by decide +kernel
theorem dl_1209 : decode code 1209 = .ok (.iload_n 3, 1) := by decide +kernel
theorem dl_1210 : decode code 1210 = .ok (.iconst 3, 1) := by decide +kernel
theorem dl_1211 : decode code 1211 = .ok (.iadd, 1) := by decide +kernel
theorem dl_1212 : decode code 1212 = .ok (.iaload, 1) := by decide +kernel
theorem dl_1213 : decode code 1213 = .ok (.invokevirtual 155, 3) := by decide +kernel
theorem dl_1216 : decode code 1216 = .ok (.aload_n 2, 1) := by decide +kernel
theorem dl_1217 : decode code 1217 = .ok (.aload_n 0, 1) := by decide +kernel
theorem dl_1218 : decode code 1218 = .ok (.iload_n 3, 1) := by decide +kernel
theorem dl_1219 : decode code 1219 = .ok (.iconst 1, 1) := by decide +kernel
theorem dl_1220 : decode code 1220 = .ok (.iadd, 1) := by decide +kernel
theorem dl_1221 : decode code 1221 = .ok (.iaload, 1) := by decide +kernel
theorem dl_1222 : decode code 1222 = .ok (.aload_n 0, 1) := by decide +kernel
theorem dl_1223 : decode code 1223 = .ok (.iload_n 3, 1) := by decide +kernel
theorem dl_1224 : decode code 1224 = .ok (.iconst 2, 1) := by decide +kernel
theorem dl_1225 : decode code 1225 = .ok (.iadd, 1) := by decide +kernel
theorem dl_1226 : decode code 1226 = .ok (.iaload, 1) := by decide +kernel
theorem dl_1227 : decode code 1227 = .ok (.aload_n 0, 1) := by decide +kernel
theorem dl_1228 : decode code 1228 = .ok (.iload_n 3, 1) := by decide +kernel
theorem dl_1229 : decode code 1229 = .ok (.iconst 3, 1) := by decide +kernel
theorem dl_1230 : decode code 1230 = .ok (.iadd, 1) := by decide +kernel
theorem dl_1231 : decode code 1231 = .ok (.iaload, 1) := by decide +kernel
theorem dl_1232 : decode code 1232 = .ok (.invokevirtual 158, 3) := by decide +kernel
theorem dl_1235 : decode code 1235 = .ok (.if_icmp .eq 77, 3) := by decide +kernel
theorem dl_1238 : decode code 1238 = .ok (.iconst 0, 1) := by decide +kernel
theorem dl_1239 : decode code 1239 = .ok (.ireturn, 1) := by decide +kernel
theorem dl_1240 : decode code 1240 = .ok (.aload_n 1, 1) := by decide +kernel
theorem dl_1241 : decode code 1241 = .ok (.invokevirtual 159, 3) := by decide +kernel
theorem dl_1244 : decode code 1244 = .ok (.aload_n 2, 1) := by decide +kernel
theorem dl_1245 : decode code 1245 = .ok (.invokevirtual 162, 3) := by decide +kernel
theorem dl_1248 : decode code 1248 = .ok (.if_icmp .eq 64, 3) := by decide +kernel
theorem dl_1251 : decode code 1251 = .ok (.iconst 0, 1) := by decide +kernel
theorem dl_1252 : decode code 1252 = .ok (.ireturn, 1) := by decide +kernel
theorem dl_1253 : decode code 1253 = .ok (.aload_n 1, 1) := by decide +kernel
theorem dl_1254 : decode code 1254 = .ok (.aload_n 0, 1) := by decide +kernel
theorem dl_1255 : decode code 1255 = .ok (.iload_n 3, 1) := by decide +kernel
theorem dl_1256 : decode code 1256 = .ok (.iconst 1, 1) := by decide +kernel
theorem dl_1257 : decode code 1257 = .ok (.iadd, 1) := by decide +kernel
theorem dl_1258 : decode code 1258 = .ok (.iaload, 1) := by decide +kernel
theorem dl_1259 : decode code 1259 = .ok (.invokevirtual 163, 3) := by decide +kernel
theorem dl_1262 : decode code 1262 = .ok (.aload_n 2, 1) := by decide +kernel
theorem dl_1263 : decode code 1263 = .ok (.aload_n 0, 1) := by decide +kernel
theorem dl_1264 : decode code 1264 = .ok (.iload_n 3, 1) := by decide +kernel
theorem dl_1265 : decode code 1265 = .ok (.iconst 1, 1) := by decide +kernel
theorem dl_1266 : decode code 1266 = .ok (.iadd, 1) := by decide +kernel
theorem dl_1267 : decode code 1267 = .ok (.iaload, 1) := by decide +kernel
theorem dl_1268 : decode code 1268 = .ok (.invokevirtual 166, 3) := by decide +kernel
theorem dl_1271 : decode code 1271 = .ok (.if_icmp .eq 41, 3) := by decide +kernel
theorem dl_1274 : decode code 1274 = .ok (.iconst 0, 1) := by decide +kernel
theorem dl_1275 : decode code 1275 = .ok (.ireturn, 1) := by decide +kernel
theorem dl_1276 : decode code 1276 = .ok (.aload_n 1, 1) := by decide +kernel
theorem dl_1277 : decode code 1277 = .ok (.invokevirtual 167, 3) := by decide +kernel
theorem dl_1280 : decode code 1280 = .ok (.aload_n 2, 1) := by decide +kernel
theorem dl_1281 : decode code 1281 = .ok (.invokevirtual 170, 3) := by decide +kernel
theorem dl_1284 : decode code 1284 = .ok (.if_icmp .eq 28, 3) := by decide +kernel
theorem dl_1287 : decode code 1287 = .ok (.iconst 0, 1) := by decide +kernel
theorem dl_1288 : decode code 1288 = .ok (.ireturn, 1) := by decide +kernel
theorem dl_1289 : decode code 1289 = .ok (.aload_n 1, 1) := by decide +kernel
theorem dl_1290 : decode code 1290 = .ok (.aload_n 0, 1) := by decide +kernel
theorem dl_1291 : decode code 1291 = .ok (.iload_n 3, 1) := by decide +kernel
theorem dl_1292 : decode code 1292 = .ok (.iconst 1, 1) := by decide +kernel
theorem dl_1293 : decode code 1293 = .ok (.iadd, 1) := by decide +kernel
theorem dl_1294 : decode code 1294 = .ok (.iaload, 1) := by decide +kernel
theorem dl_1295 : decode code 1295 = .ok (.invokevirtual 171, 3) := by decide +kernel
theorem dl_1298 : decode code 1298 = .ok (.aload_n 2, 1) := by decide +kernel
theorem dl_1299 : decode code 1299 = .ok (.aload_n 0, 1) := by decide +kernel
theorem dl_1300 : decode code 1300 = .ok (.iload_n 3, 1) := by decide +kernel
theorem dl_1301 : decode code 1301 = .ok (.iconst 1, 1) := by decide +kernel
theorem dl_1302 : decode code 1302 = .ok (.iadd, 1) := by decide +kernel
theorem dl_1303 : decode code 1303 = .ok (.iaload, 1) := by decide +kernel
theorem dl_1304 : decode code 1304 = .ok (.invokevirtual 174, 3) := by decide +kernel
theorem dl_1307 : decode code 1307 = .ok (.if_icmp .eq 5, 3) := by decide +kernel
theorem dl_1310 : decode code 1310 = .ok (.iconst 0, 1) := by decide +kernel
theorem dl_1311 : decode code 1311 = .ok (.ireturn, 1) := by decide +kernel
theorem dl_1312 : decode code 1312 = .ok (.iinc 3 6, 3) := by decide +kernel
theorem dl_1315 : decode code 1315 = .ok (.goto (-1297), 3) := by decide +kernel
theorem dl_1318 : decode code 1318 = .ok (.iconst 1, 1) := by decide +kernel
theorem dl_1319 : decode code 1319 = .ok (.ireturn, 1) := by decide +kernel
end
section
/-! THE LAW's LOOP in the small machine: a call of the class, the same call of the reference, their answers compared (wip/whole/mk21.py) -/
def zml (q : Nat) : zML := [some (.ref zBig), some (.ref 0), some (.ref 386), some (.int (nI (6 * q)))]
abbrev zLX (X : List Int32) (d : Nat) (st : zS) (r : zRes) : Prop := ZX X d 10 false zlawR code st r
def zbl (b : Bool) (a : Int32) : Int32 := if b = true then (if a = 0 then 0 else 1) else a
/-- the calls: the class's method, the reference's, which ints of the row they take (true: told apart by 0 alone) -/
def zops : List (Nat × Nat × List (Nat × Bool)) := [(2049, 2305, [(1, false), (2, false), (3, false), (4, false), (5, false)]), (2052, 2308, [(1, false)]), (2053, 2309, []), (2054, 2343, [(1, false)]), (2055, 2348, [(1, false)]), (2059, 2351, [(1, false), (2, false), (3, false)]), (2063, 2352, [(1, false), (2, false)]), (2064, 2355, [(1, false)]), (2066, 2356, [(1, false), (2, false)]), (2069, 2359, [(1, false), (2, false)]), (2070, 2361, [(1, false), (2, false)]), (2071, 2362, [(1, false), (2, false), (3, true)]), (2073, 2376, [(1, false)]), (2075, 2391, [(1, false), (2, false)]), (2076, 2392, [(1, false), (2, true)]), (2077, 2393, [(1, false), (2, true)]), (2078, 2394, [(1, false), (2, false)]), (2079, 2395, [(1, false), (2, false)]), (2080, 2345, []), (2081, 2396, [(1, false)]), (2082, 2397, [(1, false), (2, false), (3, false)]), (2083, 2398, [(1, false), (2, false)]), (2084, 2399, [(1, false), (2, false)]), (2085, 2400, []), (2086, 2402, [(1, false)]), (2087, 2405, [(1, false)]), (2088, 2407, []), (2089, 2408, [(1, false)]), (2090, 2410, []), (2093, 2411, [(1, false), (2, false)]), (2095, 2414, [(1, false), (2, false)]), (2100, 2420, [(1, false)]), (2102, 2421, [(1, false), (2, false)]), (2103, 2422, [(1, false), (2, false), (3, false)]), (2105, 2423, []), (2109, 2425, [(1, false)]), (2110, 2426, []), (2113, 2344, [(1, false)])]
def zopA (sp : List (Nat × Bool)) (a : Nat → Int32) : List Value := sp.map fun q => .int (zbl q.2 (a q.1))
/-- call k with the row's ints a: from the cells M to the cells M2, with one answer -/
def zOpOK (X : List Int32) (d k : Nat) (a : Nat → Int32) (M M2 : zM) : Prop := ∀ jc jm sp, zops[k]? = some (jc, jm, sp) → ∃ (v : Int32) (M1 : zM), (zarr M1 386 9).isSome = true ∧ ZC X d jc (.ref 0 :: zopA sp a) M (some (.int v), M1) ∧ ZC X d jm (.ref 386 :: zopA sp a) M1 (some (.int v), M2)
def zrow (X : List Int32) (q : Nat) : Nat → Int32 := fun k => X.getD (6 * q + k) 0
section ZLW
variable {X : List Int32} {d : Nat} {r : zRes} {pc q : Nat} {st : List Value} {M : zM}
theorem zidxA {q k : Nat} (hX : X.length ≤ 3072) (hq : 6 * q + 6 ≤ X.length) (hk : k ≤ 5) : nI (6 * q) + nI k = nI (6 * q + k) ∧ (nI (6 * q + k)).toNatClampNeg = 6 * q + k ∧ ¬ (nI (6 * q + k) < 0 ∨ X.length ≤ (nI (6 * q + k)).toNatClampNeg) := by
  have h1 : (nI (6 * q + k)).toNatClampNeg = 6 * q + k := nI_clamp (by omega)
  refine ⟨nI_add _ _, h1, ?_⟩
  rw [h1]
  rintro (h | h)
  · exact nI_pos (by omega) h
  · omega
theorem ZX.arg {k : Nat} {kk : Int} (hX : X.length ≤ 3072) (hq : 6 * q + 6 ≤ X.length) (hk : k ≤ 5) (hkk : Int32.ofInt kk = nI k) (d0 : decode code pc = .ok (.aload_n 0, 1)) (d1 : decode code (pc + 1) = .ok (.iload_n 3, 1)) (d2 : decode code (pc + 2) = .ok (.iconst kk, 1)) (d3 : decode code (pc + 3) = .ok (.iadd, 1)) (d4 : decode code (pc + 4) = .ok (.iaload, 1))
    (n : zLX X d (pc + 5, zml q, .int (zbl false (zrow X q k)) :: st, M) r) : zLX X d (pc, zml q, st, M) r := by
  obtain ⟨e1, e2, e3⟩ := zidxA hX hq hk
  refine ZX.lo d0 rfl rfl rfl rfl ?_
  refine ZX.lo d1 rfl rfl rfl rfl ?_
  refine ZX.pu d2 rfl rfl ?_
  refine ZX.pu d3 rfl rfl ?_
  rw [hkk, e1]
  refine ZX.sr d4 rfl e3 ?_
  rw [e2]
  exact n
theorem ZX.argb {k : Nat} {kk : Int} (hX : X.length ≤ 3072) (hq : 6 * q + 6 ≤ X.length) (hk : k ≤ 5) (hkk : Int32.ofInt kk = nI k) (d0 : decode code pc = .ok (.aload_n 0, 1)) (d1 : decode code (pc + 1) = .ok (.iload_n 3, 1)) (d2 : decode code (pc + 2) = .ok (.iconst kk, 1)) (d3 : decode code (pc + 3) = .ok (.iadd, 1)) (d4 : decode code (pc + 4) = .ok (.iaload, 1)) (d5 : decode code (pc + 5) = .ok (.ifCond .eq 7, 3)) (d6 : decode code (pc + 8) = .ok (.iconst 1, 1)) (d7 : decode code (pc + 9) = .ok (.goto 4, 3)) (d8 : decode code (pc + 12) = .ok (.iconst 0, 1)) (ht1 : ztgt (pc + 5) 7 = some (pc + 12)) (ht2 : ztgt (pc + 9) 4 = some (pc + 13))
    (n : zLX X d (pc + 13, zml q, .int (zbl true (zrow X q k)) :: st, M) r) : zLX X d (pc, zml q, st, M) r := by
  refine ZX.arg hX hq hk hkk d0 d1 d2 d3 d4 ?_
  show zLX X d (pc + 5, zml q, .int (zrow X q k) :: st, M) r
  refine ZX.br (pc' := if zrow X q k = 0 then pc + 12 else pc + 5 + 3) (st' := st) d5 rfl rfl (by simp only [zbr, ht1]; rw [if_pos trivial]) ?_
  unfold zbl at n
  rw [if_pos rfl] at n
  by_cases h : zrow X q k = 0
  · rw [if_pos h]
    rw [if_pos h] at n
    exact ZX.pu d8 rfl rfl n
  · rw [if_neg h]
    rw [if_neg h] at n
    refine ZX.pu d6 rfl rfl ?_
    exact ZX.br d7 rfl rfl (by simp only [zbr, ht2]; rfl) n
theorem zcat1 {a : Nat} : zcat [] ≤ 8 ∧ zcat [Value.int 0] ≤ 8 := by decide
theorem zcatI {v : Int32} : zcat [Value.int v] ≤ 8 := Nat.le_of_ble_eq_true rfl
theorem zcase_0 {v : Int32} {M1 M2 : zM} {vx vm : List Value} (hX : X.length ≤ 3072) (hq : 6 * q + 6 ≤ X.length) (hx : zarr M 0 8 = some vx) (hm : zarr M1 386 9 = some vm) (h1 : ZC X d 2049 (.ref 0 :: zopA [(1, false), (2, false), (3, false), (4, false), (5, false)] (zrow X q)) M (some (.int v), M1)) (h2 : ZC X d 2305 (.ref 386 :: zopA [(1, false), (2, false), (3, false), (4, false), (5, false)] (zrow X q)) M1 (some (.int v), M2)) (n : zLX X d (1312, zml q, [], M2) r) : zLX X d (200, zml q, [], M) r := by
  refine ZX.lo dl_200 rfl rfl rfl rfl ?_
  refine ZX.arg hX hq (k := 1) (by omega) rfl dl_201 dl_202 dl_203 dl_204 dl_205 ?_
  refine ZX.arg hX hq (k := 2) (by omega) rfl dl_206 dl_207 dl_208 dl_209 dl_210 ?_
  refine ZX.arg hX hq (k := 3) (by omega) rfl dl_211 dl_212 dl_213 dl_214 dl_215 ?_
  refine ZX.arg hX hq (k := 4) (by omega) rfl dl_216 dl_217 dl_218 dl_219 dl_220 ?_
  refine ZX.arg hX hq (k := 5) (by omega) rfl dl_221 dl_222 dl_223 dl_224 dl_225 ?_
  refine ZX.iv (As := zopA [(1, false), (2, false), (3, false), (4, false), (5, false)] (zrow X q)) dl_226 rfl rfl rfl rfl hx (by decide) h1 ?_
  refine ZX.lo dl_229 rfl rfl rfl rfl ?_
  refine ZX.arg hX hq (k := 1) (by omega) rfl dl_230 dl_231 dl_232 dl_233 dl_234 ?_
  refine ZX.arg hX hq (k := 2) (by omega) rfl dl_235 dl_236 dl_237 dl_238 dl_239 ?_
  refine ZX.arg hX hq (k := 3) (by omega) rfl dl_240 dl_241 dl_242 dl_243 dl_244 ?_
  refine ZX.arg hX hq (k := 4) (by omega) rfl dl_245 dl_246 dl_247 dl_248 dl_249 ?_
  refine ZX.arg hX hq (k := 5) (by omega) rfl dl_250 dl_251 dl_252 dl_253 dl_254 ?_
  refine ZX.iv (As := zopA [(1, false), (2, false), (3, false), (4, false), (5, false)] (zrow X q)) dl_255 rfl rfl rfl rfl hm zcatI h2 ?_
  refine ZX.br (pc' := if v = v then 1312 else 261) (st' := []) dl_258 rfl rfl rfl ?_
  rw [if_pos rfl]
  exact n
theorem zcase_1 {v : Int32} {M1 M2 : zM} {vx vm : List Value} (hX : X.length ≤ 3072) (hq : 6 * q + 6 ≤ X.length) (hx : zarr M 0 8 = some vx) (hm : zarr M1 386 9 = some vm) (h1 : ZC X d 2052 (.ref 0 :: zopA [(1, false)] (zrow X q)) M (some (.int v), M1)) (h2 : ZC X d 2308 (.ref 386 :: zopA [(1, false)] (zrow X q)) M1 (some (.int v), M2)) (n : zLX X d (1312, zml q, [], M2) r) : zLX X d (263, zml q, [], M) r := by
  refine ZX.lo dl_263 rfl rfl rfl rfl ?_
  refine ZX.arg hX hq (k := 1) (by omega) rfl dl_264 dl_265 dl_266 dl_267 dl_268 ?_
  refine ZX.iv (As := zopA [(1, false)] (zrow X q)) dl_269 rfl rfl rfl rfl hx (by decide) h1 ?_
  refine ZX.lo dl_272 rfl rfl rfl rfl ?_
  refine ZX.arg hX hq (k := 1) (by omega) rfl dl_273 dl_274 dl_275 dl_276 dl_277 ?_
  refine ZX.iv (As := zopA [(1, false)] (zrow X q)) dl_278 rfl rfl rfl rfl hm zcatI h2 ?_
  refine ZX.br (pc' := if v = v then 1312 else 284) (st' := []) dl_281 rfl rfl rfl ?_
  rw [if_pos rfl]
  exact n
theorem zcase_2 {v : Int32} {M1 M2 : zM} {vx vm : List Value} (hX : X.length ≤ 3072) (hq : 6 * q + 6 ≤ X.length) (hx : zarr M 0 8 = some vx) (hm : zarr M1 386 9 = some vm) (h1 : ZC X d 2053 (.ref 0 :: zopA [] (zrow X q)) M (some (.int v), M1)) (h2 : ZC X d 2309 (.ref 386 :: zopA [] (zrow X q)) M1 (some (.int v), M2)) (n : zLX X d (1312, zml q, [], M2) r) : zLX X d (286, zml q, [], M) r := by
  refine ZX.lo dl_286 rfl rfl rfl rfl ?_
  refine ZX.iv (As := zopA [] (zrow X q)) dl_287 rfl rfl rfl rfl hx (by decide) h1 ?_
  refine ZX.lo dl_290 rfl rfl rfl rfl ?_
  refine ZX.iv (As := zopA [] (zrow X q)) dl_291 rfl rfl rfl rfl hm zcatI h2 ?_
  refine ZX.br (pc' := if v = v then 1312 else 297) (st' := []) dl_294 rfl rfl rfl ?_
  rw [if_pos rfl]
  exact n
theorem zcase_3 {v : Int32} {M1 M2 : zM} {vx vm : List Value} (hX : X.length ≤ 3072) (hq : 6 * q + 6 ≤ X.length) (hx : zarr M 0 8 = some vx) (hm : zarr M1 386 9 = some vm) (h1 : ZC X d 2054 (.ref 0 :: zopA [(1, false)] (zrow X q)) M (some (.int v), M1)) (h2 : ZC X d 2343 (.ref 386 :: zopA [(1, false)] (zrow X q)) M1 (some (.int v), M2)) (n : zLX X d (1312, zml q, [], M2) r) : zLX X d (299, zml q, [], M) r := by
  refine ZX.lo dl_299 rfl rfl rfl rfl ?_
  refine ZX.arg hX hq (k := 1) (by omega) rfl dl_300 dl_301 dl_302 dl_303 dl_304 ?_
  refine ZX.iv (As := zopA [(1, false)] (zrow X q)) dl_305 rfl rfl rfl rfl hx (by decide) h1 ?_
  refine ZX.lo dl_308 rfl rfl rfl rfl ?_
  refine ZX.arg hX hq (k := 1) (by omega) rfl dl_309 dl_310 dl_311 dl_312 dl_313 ?_
  refine ZX.iv (As := zopA [(1, false)] (zrow X q)) dl_314 rfl rfl rfl rfl hm zcatI h2 ?_
  refine ZX.br (pc' := if v = v then 1312 else 320) (st' := []) dl_317 rfl rfl rfl ?_
  rw [if_pos rfl]
  exact n
theorem zcase_4 {v : Int32} {M1 M2 : zM} {vx vm : List Value} (hX : X.length ≤ 3072) (hq : 6 * q + 6 ≤ X.length) (hx : zarr M 0 8 = some vx) (hm : zarr M1 386 9 = some vm) (h1 : ZC X d 2055 (.ref 0 :: zopA [(1, false)] (zrow X q)) M (some (.int v), M1)) (h2 : ZC X d 2348 (.ref 386 :: zopA [(1, false)] (zrow X q)) M1 (some (.int v), M2)) (n : zLX X d (1312, zml q, [], M2) r) : zLX X d (322, zml q, [], M) r := by
  refine ZX.lo dl_322 rfl rfl rfl rfl ?_
  refine ZX.arg hX hq (k := 1) (by omega) rfl dl_323 dl_324 dl_325 dl_326 dl_327 ?_
  refine ZX.iv (As := zopA [(1, false)] (zrow X q)) dl_328 rfl rfl rfl rfl hx (by decide) h1 ?_
  refine ZX.lo dl_331 rfl rfl rfl rfl ?_
  refine ZX.arg hX hq (k := 1) (by omega) rfl dl_332 dl_333 dl_334 dl_335 dl_336 ?_
  refine ZX.iv (As := zopA [(1, false)] (zrow X q)) dl_337 rfl rfl rfl rfl hm zcatI h2 ?_
  refine ZX.br (pc' := if v = v then 1312 else 343) (st' := []) dl_340 rfl rfl rfl ?_
  rw [if_pos rfl]
  exact n
theorem zcase_5 {v : Int32} {M1 M2 : zM} {vx vm : List Value} (hX : X.length ≤ 3072) (hq : 6 * q + 6 ≤ X.length) (hx : zarr M 0 8 = some vx) (hm : zarr M1 386 9 = some vm) (h1 : ZC X d 2059 (.ref 0 :: zopA [(1, false), (2, false), (3, false)] (zrow X q)) M (some (.int v), M1)) (h2 : ZC X d 2351 (.ref 386 :: zopA [(1, false), (2, false), (3, false)] (zrow X q)) M1 (some (.int v), M2)) (n : zLX X d (1312, zml q, [], M2) r) : zLX X d (345, zml q, [], M) r := by
  refine ZX.lo dl_345 rfl rfl rfl rfl ?_
  refine ZX.arg hX hq (k := 1) (by omega) rfl dl_346 dl_347 dl_348 dl_349 dl_350 ?_
  refine ZX.arg hX hq (k := 2) (by omega) rfl dl_351 dl_352 dl_353 dl_354 dl_355 ?_
  refine ZX.arg hX hq (k := 3) (by omega) rfl dl_356 dl_357 dl_358 dl_359 dl_360 ?_
  refine ZX.iv (As := zopA [(1, false), (2, false), (3, false)] (zrow X q)) dl_361 rfl rfl rfl rfl hx (by decide) h1 ?_
  refine ZX.lo dl_364 rfl rfl rfl rfl ?_
  refine ZX.arg hX hq (k := 1) (by omega) rfl dl_365 dl_366 dl_367 dl_368 dl_369 ?_
  refine ZX.arg hX hq (k := 2) (by omega) rfl dl_370 dl_371 dl_372 dl_373 dl_374 ?_
  refine ZX.arg hX hq (k := 3) (by omega) rfl dl_375 dl_376 dl_377 dl_378 dl_379 ?_
  refine ZX.iv (As := zopA [(1, false), (2, false), (3, false)] (zrow X q)) dl_380 rfl rfl rfl rfl hm zcatI h2 ?_
  refine ZX.br (pc' := if v = v then 1312 else 386) (st' := []) dl_383 rfl rfl rfl ?_
  rw [if_pos rfl]
  exact n
theorem zcase_6 {v : Int32} {M1 M2 : zM} {vx vm : List Value} (hX : X.length ≤ 3072) (hq : 6 * q + 6 ≤ X.length) (hx : zarr M 0 8 = some vx) (hm : zarr M1 386 9 = some vm) (h1 : ZC X d 2063 (.ref 0 :: zopA [(1, false), (2, false)] (zrow X q)) M (some (.int v), M1)) (h2 : ZC X d 2352 (.ref 386 :: zopA [(1, false), (2, false)] (zrow X q)) M1 (some (.int v), M2)) (n : zLX X d (1312, zml q, [], M2) r) : zLX X d (388, zml q, [], M) r := by
  refine ZX.lo dl_388 rfl rfl rfl rfl ?_
  refine ZX.arg hX hq (k := 1) (by omega) rfl dl_389 dl_390 dl_391 dl_392 dl_393 ?_
  refine ZX.arg hX hq (k := 2) (by omega) rfl dl_394 dl_395 dl_396 dl_397 dl_398 ?_
  refine ZX.iv (As := zopA [(1, false), (2, false)] (zrow X q)) dl_399 rfl rfl rfl rfl hx (by decide) h1 ?_
  refine ZX.lo dl_402 rfl rfl rfl rfl ?_
  refine ZX.arg hX hq (k := 1) (by omega) rfl dl_403 dl_404 dl_405 dl_406 dl_407 ?_
  refine ZX.arg hX hq (k := 2) (by omega) rfl dl_408 dl_409 dl_410 dl_411 dl_412 ?_
  refine ZX.iv (As := zopA [(1, false), (2, false)] (zrow X q)) dl_413 rfl rfl rfl rfl hm zcatI h2 ?_
  refine ZX.br (pc' := if v = v then 1312 else 419) (st' := []) dl_416 rfl rfl rfl ?_
  rw [if_pos rfl]
  exact n
theorem zcase_7 {v : Int32} {M1 M2 : zM} {vx vm : List Value} (hX : X.length ≤ 3072) (hq : 6 * q + 6 ≤ X.length) (hx : zarr M 0 8 = some vx) (hm : zarr M1 386 9 = some vm) (h1 : ZC X d 2064 (.ref 0 :: zopA [(1, false)] (zrow X q)) M (some (.int v), M1)) (h2 : ZC X d 2355 (.ref 386 :: zopA [(1, false)] (zrow X q)) M1 (some (.int v), M2)) (n : zLX X d (1312, zml q, [], M2) r) : zLX X d (421, zml q, [], M) r := by
  refine ZX.lo dl_421 rfl rfl rfl rfl ?_
  refine ZX.arg hX hq (k := 1) (by omega) rfl dl_422 dl_423 dl_424 dl_425 dl_426 ?_
  refine ZX.iv (As := zopA [(1, false)] (zrow X q)) dl_427 rfl rfl rfl rfl hx (by decide) h1 ?_
  refine ZX.lo dl_430 rfl rfl rfl rfl ?_
  refine ZX.arg hX hq (k := 1) (by omega) rfl dl_431 dl_432 dl_433 dl_434 dl_435 ?_
  refine ZX.iv (As := zopA [(1, false)] (zrow X q)) dl_436 rfl rfl rfl rfl hm zcatI h2 ?_
  refine ZX.br (pc' := if v = v then 1312 else 442) (st' := []) dl_439 rfl rfl rfl ?_
  rw [if_pos rfl]
  exact n
theorem zcase_8 {v : Int32} {M1 M2 : zM} {vx vm : List Value} (hX : X.length ≤ 3072) (hq : 6 * q + 6 ≤ X.length) (hx : zarr M 0 8 = some vx) (hm : zarr M1 386 9 = some vm) (h1 : ZC X d 2066 (.ref 0 :: zopA [(1, false), (2, false)] (zrow X q)) M (some (.int v), M1)) (h2 : ZC X d 2356 (.ref 386 :: zopA [(1, false), (2, false)] (zrow X q)) M1 (some (.int v), M2)) (n : zLX X d (1312, zml q, [], M2) r) : zLX X d (444, zml q, [], M) r := by
  refine ZX.lo dl_444 rfl rfl rfl rfl ?_
  refine ZX.arg hX hq (k := 1) (by omega) rfl dl_445 dl_446 dl_447 dl_448 dl_449 ?_
  refine ZX.arg hX hq (k := 2) (by omega) rfl dl_450 dl_451 dl_452 dl_453 dl_454 ?_
  refine ZX.iv (As := zopA [(1, false), (2, false)] (zrow X q)) dl_455 rfl rfl rfl rfl hx (by decide) h1 ?_
  refine ZX.lo dl_458 rfl rfl rfl rfl ?_
  refine ZX.arg hX hq (k := 1) (by omega) rfl dl_459 dl_460 dl_461 dl_462 dl_463 ?_
  refine ZX.arg hX hq (k := 2) (by omega) rfl dl_464 dl_465 dl_466 dl_467 dl_468 ?_
  refine ZX.iv (As := zopA [(1, false), (2, false)] (zrow X q)) dl_469 rfl rfl rfl rfl hm zcatI h2 ?_
  refine ZX.br (pc' := if v = v then 1312 else 475) (st' := []) dl_472 rfl rfl rfl ?_
  rw [if_pos rfl]
  exact n
theorem zcase_9 {v : Int32} {M1 M2 : zM} {vx vm : List Value} (hX : X.length ≤ 3072) (hq : 6 * q + 6 ≤ X.length) (hx : zarr M 0 8 = some vx) (hm : zarr M1 386 9 = some vm) (h1 : ZC X d 2069 (.ref 0 :: zopA [(1, false), (2, false)] (zrow X q)) M (some (.int v), M1)) (h2 : ZC X d 2359 (.ref 386 :: zopA [(1, false), (2, false)] (zrow X q)) M1 (some (.int v), M2)) (n : zLX X d (1312, zml q, [], M2) r) : zLX X d (477, zml q, [], M) r := by
  refine ZX.lo dl_477 rfl rfl rfl rfl ?_
  refine ZX.arg hX hq (k := 1) (by omega) rfl dl_478 dl_479 dl_480 dl_481 dl_482 ?_
  refine ZX.arg hX hq (k := 2) (by omega) rfl dl_483 dl_484 dl_485 dl_486 dl_487 ?_
  refine ZX.iv (As := zopA [(1, false), (2, false)] (zrow X q)) dl_488 rfl rfl rfl rfl hx (by decide) h1 ?_
  refine ZX.lo dl_491 rfl rfl rfl rfl ?_
  refine ZX.arg hX hq (k := 1) (by omega) rfl dl_492 dl_493 dl_494 dl_495 dl_496 ?_
  refine ZX.arg hX hq (k := 2) (by omega) rfl dl_497 dl_498 dl_499 dl_500 dl_501 ?_
  refine ZX.iv (As := zopA [(1, false), (2, false)] (zrow X q)) dl_502 rfl rfl rfl rfl hm zcatI h2 ?_
  refine ZX.br (pc' := if v = v then 1312 else 508) (st' := []) dl_505 rfl rfl rfl ?_
  rw [if_pos rfl]
  exact n
theorem zcase_10 {v : Int32} {M1 M2 : zM} {vx vm : List Value} (hX : X.length ≤ 3072) (hq : 6 * q + 6 ≤ X.length) (hx : zarr M 0 8 = some vx) (hm : zarr M1 386 9 = some vm) (h1 : ZC X d 2070 (.ref 0 :: zopA [(1, false), (2, false)] (zrow X q)) M (some (.int v), M1)) (h2 : ZC X d 2361 (.ref 386 :: zopA [(1, false), (2, false)] (zrow X q)) M1 (some (.int v), M2)) (n : zLX X d (1312, zml q, [], M2) r) : zLX X d (510, zml q, [], M) r := by
  refine ZX.lo dl_510 rfl rfl rfl rfl ?_
  refine ZX.arg hX hq (k := 1) (by omega) rfl dl_511 dl_512 dl_513 dl_514 dl_515 ?_
  refine ZX.arg hX hq (k := 2) (by omega) rfl dl_516 dl_517 dl_518 dl_519 dl_520 ?_
  refine ZX.iv (As := zopA [(1, false), (2, false)] (zrow X q)) dl_521 rfl rfl rfl rfl hx (by decide) h1 ?_
  refine ZX.lo dl_524 rfl rfl rfl rfl ?_
  refine ZX.arg hX hq (k := 1) (by omega) rfl dl_525 dl_526 dl_527 dl_528 dl_529 ?_
  refine ZX.arg hX hq (k := 2) (by omega) rfl dl_530 dl_531 dl_532 dl_533 dl_534 ?_
  refine ZX.iv (As := zopA [(1, false), (2, false)] (zrow X q)) dl_535 rfl rfl rfl rfl hm zcatI h2 ?_
  refine ZX.br (pc' := if v = v then 1312 else 541) (st' := []) dl_538 rfl rfl rfl ?_
  rw [if_pos rfl]
  exact n
theorem zcase_11 {v : Int32} {M1 M2 : zM} {vx vm : List Value} (hX : X.length ≤ 3072) (hq : 6 * q + 6 ≤ X.length) (hx : zarr M 0 8 = some vx) (hm : zarr M1 386 9 = some vm) (h1 : ZC X d 2071 (.ref 0 :: zopA [(1, false), (2, false), (3, true)] (zrow X q)) M (some (.int v), M1)) (h2 : ZC X d 2362 (.ref 386 :: zopA [(1, false), (2, false), (3, true)] (zrow X q)) M1 (some (.int v), M2)) (n : zLX X d (1312, zml q, [], M2) r) : zLX X d (543, zml q, [], M) r := by
  refine ZX.lo dl_543 rfl rfl rfl rfl ?_
  refine ZX.arg hX hq (k := 1) (by omega) rfl dl_544 dl_545 dl_546 dl_547 dl_548 ?_
  refine ZX.arg hX hq (k := 2) (by omega) rfl dl_549 dl_550 dl_551 dl_552 dl_553 ?_
  refine ZX.argb hX hq (k := 3) (by omega) rfl dl_554 dl_555 dl_556 dl_557 dl_558 dl_559 dl_562 dl_563 dl_566 rfl rfl ?_
  refine ZX.iv (As := zopA [(1, false), (2, false), (3, true)] (zrow X q)) dl_567 rfl rfl rfl rfl hx (by decide) h1 ?_
  refine ZX.lo dl_570 rfl rfl rfl rfl ?_
  refine ZX.arg hX hq (k := 1) (by omega) rfl dl_571 dl_572 dl_573 dl_574 dl_575 ?_
  refine ZX.arg hX hq (k := 2) (by omega) rfl dl_576 dl_577 dl_578 dl_579 dl_580 ?_
  refine ZX.argb hX hq (k := 3) (by omega) rfl dl_581 dl_582 dl_583 dl_584 dl_585 dl_586 dl_589 dl_590 dl_593 rfl rfl ?_
  refine ZX.iv (As := zopA [(1, false), (2, false), (3, true)] (zrow X q)) dl_594 rfl rfl rfl rfl hm zcatI h2 ?_
  refine ZX.br (pc' := if v = v then 1312 else 600) (st' := []) dl_597 rfl rfl rfl ?_
  rw [if_pos rfl]
  exact n
theorem zcase_12 {v : Int32} {M1 M2 : zM} {vx vm : List Value} (hX : X.length ≤ 3072) (hq : 6 * q + 6 ≤ X.length) (hx : zarr M 0 8 = some vx) (hm : zarr M1 386 9 = some vm) (h1 : ZC X d 2073 (.ref 0 :: zopA [(1, false)] (zrow X q)) M (some (.int v), M1)) (h2 : ZC X d 2376 (.ref 386 :: zopA [(1, false)] (zrow X q)) M1 (some (.int v), M2)) (n : zLX X d (1312, zml q, [], M2) r) : zLX X d (602, zml q, [], M) r := by
  refine ZX.lo dl_602 rfl rfl rfl rfl ?_
  refine ZX.arg hX hq (k := 1) (by omega) rfl dl_603 dl_604 dl_605 dl_606 dl_607 ?_
  refine ZX.iv (As := zopA [(1, false)] (zrow X q)) dl_608 rfl rfl rfl rfl hx (by decide) h1 ?_
  refine ZX.lo dl_611 rfl rfl rfl rfl ?_
  refine ZX.arg hX hq (k := 1) (by omega) rfl dl_612 dl_613 dl_614 dl_615 dl_616 ?_
  refine ZX.iv (As := zopA [(1, false)] (zrow X q)) dl_617 rfl rfl rfl rfl hm zcatI h2 ?_
  refine ZX.br (pc' := if v = v then 1312 else 623) (st' := []) dl_620 rfl rfl rfl ?_
  rw [if_pos rfl]
  exact n
theorem zcase_13 {v : Int32} {M1 M2 : zM} {vx vm : List Value} (hX : X.length ≤ 3072) (hq : 6 * q + 6 ≤ X.length) (hx : zarr M 0 8 = some vx) (hm : zarr M1 386 9 = some vm) (h1 : ZC X d 2075 (.ref 0 :: zopA [(1, false), (2, false)] (zrow X q)) M (some (.int v), M1)) (h2 : ZC X d 2391 (.ref 386 :: zopA [(1, false), (2, false)] (zrow X q)) M1 (some (.int v), M2)) (n : zLX X d (1312, zml q, [], M2) r) : zLX X d (625, zml q, [], M) r := by
  refine ZX.lo dl_625 rfl rfl rfl rfl ?_
  refine ZX.arg hX hq (k := 1) (by omega) rfl dl_626 dl_627 dl_628 dl_629 dl_630 ?_
  refine ZX.arg hX hq (k := 2) (by omega) rfl dl_631 dl_632 dl_633 dl_634 dl_635 ?_
  refine ZX.iv (As := zopA [(1, false), (2, false)] (zrow X q)) dl_636 rfl rfl rfl rfl hx (by decide) h1 ?_
  refine ZX.lo dl_639 rfl rfl rfl rfl ?_
  refine ZX.arg hX hq (k := 1) (by omega) rfl dl_640 dl_641 dl_642 dl_643 dl_644 ?_
  refine ZX.arg hX hq (k := 2) (by omega) rfl dl_645 dl_646 dl_647 dl_648 dl_649 ?_
  refine ZX.iv (As := zopA [(1, false), (2, false)] (zrow X q)) dl_650 rfl rfl rfl rfl hm zcatI h2 ?_
  refine ZX.br (pc' := if v = v then 1312 else 656) (st' := []) dl_653 rfl rfl rfl ?_
  rw [if_pos rfl]
  exact n
theorem zcase_14 {v : Int32} {M1 M2 : zM} {vx vm : List Value} (hX : X.length ≤ 3072) (hq : 6 * q + 6 ≤ X.length) (hx : zarr M 0 8 = some vx) (hm : zarr M1 386 9 = some vm) (h1 : ZC X d 2076 (.ref 0 :: zopA [(1, false), (2, true)] (zrow X q)) M (some (.int v), M1)) (h2 : ZC X d 2392 (.ref 386 :: zopA [(1, false), (2, true)] (zrow X q)) M1 (some (.int v), M2)) (n : zLX X d (1312, zml q, [], M2) r) : zLX X d (658, zml q, [], M) r := by
  refine ZX.lo dl_658 rfl rfl rfl rfl ?_
  refine ZX.arg hX hq (k := 1) (by omega) rfl dl_659 dl_660 dl_661 dl_662 dl_663 ?_
  refine ZX.argb hX hq (k := 2) (by omega) rfl dl_664 dl_665 dl_666 dl_667 dl_668 dl_669 dl_672 dl_673 dl_676 rfl rfl ?_
  refine ZX.iv (As := zopA [(1, false), (2, true)] (zrow X q)) dl_677 rfl rfl rfl rfl hx (by decide) h1 ?_
  refine ZX.lo dl_680 rfl rfl rfl rfl ?_
  refine ZX.arg hX hq (k := 1) (by omega) rfl dl_681 dl_682 dl_683 dl_684 dl_685 ?_
  refine ZX.argb hX hq (k := 2) (by omega) rfl dl_686 dl_687 dl_688 dl_689 dl_690 dl_691 dl_694 dl_695 dl_698 rfl rfl ?_
  refine ZX.iv (As := zopA [(1, false), (2, true)] (zrow X q)) dl_699 rfl rfl rfl rfl hm zcatI h2 ?_
  refine ZX.br (pc' := if v = v then 1312 else 705) (st' := []) dl_702 rfl rfl rfl ?_
  rw [if_pos rfl]
  exact n
theorem zcase_15 {v : Int32} {M1 M2 : zM} {vx vm : List Value} (hX : X.length ≤ 3072) (hq : 6 * q + 6 ≤ X.length) (hx : zarr M 0 8 = some vx) (hm : zarr M1 386 9 = some vm) (h1 : ZC X d 2077 (.ref 0 :: zopA [(1, false), (2, true)] (zrow X q)) M (some (.int v), M1)) (h2 : ZC X d 2393 (.ref 386 :: zopA [(1, false), (2, true)] (zrow X q)) M1 (some (.int v), M2)) (n : zLX X d (1312, zml q, [], M2) r) : zLX X d (707, zml q, [], M) r := by
  refine ZX.lo dl_707 rfl rfl rfl rfl ?_
  refine ZX.arg hX hq (k := 1) (by omega) rfl dl_708 dl_709 dl_710 dl_711 dl_712 ?_
  refine ZX.argb hX hq (k := 2) (by omega) rfl dl_713 dl_714 dl_715 dl_716 dl_717 dl_718 dl_721 dl_722 dl_725 rfl rfl ?_
  refine ZX.iv (As := zopA [(1, false), (2, true)] (zrow X q)) dl_726 rfl rfl rfl rfl hx (by decide) h1 ?_
  refine ZX.lo dl_729 rfl rfl rfl rfl ?_
  refine ZX.arg hX hq (k := 1) (by omega) rfl dl_730 dl_731 dl_732 dl_733 dl_734 ?_
  refine ZX.argb hX hq (k := 2) (by omega) rfl dl_735 dl_736 dl_737 dl_738 dl_739 dl_740 dl_743 dl_744 dl_747 rfl rfl ?_
  refine ZX.iv (As := zopA [(1, false), (2, true)] (zrow X q)) dl_748 rfl rfl rfl rfl hm zcatI h2 ?_
  refine ZX.br (pc' := if v = v then 1312 else 754) (st' := []) dl_751 rfl rfl rfl ?_
  rw [if_pos rfl]
  exact n
theorem zcase_16 {v : Int32} {M1 M2 : zM} {vx vm : List Value} (hX : X.length ≤ 3072) (hq : 6 * q + 6 ≤ X.length) (hx : zarr M 0 8 = some vx) (hm : zarr M1 386 9 = some vm) (h1 : ZC X d 2078 (.ref 0 :: zopA [(1, false), (2, false)] (zrow X q)) M (some (.int v), M1)) (h2 : ZC X d 2394 (.ref 386 :: zopA [(1, false), (2, false)] (zrow X q)) M1 (some (.int v), M2)) (n : zLX X d (1312, zml q, [], M2) r) : zLX X d (756, zml q, [], M) r := by
  refine ZX.lo dl_756 rfl rfl rfl rfl ?_
  refine ZX.arg hX hq (k := 1) (by omega) rfl dl_757 dl_758 dl_759 dl_760 dl_761 ?_
  refine ZX.arg hX hq (k := 2) (by omega) rfl dl_762 dl_763 dl_764 dl_765 dl_766 ?_
  refine ZX.iv (As := zopA [(1, false), (2, false)] (zrow X q)) dl_767 rfl rfl rfl rfl hx (by decide) h1 ?_
  refine ZX.lo dl_770 rfl rfl rfl rfl ?_
  refine ZX.arg hX hq (k := 1) (by omega) rfl dl_771 dl_772 dl_773 dl_774 dl_775 ?_
  refine ZX.arg hX hq (k := 2) (by omega) rfl dl_776 dl_777 dl_778 dl_779 dl_780 ?_
  refine ZX.iv (As := zopA [(1, false), (2, false)] (zrow X q)) dl_781 rfl rfl rfl rfl hm zcatI h2 ?_
  refine ZX.br (pc' := if v = v then 1312 else 787) (st' := []) dl_784 rfl rfl rfl ?_
  rw [if_pos rfl]
  exact n
theorem zcase_17 {v : Int32} {M1 M2 : zM} {vx vm : List Value} (hX : X.length ≤ 3072) (hq : 6 * q + 6 ≤ X.length) (hx : zarr M 0 8 = some vx) (hm : zarr M1 386 9 = some vm) (h1 : ZC X d 2079 (.ref 0 :: zopA [(1, false), (2, false)] (zrow X q)) M (some (.int v), M1)) (h2 : ZC X d 2395 (.ref 386 :: zopA [(1, false), (2, false)] (zrow X q)) M1 (some (.int v), M2)) (n : zLX X d (1312, zml q, [], M2) r) : zLX X d (789, zml q, [], M) r := by
  refine ZX.lo dl_789 rfl rfl rfl rfl ?_
  refine ZX.arg hX hq (k := 1) (by omega) rfl dl_790 dl_791 dl_792 dl_793 dl_794 ?_
  refine ZX.arg hX hq (k := 2) (by omega) rfl dl_795 dl_796 dl_797 dl_798 dl_799 ?_
  refine ZX.iv (As := zopA [(1, false), (2, false)] (zrow X q)) dl_800 rfl rfl rfl rfl hx (by decide) h1 ?_
  refine ZX.lo dl_803 rfl rfl rfl rfl ?_
  refine ZX.arg hX hq (k := 1) (by omega) rfl dl_804 dl_805 dl_806 dl_807 dl_808 ?_
  refine ZX.arg hX hq (k := 2) (by omega) rfl dl_809 dl_810 dl_811 dl_812 dl_813 ?_
  refine ZX.iv (As := zopA [(1, false), (2, false)] (zrow X q)) dl_814 rfl rfl rfl rfl hm zcatI h2 ?_
  refine ZX.br (pc' := if v = v then 1312 else 820) (st' := []) dl_817 rfl rfl rfl ?_
  rw [if_pos rfl]
  exact n
theorem zcase_18 {v : Int32} {M1 M2 : zM} {vx vm : List Value} (hX : X.length ≤ 3072) (hq : 6 * q + 6 ≤ X.length) (hx : zarr M 0 8 = some vx) (hm : zarr M1 386 9 = some vm) (h1 : ZC X d 2080 (.ref 0 :: zopA [] (zrow X q)) M (some (.int v), M1)) (h2 : ZC X d 2345 (.ref 386 :: zopA [] (zrow X q)) M1 (some (.int v), M2)) (n : zLX X d (1312, zml q, [], M2) r) : zLX X d (822, zml q, [], M) r := by
  refine ZX.lo dl_822 rfl rfl rfl rfl ?_
  refine ZX.iv (As := zopA [] (zrow X q)) dl_823 rfl rfl rfl rfl hx (by decide) h1 ?_
  refine ZX.lo dl_826 rfl rfl rfl rfl ?_
  refine ZX.iv (As := zopA [] (zrow X q)) dl_827 rfl rfl rfl rfl hm zcatI h2 ?_
  refine ZX.br (pc' := if v = v then 1312 else 833) (st' := []) dl_830 rfl rfl rfl ?_
  rw [if_pos rfl]
  exact n
theorem zcase_19 {v : Int32} {M1 M2 : zM} {vx vm : List Value} (hX : X.length ≤ 3072) (hq : 6 * q + 6 ≤ X.length) (hx : zarr M 0 8 = some vx) (hm : zarr M1 386 9 = some vm) (h1 : ZC X d 2081 (.ref 0 :: zopA [(1, false)] (zrow X q)) M (some (.int v), M1)) (h2 : ZC X d 2396 (.ref 386 :: zopA [(1, false)] (zrow X q)) M1 (some (.int v), M2)) (n : zLX X d (1312, zml q, [], M2) r) : zLX X d (835, zml q, [], M) r := by
  refine ZX.lo dl_835 rfl rfl rfl rfl ?_
  refine ZX.arg hX hq (k := 1) (by omega) rfl dl_836 dl_837 dl_838 dl_839 dl_840 ?_
  refine ZX.iv (As := zopA [(1, false)] (zrow X q)) dl_841 rfl rfl rfl rfl hx (by decide) h1 ?_
  refine ZX.lo dl_844 rfl rfl rfl rfl ?_
  refine ZX.arg hX hq (k := 1) (by omega) rfl dl_845 dl_846 dl_847 dl_848 dl_849 ?_
  refine ZX.iv (As := zopA [(1, false)] (zrow X q)) dl_850 rfl rfl rfl rfl hm zcatI h2 ?_
  refine ZX.br (pc' := if v = v then 1312 else 856) (st' := []) dl_853 rfl rfl rfl ?_
  rw [if_pos rfl]
  exact n
theorem zcase_20 {v : Int32} {M1 M2 : zM} {vx vm : List Value} (hX : X.length ≤ 3072) (hq : 6 * q + 6 ≤ X.length) (hx : zarr M 0 8 = some vx) (hm : zarr M1 386 9 = some vm) (h1 : ZC X d 2082 (.ref 0 :: zopA [(1, false), (2, false), (3, false)] (zrow X q)) M (some (.int v), M1)) (h2 : ZC X d 2397 (.ref 386 :: zopA [(1, false), (2, false), (3, false)] (zrow X q)) M1 (some (.int v), M2)) (n : zLX X d (1312, zml q, [], M2) r) : zLX X d (858, zml q, [], M) r := by
  refine ZX.lo dl_858 rfl rfl rfl rfl ?_
  refine ZX.arg hX hq (k := 1) (by omega) rfl dl_859 dl_860 dl_861 dl_862 dl_863 ?_
  refine ZX.arg hX hq (k := 2) (by omega) rfl dl_864 dl_865 dl_866 dl_867 dl_868 ?_
  refine ZX.arg hX hq (k := 3) (by omega) rfl dl_869 dl_870 dl_871 dl_872 dl_873 ?_
  refine ZX.iv (As := zopA [(1, false), (2, false), (3, false)] (zrow X q)) dl_874 rfl rfl rfl rfl hx (by decide) h1 ?_
  refine ZX.lo dl_877 rfl rfl rfl rfl ?_
  refine ZX.arg hX hq (k := 1) (by omega) rfl dl_878 dl_879 dl_880 dl_881 dl_882 ?_
  refine ZX.arg hX hq (k := 2) (by omega) rfl dl_883 dl_884 dl_885 dl_886 dl_887 ?_
  refine ZX.arg hX hq (k := 3) (by omega) rfl dl_888 dl_889 dl_890 dl_891 dl_892 ?_
  refine ZX.iv (As := zopA [(1, false), (2, false), (3, false)] (zrow X q)) dl_893 rfl rfl rfl rfl hm zcatI h2 ?_
  refine ZX.br (pc' := if v = v then 1312 else 899) (st' := []) dl_896 rfl rfl rfl ?_
  rw [if_pos rfl]
  exact n
theorem zcase_21 {v : Int32} {M1 M2 : zM} {vx vm : List Value} (hX : X.length ≤ 3072) (hq : 6 * q + 6 ≤ X.length) (hx : zarr M 0 8 = some vx) (hm : zarr M1 386 9 = some vm) (h1 : ZC X d 2083 (.ref 0 :: zopA [(1, false), (2, false)] (zrow X q)) M (some (.int v), M1)) (h2 : ZC X d 2398 (.ref 386 :: zopA [(1, false), (2, false)] (zrow X q)) M1 (some (.int v), M2)) (n : zLX X d (1312, zml q, [], M2) r) : zLX X d (901, zml q, [], M) r := by
  refine ZX.lo dl_901 rfl rfl rfl rfl ?_
  refine ZX.arg hX hq (k := 1) (by omega) rfl dl_902 dl_903 dl_904 dl_905 dl_906 ?_
  refine ZX.arg hX hq (k := 2) (by omega) rfl dl_907 dl_908 dl_909 dl_910 dl_911 ?_
  refine ZX.iv (As := zopA [(1, false), (2, false)] (zrow X q)) dl_912 rfl rfl rfl rfl hx (by decide) h1 ?_
  refine ZX.lo dl_915 rfl rfl rfl rfl ?_
  refine ZX.arg hX hq (k := 1) (by omega) rfl dl_916 dl_917 dl_918 dl_919 dl_920 ?_
  refine ZX.arg hX hq (k := 2) (by omega) rfl dl_921 dl_922 dl_923 dl_924 dl_925 ?_
  refine ZX.iv (As := zopA [(1, false), (2, false)] (zrow X q)) dl_926 rfl rfl rfl rfl hm zcatI h2 ?_
  refine ZX.br (pc' := if v = v then 1312 else 932) (st' := []) dl_929 rfl rfl rfl ?_
  rw [if_pos rfl]
  exact n
theorem zcase_22 {v : Int32} {M1 M2 : zM} {vx vm : List Value} (hX : X.length ≤ 3072) (hq : 6 * q + 6 ≤ X.length) (hx : zarr M 0 8 = some vx) (hm : zarr M1 386 9 = some vm) (h1 : ZC X d 2084 (.ref 0 :: zopA [(1, false), (2, false)] (zrow X q)) M (some (.int v), M1)) (h2 : ZC X d 2399 (.ref 386 :: zopA [(1, false), (2, false)] (zrow X q)) M1 (some (.int v), M2)) (n : zLX X d (1312, zml q, [], M2) r) : zLX X d (934, zml q, [], M) r := by
  refine ZX.lo dl_934 rfl rfl rfl rfl ?_
  refine ZX.arg hX hq (k := 1) (by omega) rfl dl_935 dl_936 dl_937 dl_938 dl_939 ?_
  refine ZX.arg hX hq (k := 2) (by omega) rfl dl_940 dl_941 dl_942 dl_943 dl_944 ?_
  refine ZX.iv (As := zopA [(1, false), (2, false)] (zrow X q)) dl_945 rfl rfl rfl rfl hx (by decide) h1 ?_
  refine ZX.lo dl_948 rfl rfl rfl rfl ?_
  refine ZX.arg hX hq (k := 1) (by omega) rfl dl_949 dl_950 dl_951 dl_952 dl_953 ?_
  refine ZX.arg hX hq (k := 2) (by omega) rfl dl_954 dl_955 dl_956 dl_957 dl_958 ?_
  refine ZX.iv (As := zopA [(1, false), (2, false)] (zrow X q)) dl_959 rfl rfl rfl rfl hm zcatI h2 ?_
  refine ZX.br (pc' := if v = v then 1312 else 965) (st' := []) dl_962 rfl rfl rfl ?_
  rw [if_pos rfl]
  exact n
theorem zcase_23 {v : Int32} {M1 M2 : zM} {vx vm : List Value} (hX : X.length ≤ 3072) (hq : 6 * q + 6 ≤ X.length) (hx : zarr M 0 8 = some vx) (hm : zarr M1 386 9 = some vm) (h1 : ZC X d 2085 (.ref 0 :: zopA [] (zrow X q)) M (some (.int v), M1)) (h2 : ZC X d 2400 (.ref 386 :: zopA [] (zrow X q)) M1 (some (.int v), M2)) (n : zLX X d (1312, zml q, [], M2) r) : zLX X d (967, zml q, [], M) r := by
  refine ZX.lo dl_967 rfl rfl rfl rfl ?_
  refine ZX.iv (As := zopA [] (zrow X q)) dl_968 rfl rfl rfl rfl hx (by decide) h1 ?_
  refine ZX.lo dl_971 rfl rfl rfl rfl ?_
  refine ZX.iv (As := zopA [] (zrow X q)) dl_972 rfl rfl rfl rfl hm zcatI h2 ?_
  refine ZX.br (pc' := if v = v then 1312 else 978) (st' := []) dl_975 rfl rfl rfl ?_
  rw [if_pos rfl]
  exact n
theorem zcase_24 {v : Int32} {M1 M2 : zM} {vx vm : List Value} (hX : X.length ≤ 3072) (hq : 6 * q + 6 ≤ X.length) (hx : zarr M 0 8 = some vx) (hm : zarr M1 386 9 = some vm) (h1 : ZC X d 2086 (.ref 0 :: zopA [(1, false)] (zrow X q)) M (some (.int v), M1)) (h2 : ZC X d 2402 (.ref 386 :: zopA [(1, false)] (zrow X q)) M1 (some (.int v), M2)) (n : zLX X d (1312, zml q, [], M2) r) : zLX X d (980, zml q, [], M) r := by
  refine ZX.lo dl_980 rfl rfl rfl rfl ?_
  refine ZX.arg hX hq (k := 1) (by omega) rfl dl_981 dl_982 dl_983 dl_984 dl_985 ?_
  refine ZX.iv (As := zopA [(1, false)] (zrow X q)) dl_986 rfl rfl rfl rfl hx (by decide) h1 ?_
  refine ZX.lo dl_989 rfl rfl rfl rfl ?_
  refine ZX.arg hX hq (k := 1) (by omega) rfl dl_990 dl_991 dl_992 dl_993 dl_994 ?_
  refine ZX.iv (As := zopA [(1, false)] (zrow X q)) dl_995 rfl rfl rfl rfl hm zcatI h2 ?_
  refine ZX.br (pc' := if v = v then 1312 else 1001) (st' := []) dl_998 rfl rfl rfl ?_
  rw [if_pos rfl]
  exact n
theorem zcase_25 {v : Int32} {M1 M2 : zM} {vx vm : List Value} (hX : X.length ≤ 3072) (hq : 6 * q + 6 ≤ X.length) (hx : zarr M 0 8 = some vx) (hm : zarr M1 386 9 = some vm) (h1 : ZC X d 2087 (.ref 0 :: zopA [(1, false)] (zrow X q)) M (some (.int v), M1)) (h2 : ZC X d 2405 (.ref 386 :: zopA [(1, false)] (zrow X q)) M1 (some (.int v), M2)) (n : zLX X d (1312, zml q, [], M2) r) : zLX X d (1003, zml q, [], M) r := by
  refine ZX.lo dl_1003 rfl rfl rfl rfl ?_
  refine ZX.arg hX hq (k := 1) (by omega) rfl dl_1004 dl_1005 dl_1006 dl_1007 dl_1008 ?_
  refine ZX.iv (As := zopA [(1, false)] (zrow X q)) dl_1009 rfl rfl rfl rfl hx (by decide) h1 ?_
  refine ZX.lo dl_1012 rfl rfl rfl rfl ?_
  refine ZX.arg hX hq (k := 1) (by omega) rfl dl_1013 dl_1014 dl_1015 dl_1016 dl_1017 ?_
  refine ZX.iv (As := zopA [(1, false)] (zrow X q)) dl_1018 rfl rfl rfl rfl hm zcatI h2 ?_
  refine ZX.br (pc' := if v = v then 1312 else 1024) (st' := []) dl_1021 rfl rfl rfl ?_
  rw [if_pos rfl]
  exact n
theorem zcase_26 {v : Int32} {M1 M2 : zM} {vx vm : List Value} (hX : X.length ≤ 3072) (hq : 6 * q + 6 ≤ X.length) (hx : zarr M 0 8 = some vx) (hm : zarr M1 386 9 = some vm) (h1 : ZC X d 2088 (.ref 0 :: zopA [] (zrow X q)) M (some (.int v), M1)) (h2 : ZC X d 2407 (.ref 386 :: zopA [] (zrow X q)) M1 (some (.int v), M2)) (n : zLX X d (1312, zml q, [], M2) r) : zLX X d (1026, zml q, [], M) r := by
  refine ZX.lo dl_1026 rfl rfl rfl rfl ?_
  refine ZX.iv (As := zopA [] (zrow X q)) dl_1027 rfl rfl rfl rfl hx (by decide) h1 ?_
  refine ZX.lo dl_1030 rfl rfl rfl rfl ?_
  refine ZX.iv (As := zopA [] (zrow X q)) dl_1031 rfl rfl rfl rfl hm zcatI h2 ?_
  refine ZX.br (pc' := if v = v then 1312 else 1037) (st' := []) dl_1034 rfl rfl rfl ?_
  rw [if_pos rfl]
  exact n
theorem zcase_27 {v : Int32} {M1 M2 : zM} {vx vm : List Value} (hX : X.length ≤ 3072) (hq : 6 * q + 6 ≤ X.length) (hx : zarr M 0 8 = some vx) (hm : zarr M1 386 9 = some vm) (h1 : ZC X d 2089 (.ref 0 :: zopA [(1, false)] (zrow X q)) M (some (.int v), M1)) (h2 : ZC X d 2408 (.ref 386 :: zopA [(1, false)] (zrow X q)) M1 (some (.int v), M2)) (n : zLX X d (1312, zml q, [], M2) r) : zLX X d (1039, zml q, [], M) r := by
  refine ZX.lo dl_1039 rfl rfl rfl rfl ?_
  refine ZX.arg hX hq (k := 1) (by omega) rfl dl_1040 dl_1041 dl_1042 dl_1043 dl_1044 ?_
  refine ZX.iv (As := zopA [(1, false)] (zrow X q)) dl_1045 rfl rfl rfl rfl hx (by decide) h1 ?_
  refine ZX.lo dl_1048 rfl rfl rfl rfl ?_
  refine ZX.arg hX hq (k := 1) (by omega) rfl dl_1049 dl_1050 dl_1051 dl_1052 dl_1053 ?_
  refine ZX.iv (As := zopA [(1, false)] (zrow X q)) dl_1054 rfl rfl rfl rfl hm zcatI h2 ?_
  refine ZX.br (pc' := if v = v then 1312 else 1060) (st' := []) dl_1057 rfl rfl rfl ?_
  rw [if_pos rfl]
  exact n
theorem zcase_28 {v : Int32} {M1 M2 : zM} {vx vm : List Value} (hX : X.length ≤ 3072) (hq : 6 * q + 6 ≤ X.length) (hx : zarr M 0 8 = some vx) (hm : zarr M1 386 9 = some vm) (h1 : ZC X d 2090 (.ref 0 :: zopA [] (zrow X q)) M (some (.int v), M1)) (h2 : ZC X d 2410 (.ref 386 :: zopA [] (zrow X q)) M1 (some (.int v), M2)) (n : zLX X d (1312, zml q, [], M2) r) : zLX X d (1062, zml q, [], M) r := by
  refine ZX.lo dl_1062 rfl rfl rfl rfl ?_
  refine ZX.iv (As := zopA [] (zrow X q)) dl_1063 rfl rfl rfl rfl hx (by decide) h1 ?_
  refine ZX.lo dl_1066 rfl rfl rfl rfl ?_
  refine ZX.iv (As := zopA [] (zrow X q)) dl_1067 rfl rfl rfl rfl hm zcatI h2 ?_
  refine ZX.br (pc' := if v = v then 1312 else 1073) (st' := []) dl_1070 rfl rfl rfl ?_
  rw [if_pos rfl]
  exact n
theorem zcase_29 {v : Int32} {M1 M2 : zM} {vx vm : List Value} (hX : X.length ≤ 3072) (hq : 6 * q + 6 ≤ X.length) (hx : zarr M 0 8 = some vx) (hm : zarr M1 386 9 = some vm) (h1 : ZC X d 2093 (.ref 0 :: zopA [(1, false), (2, false)] (zrow X q)) M (some (.int v), M1)) (h2 : ZC X d 2411 (.ref 386 :: zopA [(1, false), (2, false)] (zrow X q)) M1 (some (.int v), M2)) (n : zLX X d (1312, zml q, [], M2) r) : zLX X d (1075, zml q, [], M) r := by
  refine ZX.lo dl_1075 rfl rfl rfl rfl ?_
  refine ZX.arg hX hq (k := 1) (by omega) rfl dl_1076 dl_1077 dl_1078 dl_1079 dl_1080 ?_
  refine ZX.arg hX hq (k := 2) (by omega) rfl dl_1081 dl_1082 dl_1083 dl_1084 dl_1085 ?_
  refine ZX.iv (As := zopA [(1, false), (2, false)] (zrow X q)) dl_1086 rfl rfl rfl rfl hx (by decide) h1 ?_
  refine ZX.lo dl_1089 rfl rfl rfl rfl ?_
  refine ZX.arg hX hq (k := 1) (by omega) rfl dl_1090 dl_1091 dl_1092 dl_1093 dl_1094 ?_
  refine ZX.arg hX hq (k := 2) (by omega) rfl dl_1095 dl_1096 dl_1097 dl_1098 dl_1099 ?_
  refine ZX.iv (As := zopA [(1, false), (2, false)] (zrow X q)) dl_1100 rfl rfl rfl rfl hm zcatI h2 ?_
  refine ZX.br (pc' := if v = v then 1312 else 1106) (st' := []) dl_1103 rfl rfl rfl ?_
  rw [if_pos rfl]
  exact n
theorem zcase_30 {v : Int32} {M1 M2 : zM} {vx vm : List Value} (hX : X.length ≤ 3072) (hq : 6 * q + 6 ≤ X.length) (hx : zarr M 0 8 = some vx) (hm : zarr M1 386 9 = some vm) (h1 : ZC X d 2095 (.ref 0 :: zopA [(1, false), (2, false)] (zrow X q)) M (some (.int v), M1)) (h2 : ZC X d 2414 (.ref 386 :: zopA [(1, false), (2, false)] (zrow X q)) M1 (some (.int v), M2)) (n : zLX X d (1312, zml q, [], M2) r) : zLX X d (1108, zml q, [], M) r := by
  refine ZX.lo dl_1108 rfl rfl rfl rfl ?_
  refine ZX.arg hX hq (k := 1) (by omega) rfl dl_1109 dl_1110 dl_1111 dl_1112 dl_1113 ?_
  refine ZX.arg hX hq (k := 2) (by omega) rfl dl_1114 dl_1115 dl_1116 dl_1117 dl_1118 ?_
  refine ZX.iv (As := zopA [(1, false), (2, false)] (zrow X q)) dl_1119 rfl rfl rfl rfl hx (by decide) h1 ?_
  refine ZX.lo dl_1122 rfl rfl rfl rfl ?_
  refine ZX.arg hX hq (k := 1) (by omega) rfl dl_1123 dl_1124 dl_1125 dl_1126 dl_1127 ?_
  refine ZX.arg hX hq (k := 2) (by omega) rfl dl_1128 dl_1129 dl_1130 dl_1131 dl_1132 ?_
  refine ZX.iv (As := zopA [(1, false), (2, false)] (zrow X q)) dl_1133 rfl rfl rfl rfl hm zcatI h2 ?_
  refine ZX.br (pc' := if v = v then 1312 else 1139) (st' := []) dl_1136 rfl rfl rfl ?_
  rw [if_pos rfl]
  exact n
theorem zcase_31 {v : Int32} {M1 M2 : zM} {vx vm : List Value} (hX : X.length ≤ 3072) (hq : 6 * q + 6 ≤ X.length) (hx : zarr M 0 8 = some vx) (hm : zarr M1 386 9 = some vm) (h1 : ZC X d 2100 (.ref 0 :: zopA [(1, false)] (zrow X q)) M (some (.int v), M1)) (h2 : ZC X d 2420 (.ref 386 :: zopA [(1, false)] (zrow X q)) M1 (some (.int v), M2)) (n : zLX X d (1312, zml q, [], M2) r) : zLX X d (1141, zml q, [], M) r := by
  refine ZX.lo dl_1141 rfl rfl rfl rfl ?_
  refine ZX.arg hX hq (k := 1) (by omega) rfl dl_1142 dl_1143 dl_1144 dl_1145 dl_1146 ?_
  refine ZX.iv (As := zopA [(1, false)] (zrow X q)) dl_1147 rfl rfl rfl rfl hx (by decide) h1 ?_
  refine ZX.lo dl_1150 rfl rfl rfl rfl ?_
  refine ZX.arg hX hq (k := 1) (by omega) rfl dl_1151 dl_1152 dl_1153 dl_1154 dl_1155 ?_
  refine ZX.iv (As := zopA [(1, false)] (zrow X q)) dl_1156 rfl rfl rfl rfl hm zcatI h2 ?_
  refine ZX.br (pc' := if v = v then 1312 else 1162) (st' := []) dl_1159 rfl rfl rfl ?_
  rw [if_pos rfl]
  exact n
theorem zcase_32 {v : Int32} {M1 M2 : zM} {vx vm : List Value} (hX : X.length ≤ 3072) (hq : 6 * q + 6 ≤ X.length) (hx : zarr M 0 8 = some vx) (hm : zarr M1 386 9 = some vm) (h1 : ZC X d 2102 (.ref 0 :: zopA [(1, false), (2, false)] (zrow X q)) M (some (.int v), M1)) (h2 : ZC X d 2421 (.ref 386 :: zopA [(1, false), (2, false)] (zrow X q)) M1 (some (.int v), M2)) (n : zLX X d (1312, zml q, [], M2) r) : zLX X d (1164, zml q, [], M) r := by
  refine ZX.lo dl_1164 rfl rfl rfl rfl ?_
  refine ZX.arg hX hq (k := 1) (by omega) rfl dl_1165 dl_1166 dl_1167 dl_1168 dl_1169 ?_
  refine ZX.arg hX hq (k := 2) (by omega) rfl dl_1170 dl_1171 dl_1172 dl_1173 dl_1174 ?_
  refine ZX.iv (As := zopA [(1, false), (2, false)] (zrow X q)) dl_1175 rfl rfl rfl rfl hx (by decide) h1 ?_
  refine ZX.lo dl_1178 rfl rfl rfl rfl ?_
  refine ZX.arg hX hq (k := 1) (by omega) rfl dl_1179 dl_1180 dl_1181 dl_1182 dl_1183 ?_
  refine ZX.arg hX hq (k := 2) (by omega) rfl dl_1184 dl_1185 dl_1186 dl_1187 dl_1188 ?_
  refine ZX.iv (As := zopA [(1, false), (2, false)] (zrow X q)) dl_1189 rfl rfl rfl rfl hm zcatI h2 ?_
  refine ZX.br (pc' := if v = v then 1312 else 1195) (st' := []) dl_1192 rfl rfl rfl ?_
  rw [if_pos rfl]
  exact n
theorem zcase_33 {v : Int32} {M1 M2 : zM} {vx vm : List Value} (hX : X.length ≤ 3072) (hq : 6 * q + 6 ≤ X.length) (hx : zarr M 0 8 = some vx) (hm : zarr M1 386 9 = some vm) (h1 : ZC X d 2103 (.ref 0 :: zopA [(1, false), (2, false), (3, false)] (zrow X q)) M (some (.int v), M1)) (h2 : ZC X d 2422 (.ref 386 :: zopA [(1, false), (2, false), (3, false)] (zrow X q)) M1 (some (.int v), M2)) (n : zLX X d (1312, zml q, [], M2) r) : zLX X d (1197, zml q, [], M) r := by
  refine ZX.lo dl_1197 rfl rfl rfl rfl ?_
  refine ZX.arg hX hq (k := 1) (by omega) rfl dl_1198 dl_1199 dl_1200 dl_1201 dl_1202 ?_
  refine ZX.arg hX hq (k := 2) (by omega) rfl dl_1203 dl_1204 dl_1205 dl_1206 dl_1207 ?_
  refine ZX.arg hX hq (k := 3) (by omega) rfl dl_1208 dl_1209 dl_1210 dl_1211 dl_1212 ?_
  refine ZX.iv (As := zopA [(1, false), (2, false), (3, false)] (zrow X q)) dl_1213 rfl rfl rfl rfl hx (by decide) h1 ?_
  refine ZX.lo dl_1216 rfl rfl rfl rfl ?_
  refine ZX.arg hX hq (k := 1) (by omega) rfl dl_1217 dl_1218 dl_1219 dl_1220 dl_1221 ?_
  refine ZX.arg hX hq (k := 2) (by omega) rfl dl_1222 dl_1223 dl_1224 dl_1225 dl_1226 ?_
  refine ZX.arg hX hq (k := 3) (by omega) rfl dl_1227 dl_1228 dl_1229 dl_1230 dl_1231 ?_
  refine ZX.iv (As := zopA [(1, false), (2, false), (3, false)] (zrow X q)) dl_1232 rfl rfl rfl rfl hm zcatI h2 ?_
  refine ZX.br (pc' := if v = v then 1312 else 1238) (st' := []) dl_1235 rfl rfl rfl ?_
  rw [if_pos rfl]
  exact n
theorem zcase_34 {v : Int32} {M1 M2 : zM} {vx vm : List Value} (hX : X.length ≤ 3072) (hq : 6 * q + 6 ≤ X.length) (hx : zarr M 0 8 = some vx) (hm : zarr M1 386 9 = some vm) (h1 : ZC X d 2105 (.ref 0 :: zopA [] (zrow X q)) M (some (.int v), M1)) (h2 : ZC X d 2423 (.ref 386 :: zopA [] (zrow X q)) M1 (some (.int v), M2)) (n : zLX X d (1312, zml q, [], M2) r) : zLX X d (1240, zml q, [], M) r := by
  refine ZX.lo dl_1240 rfl rfl rfl rfl ?_
  refine ZX.iv (As := zopA [] (zrow X q)) dl_1241 rfl rfl rfl rfl hx (by decide) h1 ?_
  refine ZX.lo dl_1244 rfl rfl rfl rfl ?_
  refine ZX.iv (As := zopA [] (zrow X q)) dl_1245 rfl rfl rfl rfl hm zcatI h2 ?_
  refine ZX.br (pc' := if v = v then 1312 else 1251) (st' := []) dl_1248 rfl rfl rfl ?_
  rw [if_pos rfl]
  exact n
theorem zcase_35 {v : Int32} {M1 M2 : zM} {vx vm : List Value} (hX : X.length ≤ 3072) (hq : 6 * q + 6 ≤ X.length) (hx : zarr M 0 8 = some vx) (hm : zarr M1 386 9 = some vm) (h1 : ZC X d 2109 (.ref 0 :: zopA [(1, false)] (zrow X q)) M (some (.int v), M1)) (h2 : ZC X d 2425 (.ref 386 :: zopA [(1, false)] (zrow X q)) M1 (some (.int v), M2)) (n : zLX X d (1312, zml q, [], M2) r) : zLX X d (1253, zml q, [], M) r := by
  refine ZX.lo dl_1253 rfl rfl rfl rfl ?_
  refine ZX.arg hX hq (k := 1) (by omega) rfl dl_1254 dl_1255 dl_1256 dl_1257 dl_1258 ?_
  refine ZX.iv (As := zopA [(1, false)] (zrow X q)) dl_1259 rfl rfl rfl rfl hx (by decide) h1 ?_
  refine ZX.lo dl_1262 rfl rfl rfl rfl ?_
  refine ZX.arg hX hq (k := 1) (by omega) rfl dl_1263 dl_1264 dl_1265 dl_1266 dl_1267 ?_
  refine ZX.iv (As := zopA [(1, false)] (zrow X q)) dl_1268 rfl rfl rfl rfl hm zcatI h2 ?_
  refine ZX.br (pc' := if v = v then 1312 else 1274) (st' := []) dl_1271 rfl rfl rfl ?_
  rw [if_pos rfl]
  exact n
theorem zcase_36 {v : Int32} {M1 M2 : zM} {vx vm : List Value} (hX : X.length ≤ 3072) (hq : 6 * q + 6 ≤ X.length) (hx : zarr M 0 8 = some vx) (hm : zarr M1 386 9 = some vm) (h1 : ZC X d 2110 (.ref 0 :: zopA [] (zrow X q)) M (some (.int v), M1)) (h2 : ZC X d 2426 (.ref 386 :: zopA [] (zrow X q)) M1 (some (.int v), M2)) (n : zLX X d (1312, zml q, [], M2) r) : zLX X d (1276, zml q, [], M) r := by
  refine ZX.lo dl_1276 rfl rfl rfl rfl ?_
  refine ZX.iv (As := zopA [] (zrow X q)) dl_1277 rfl rfl rfl rfl hx (by decide) h1 ?_
  refine ZX.lo dl_1280 rfl rfl rfl rfl ?_
  refine ZX.iv (As := zopA [] (zrow X q)) dl_1281 rfl rfl rfl rfl hm zcatI h2 ?_
  refine ZX.br (pc' := if v = v then 1312 else 1287) (st' := []) dl_1284 rfl rfl rfl ?_
  rw [if_pos rfl]
  exact n
theorem zcase_37 {v : Int32} {M1 M2 : zM} {vx vm : List Value} (hX : X.length ≤ 3072) (hq : 6 * q + 6 ≤ X.length) (hx : zarr M 0 8 = some vx) (hm : zarr M1 386 9 = some vm) (h1 : ZC X d 2113 (.ref 0 :: zopA [(1, false)] (zrow X q)) M (some (.int v), M1)) (h2 : ZC X d 2344 (.ref 386 :: zopA [(1, false)] (zrow X q)) M1 (some (.int v), M2)) (n : zLX X d (1312, zml q, [], M2) r) : zLX X d (1289, zml q, [], M) r := by
  refine ZX.lo dl_1289 rfl rfl rfl rfl ?_
  refine ZX.arg hX hq (k := 1) (by omega) rfl dl_1290 dl_1291 dl_1292 dl_1293 dl_1294 ?_
  refine ZX.iv (As := zopA [(1, false)] (zrow X q)) dl_1295 rfl rfl rfl rfl hx (by decide) h1 ?_
  refine ZX.lo dl_1298 rfl rfl rfl rfl ?_
  refine ZX.arg hX hq (k := 1) (by omega) rfl dl_1299 dl_1300 dl_1301 dl_1302 dl_1303 ?_
  refine ZX.iv (As := zopA [(1, false)] (zrow X q)) dl_1304 rfl rfl rfl rfl hm zcatI h2 ?_
  refine ZX.br (pc' := if v = v then 1312 else 1310) (st' := []) dl_1307 rfl rfl rfl ?_
  rw [if_pos rfl]
  exact n
end ZLW
end
section
/-! the law's loop, its beginning, its end -/
def zEnd (X : List Int32) (d q : Nat) (M : zM) : Prop := ∃ M', zLX X d (18, zml q, [], M) (some (.int 1), M') ∧ M'.length ≤ 600000 ∧ zsl M' ≤ 7302250
def zcpc (j : Nat) : Nat := if j < 38 then [200, 263, 286, 299, 322, 345, 388, 421, 444, 477, 510, 543, 602, 625, 658, 707, 756, 789, 822, 835, 858, 901, 934, 967, 980, 1003, 1026, 1039, 1062, 1075, 1108, 1141, 1164, 1197, 1240, 1253, 1276, 1289].getD j 0 else 1312
theorem zsw : ∀ j, j < 64 → zbr (.tableswitch 1279 0 37 #[167, 230, 253, 266, 289, 312, 355, 388, 411, 444, 477, 510, 569, 592, 625, 674, 723, 756, 789, 802, 825, 868, 901, 934, 947, 970, 993, 1006, 1029, 1042, 1075, 1108, 1131, 1164, 1207, 1220, 1243, 1256]) 33 167 [.int (nI j)] = some (zcpc j, []) := by decide +kernel
section ZLE
variable {X : List Int32} {d q : Nat} {r : zRes} {M : zM}
theorem zcmp (L a : Nat) (hL : L ≤ 3072) (ha : a ≤ 6144) : (nI L - (Int8.ofInt 6).toInt32 < nI a) ↔ L < a + 6 := by
  have e : (Int8.ofInt 6).toInt32 = nI 6 := by decide
  rw [e, Int32.lt_iff_toInt_lt, pk_sub_toInt (by omega) (by omega), nI_toInt (by omega)]
  omega
theorem zlaw_head {pc' : Nat} (hq : 6 * q ≤ 6144) (hX : X.length ≤ 3072) (hpc : pc' = if X.length < 6 * q + 6 then 1318 else 27) (n : zLX X d (pc', zml q, [], M) r) : zLX X d (18, zml q, [], M) r := by
  refine ZX.lo dl_18 rfl rfl rfl rfl ?_
  refine ZX.lo dl_19 rfl rfl rfl rfl ?_
  refine ZX.sl (x := 0) dl_20 rfl ?_
  refine ZX.pu dl_21 rfl rfl ?_
  refine ZX.pu dl_23 rfl rfl ?_
  refine ZX.br (pc' := if nI X.length - (Int8.ofInt 6).toInt32 < nI (6 * q) then 1318 else 27) (st' := []) dl_24 rfl rfl rfl ?_
  by_cases h : X.length < 6 * q + 6
  · rw [if_pos ((zcmp _ _ hX hq).mpr h)]
    rw [if_pos h] at hpc
    rw [← hpc]
    exact n
  · rw [if_neg (fun z => h ((zcmp _ _ hX hq).mp z))]
    rw [if_neg h] at hpc
    rw [← hpc]
    exact n
theorem zlaw_out (hq : 6 * q ≤ 6144) (hX : X.length ≤ 3072) (h : X.length < 6 * q + 6) (h1 : M.length ≤ 600000) (h2 : zsl M ≤ 7302250) : zEnd X d q M := by
  refine ⟨M, zlaw_head (pc' := 1318) hq hX (by rw [if_pos h]) ?_, h1, h2⟩
  refine ZX.pu dl_1318 rfl rfl ?_
  exact ZX.en dl_1319 rfl
theorem zlaw_back (n : zLX X d (18, zml (q + 1), [], M) r) : zLX X d (1312, zml q, [], M) r := by
  have e : nI (6 * q) + Int32.ofInt 6 = nI (6 * (q + 1)) := by
    rw [show Int32.ofInt 6 = nI 6 from rfl, nI_add]
    congr 1
  refine ZX.lo (ml' := zml (q + 1)) (st' := []) dl_1312 rfl rfl rfl ?_ ?_
  · show (zst (zml q) 3 (.int (nI (6 * q) + Int32.ofInt 6))).map (fun ml' => (3, ml', ([] : List Value))) = some (3, zml (q + 1), [])
    rw [e]
    rfl
  · exact ZX.br dl_1315 rfl rfl rfl n
theorem zsome {kind a : Nat} {M : zM} (h : (zarr M a kind).isSome = true) : ∃ vs, zarr M a kind = some vs := Option.isSome_iff_exists.mp h
/-- one row of the script -/
theorem zlaw_in (hX : X.length ≤ 3072) (hq : 6 * q + 6 ≤ X.length) (hx : (zarr M 0 8).isSome = true) (hdef : zEnd X d (q + 1) M) (hop : ∀ k, k < 38 → ∃ M2, zOpOK X d k (zrow X q) M M2 ∧ zEnd X d (q + 1) M2) : zEnd X d q M := by
  obtain ⟨vx, hx⟩ := zsome hx
  obtain ⟨j, hj, ej⟩ := pk_andE (zrow X q 0) (m := 63) 6 (by decide)
  have key : ∀ {M' : zM}, zLX X d (zcpc j, zml q, [], M) (some (.int 1), M') → zLX X d (18, zml q, [], M) (some (.int 1), M') := by
    intro M' n
    obtain ⟨e1, e2, e3⟩ := zidxA (k := 0) hX hq (by omega)
    refine zlaw_head (pc' := 27) (by omega) hX (by rw [if_neg (by omega)]) ?_
    refine ZX.lo dl_27 rfl rfl rfl rfl ?_
    refine ZX.lo dl_28 rfl rfl rfl rfl ?_
    refine ZX.sr dl_29 rfl (by rw [← Nat.add_zero (6 * q)]; exact e3) ?_
    rw [show (nI (6 * q)).toNatClampNeg = 6 * q + 0 from e2]
    refine ZX.pu dl_30 rfl rfl ?_
    refine ZX.pu dl_32 rfl rfl ?_
    rw [show X.getD (6 * q + 0) 0 &&& (Int8.ofInt 63).toInt32 = nI j from ej]
    exact ZX.br dl_33 rfl rfl (zsw j hj) n
  by_cases h38 : j < 38
  · obtain ⟨M2, ho, M', hn, b1, b2⟩ := hop j h38
    refine ⟨M', key ?_, b1, b2⟩
    have hb := zlaw_back hn
    match j, h38 with
    | 0, _ =>
      obtain ⟨v, M1, hs, h1, h2⟩ := ho _ _ _ rfl
      obtain ⟨vm, hm⟩ := zsome hs
      exact zcase_0 hX hq hx hm h1 h2 hb
    | 1, _ =>
      obtain ⟨v, M1, hs, h1, h2⟩ := ho _ _ _ rfl
      obtain ⟨vm, hm⟩ := zsome hs
      exact zcase_1 hX hq hx hm h1 h2 hb
    | 2, _ =>
      obtain ⟨v, M1, hs, h1, h2⟩ := ho _ _ _ rfl
      obtain ⟨vm, hm⟩ := zsome hs
      exact zcase_2 hX hq hx hm h1 h2 hb
    | 3, _ =>
      obtain ⟨v, M1, hs, h1, h2⟩ := ho _ _ _ rfl
      obtain ⟨vm, hm⟩ := zsome hs
      exact zcase_3 hX hq hx hm h1 h2 hb
    | 4, _ =>
      obtain ⟨v, M1, hs, h1, h2⟩ := ho _ _ _ rfl
      obtain ⟨vm, hm⟩ := zsome hs
      exact zcase_4 hX hq hx hm h1 h2 hb
    | 5, _ =>
      obtain ⟨v, M1, hs, h1, h2⟩ := ho _ _ _ rfl
      obtain ⟨vm, hm⟩ := zsome hs
      exact zcase_5 hX hq hx hm h1 h2 hb
    | 6, _ =>
      obtain ⟨v, M1, hs, h1, h2⟩ := ho _ _ _ rfl
      obtain ⟨vm, hm⟩ := zsome hs
      exact zcase_6 hX hq hx hm h1 h2 hb
    | 7, _ =>
      obtain ⟨v, M1, hs, h1, h2⟩ := ho _ _ _ rfl
      obtain ⟨vm, hm⟩ := zsome hs
      exact zcase_7 hX hq hx hm h1 h2 hb
    | 8, _ =>
      obtain ⟨v, M1, hs, h1, h2⟩ := ho _ _ _ rfl
      obtain ⟨vm, hm⟩ := zsome hs
      exact zcase_8 hX hq hx hm h1 h2 hb
    | 9, _ =>
      obtain ⟨v, M1, hs, h1, h2⟩ := ho _ _ _ rfl
      obtain ⟨vm, hm⟩ := zsome hs
      exact zcase_9 hX hq hx hm h1 h2 hb
    | 10, _ =>
      obtain ⟨v, M1, hs, h1, h2⟩ := ho _ _ _ rfl
      obtain ⟨vm, hm⟩ := zsome hs
      exact zcase_10 hX hq hx hm h1 h2 hb
    | 11, _ =>
      obtain ⟨v, M1, hs, h1, h2⟩ := ho _ _ _ rfl
      obtain ⟨vm, hm⟩ := zsome hs
      exact zcase_11 hX hq hx hm h1 h2 hb
    | 12, _ =>
      obtain ⟨v, M1, hs, h1, h2⟩ := ho _ _ _ rfl
      obtain ⟨vm, hm⟩ := zsome hs
      exact zcase_12 hX hq hx hm h1 h2 hb
    | 13, _ =>
      obtain ⟨v, M1, hs, h1, h2⟩ := ho _ _ _ rfl
      obtain ⟨vm, hm⟩ := zsome hs
      exact zcase_13 hX hq hx hm h1 h2 hb
    | 14, _ =>
      obtain ⟨v, M1, hs, h1, h2⟩ := ho _ _ _ rfl
      obtain ⟨vm, hm⟩ := zsome hs
      exact zcase_14 hX hq hx hm h1 h2 hb
    | 15, _ =>
      obtain ⟨v, M1, hs, h1, h2⟩ := ho _ _ _ rfl
      obtain ⟨vm, hm⟩ := zsome hs
      exact zcase_15 hX hq hx hm h1 h2 hb
    | 16, _ =>
      obtain ⟨v, M1, hs, h1, h2⟩ := ho _ _ _ rfl
      obtain ⟨vm, hm⟩ := zsome hs
      exact zcase_16 hX hq hx hm h1 h2 hb
    | 17, _ =>
      obtain ⟨v, M1, hs, h1, h2⟩ := ho _ _ _ rfl
      obtain ⟨vm, hm⟩ := zsome hs
      exact zcase_17 hX hq hx hm h1 h2 hb
    | 18, _ =>
      obtain ⟨v, M1, hs, h1, h2⟩ := ho _ _ _ rfl
      obtain ⟨vm, hm⟩ := zsome hs
      exact zcase_18 hX hq hx hm h1 h2 hb
    | 19, _ =>
      obtain ⟨v, M1, hs, h1, h2⟩ := ho _ _ _ rfl
      obtain ⟨vm, hm⟩ := zsome hs
      exact zcase_19 hX hq hx hm h1 h2 hb
    | 20, _ =>
      obtain ⟨v, M1, hs, h1, h2⟩ := ho _ _ _ rfl
      obtain ⟨vm, hm⟩ := zsome hs
      exact zcase_20 hX hq hx hm h1 h2 hb
    | 21, _ =>
      obtain ⟨v, M1, hs, h1, h2⟩ := ho _ _ _ rfl
      obtain ⟨vm, hm⟩ := zsome hs
      exact zcase_21 hX hq hx hm h1 h2 hb
    | 22, _ =>
      obtain ⟨v, M1, hs, h1, h2⟩ := ho _ _ _ rfl
      obtain ⟨vm, hm⟩ := zsome hs
      exact zcase_22 hX hq hx hm h1 h2 hb
    | 23, _ =>
      obtain ⟨v, M1, hs, h1, h2⟩ := ho _ _ _ rfl
      obtain ⟨vm, hm⟩ := zsome hs
      exact zcase_23 hX hq hx hm h1 h2 hb
    | 24, _ =>
      obtain ⟨v, M1, hs, h1, h2⟩ := ho _ _ _ rfl
      obtain ⟨vm, hm⟩ := zsome hs
      exact zcase_24 hX hq hx hm h1 h2 hb
    | 25, _ =>
      obtain ⟨v, M1, hs, h1, h2⟩ := ho _ _ _ rfl
      obtain ⟨vm, hm⟩ := zsome hs
      exact zcase_25 hX hq hx hm h1 h2 hb
    | 26, _ =>
      obtain ⟨v, M1, hs, h1, h2⟩ := ho _ _ _ rfl
      obtain ⟨vm, hm⟩ := zsome hs
      exact zcase_26 hX hq hx hm h1 h2 hb
    | 27, _ =>
      obtain ⟨v, M1, hs, h1, h2⟩ := ho _ _ _ rfl
      obtain ⟨vm, hm⟩ := zsome hs
      exact zcase_27 hX hq hx hm h1 h2 hb
    | 28, _ =>
      obtain ⟨v, M1, hs, h1, h2⟩ := ho _ _ _ rfl
      obtain ⟨vm, hm⟩ := zsome hs
      exact zcase_28 hX hq hx hm h1 h2 hb
    | 29, _ =>
      obtain ⟨v, M1, hs, h1, h2⟩ := ho _ _ _ rfl
      obtain ⟨vm, hm⟩ := zsome hs
      exact zcase_29 hX hq hx hm h1 h2 hb
    | 30, _ =>
      obtain ⟨v, M1, hs, h1, h2⟩ := ho _ _ _ rfl
      obtain ⟨vm, hm⟩ := zsome hs
      exact zcase_30 hX hq hx hm h1 h2 hb
    | 31, _ =>
      obtain ⟨v, M1, hs, h1, h2⟩ := ho _ _ _ rfl
      obtain ⟨vm, hm⟩ := zsome hs
      exact zcase_31 hX hq hx hm h1 h2 hb
    | 32, _ =>
      obtain ⟨v, M1, hs, h1, h2⟩ := ho _ _ _ rfl
      obtain ⟨vm, hm⟩ := zsome hs
      exact zcase_32 hX hq hx hm h1 h2 hb
    | 33, _ =>
      obtain ⟨v, M1, hs, h1, h2⟩ := ho _ _ _ rfl
      obtain ⟨vm, hm⟩ := zsome hs
      exact zcase_33 hX hq hx hm h1 h2 hb
    | 34, _ =>
      obtain ⟨v, M1, hs, h1, h2⟩ := ho _ _ _ rfl
      obtain ⟨vm, hm⟩ := zsome hs
      exact zcase_34 hX hq hx hm h1 h2 hb
    | 35, _ =>
      obtain ⟨v, M1, hs, h1, h2⟩ := ho _ _ _ rfl
      obtain ⟨vm, hm⟩ := zsome hs
      exact zcase_35 hX hq hx hm h1 h2 hb
    | 36, _ =>
      obtain ⟨v, M1, hs, h1, h2⟩ := ho _ _ _ rfl
      obtain ⟨vm, hm⟩ := zsome hs
      exact zcase_36 hX hq hx hm h1 h2 hb
    | 37, _ =>
      obtain ⟨v, M1, hs, h1, h2⟩ := ho _ _ _ rfl
      obtain ⟨vm, hm⟩ := zsome hs
      exact zcase_37 hX hq hx hm h1 h2 hb
    | jj + 38, hh => exact absurd hh (by omega)
  · obtain ⟨M', hn, b1, b2⟩ := hdef
    refine ⟨M', key ?_, b1, b2⟩
    unfold zcpc
    rw [if_neg h38]
    exact zlaw_back hn
end ZLE
/-- the law's beginning: the two objects -/
theorem zlaw_begin {X : List Int32} (h : zEnd X 11 0 zM0) : ∃ (F d : Nat) (M : zM), d ≤ 2000 ∧ zlaw X F d = some (some (.int 1), M) ∧ M.length ≤ 600000 ∧ zsl M ≤ 7302250 := by
  obtain ⟨M', hn, b1, b2⟩ := h
  have hz : zLX X 11 (0, zent [.ref zBig] 4, [], []) (some (.int 1), M') := by
    refine ZX.me (st' := [.ref 0]) (M' := [(8, zdef 8)]) dl_0 rfl rfl rfl rfl rfl ?_
    refine ZX.pu dl_3 rfl rfl ?_
    refine ZX.ca (j := 2048) (vs := [.ref 0]) (r1 := (none, zM0x)) (st' := [.ref 0]) (M' := zM0x) zrun0x.X dl_4 rfl rfl rfl rfl rfl rfl ?_
    refine ZX.lo dl_7 rfl rfl rfl rfl ?_
    refine ZX.me (st' := [.ref 386]) (M' := zM0x ++ [(9, zdef 9)]) dl_8 rfl rfl rfl rfl ?_ ?_
    · simp only [zmem, show znew 10 10 = some 9 from rfl, zM0x_len]
      rw [if_pos (by decide)]
    refine ZX.pu dl_11 rfl rfl ?_
    refine ZX.ca (j := 2304) (vs := [.ref 386]) (r1 := (none, zM0)) (st' := [.ref 386]) (M' := zM0) (ZC.run zrun0m |>.le (by omega)) dl_12 rfl rfl rfl rfl rfl rfl ?_
    refine ZX.lo dl_15 rfl rfl rfl rfl ?_
    refine ZX.pu dl_16 rfl rfl ?_
    refine ZX.lo (ml' := zml 0) dl_17 rfl rfl rfl rfl ?_
    exact hn
  obtain ⟨F, hF⟩ := hz
  exact ⟨F, 11, M', by omega, hF, b1, b2⟩
end
section
/-! RUNS WITH A POSTCONDITION (ZW), calls with one (ZV); cells by their slots (zvl), the cells' shape (zSh), what was written since the law's beginning (zU). Rows of ZW. -/
def ZW (X : List Int32) (d own : Nat) (ini : Bool) (ret : Option FieldType) (cc : ByteArray) (Q : zRes → Prop) (st : zS) : Prop := ∃ r, ZX X d own ini ret cc st r ∧ Q r
def ZV (X : List Int32) (d j : Nat) (vs : List Value) (M : zM) (Q : zRes → Prop) : Prop := ∃ r, ZC X d j vs M r ∧ Q r
def zvl (M : zM) (a k : Nat) : Option Value := (M[a]?).bind fun c => c.2[k]?
def zput (M : zM) (a k : Nat) (v : Value) : zM := match M[a]? with
  | some c => M.set a (c.1, c.2.set k v)
  | none => M
abbrev zshp (M : zM) : List (Nat × Nat) := M.map fun c => (c.1, c.2.length)
def zS0 : List (Nat × Nat) := [(8, 16), (10, 1600), (5, 11), (10, 27), (10, 1601), (10, 1601), (10, 1601), (1, 16), (10, 12), (10, 12), (10, 12), (10, 12), (10, 12), (10, 12), (10, 6), (10, 6), (10, 6), (10, 6), (10, 6), (10, 11), (2, 9), (10, 1600), (12, 8), (10, 8), (10, 8), (10, 8), (10, 64), (10, 7), (1, 16), (10, 12), (10, 12), (10, 12), (10, 12), (10, 12), (10, 12), (10, 6), (10, 6), (10, 6), (10, 6), (10, 6), (10, 11), (2, 9), (10, 1600), (12, 8), (10, 8), (10, 8), (10, 8), (10, 64), (10, 7), (6, 16), (10, 12), (12, 12), (10, 12), (10, 12), (10, 12), (10, 12), (10, 12), (10, 12), (10, 12), (10, 12), (12, 11), (10, 11), (10, 200), (6, 16), (10, 12), (12, 12), (10, 12), (10, 12), (10, 12), (10, 12), (10, 12), (10, 12), (10, 12), (10, 12), (12, 11), (10, 11), (10, 200), (0, 3), (13, 20), (6, 16), (10, 12), (12, 12), (10, 12), (10, 12), (10, 12), (10, 12), (10, 12), (10, 12), (10, 12), (10, 12), (12, 11), (10, 11), (10, 200), (6, 16), (10, 12), (12, 12), (10, 12), (10, 12), (10, 12), (10, 12), (10, 12), (10, 12), (10, 12), (10, 12), (12, 11), (10, 11), (10, 200), (6, 16), (10, 12), (12, 12), (10, 12), (10, 12), (10, 12), (10, 12), (10, 12), (10, 12), (10, 12), (10, 12), (12, 11), (10, 11), (10, 200), (6, 16), (10, 12), (12, 12), (10, 12), (10, 12), (10, 12), (10, 12), (10, 12), (10, 12), (10, 12), (10, 12), (12, 11), (10, 11), (10, 200), (6, 16), (10, 12), (12, 12), (10, 12), (10, 12), (10, 12), (10, 12), (10, 12), (10, 12), (10, 12), (10, 12), (12, 11), (10, 11), (10, 200), (6, 16), (10, 12), (12, 12), (10, 12), (10, 12), (10, 12), (10, 12), (10, 12), (10, 12), (10, 12), (10, 12), (12, 11), (10, 11), (10, 200), (6, 16), (10, 12), (12, 12), (10, 12), (10, 12), (10, 12), (10, 12), (10, 12), (10, 12), (10, 12), (10, 12), (12, 11), (10, 11), (10, 200), (6, 16), (10, 12), (12, 12), (10, 12), (10, 12), (10, 12), (10, 12), (10, 12), (10, 12), (10, 12), (10, 12), (12, 11), (10, 11), (10, 200), (6, 16), (10, 12), (12, 12), (10, 12), (10, 12), (10, 12), (10, 12), (10, 12), (10, 12), (10, 12), (10, 12), (12, 11), (10, 11), (10, 200), (6, 16), (10, 12), (12, 12), (10, 12), (10, 12), (10, 12), (10, 12), (10, 12), (10, 12), (10, 12), (10, 12), (12, 11), (10, 11), (10, 200), (6, 16), (10, 12), (12, 12), (10, 12), (10, 12), (10, 12), (10, 12), (10, 12), (10, 12), (10, 12), (10, 12), (12, 11), (10, 11), (10, 200), (6, 16), (10, 12), (12, 12), (10, 12), (10, 12), (10, 12), (10, 12), (10, 12), (10, 12), (10, 12), (10, 12), (12, 11), (10, 11), (10, 200), (6, 16), (10, 12), (12, 12), (10, 12), (10, 12), (10, 12), (10, 12), (10, 12), (10, 12), (10, 12), (10, 12), (12, 11), (10, 11), (10, 200), (6, 16), (10, 12), (12, 12), (10, 12), (10, 12), (10, 12), (10, 12), (10, 12), (10, 12), (10, 12), (10, 12), (12, 11), (10, 11), (10, 200), (6, 16), (10, 12), (12, 12), (10, 12), (10, 12), (10, 12), (10, 12), (10, 12), (10, 12), (10, 12), (10, 12), (12, 11), (10, 11), (10, 200), (6, 16), (10, 12), (12, 12), (10, 12), (10, 12), (10, 12), (10, 12), (10, 12), (10, 12), (10, 12), (10, 12), (12, 11), (10, 11), (10, 200), (6, 16), (10, 12), (12, 12), (10, 12), (10, 12), (10, 12), (10, 12), (10, 12), (10, 12), (10, 12), (10, 12), (12, 11), (10, 11), (10, 200), (6, 16), (10, 12), (12, 12), (10, 12), (10, 12), (10, 12), (10, 12), (10, 12), (10, 12), (10, 12), (10, 12), (12, 11), (10, 11), (10, 200), (6, 16), (10, 12), (12, 12), (10, 12), (10, 12), (10, 12), (10, 12), (10, 12), (10, 12), (10, 12), (10, 12), (12, 11), (10, 11), (10, 200), (6, 16), (10, 12), (12, 12), (10, 12), (10, 12), (10, 12), (10, 12), (10, 12), (10, 12), (10, 12), (10, 12), (12, 11), (10, 11), (10, 200), (3, 2), (7, 2), (10, 12), (7, 2), (10, 12), (4, 12), (10, 12), (10, 12), (6, 16), (10, 12), (12, 12), (10, 12), (10, 12), (10, 12), (10, 12), (10, 12), (10, 12), (10, 12), (10, 12), (12, 11), (10, 11), (10, 200), (7, 2), (10, 12), (10, 12), (10, 109), (10, 6), (9, 82), (10, 1800), (10, 2), (11, 24), (10, 24), (10, 24), (10, 24), (10, 24), (10, 24), (10, 22), (10, 2), (11, 12), (10, 12), (10, 12), (10, 12), (10, 12), (10, 2), (10, 16), (10, 16), (10, 16), (10, 16), (10, 3200), (10, 3200), (10, 20), (10, 20), (12, 20), (10, 20), (10, 20), (10, 500), (10, 6), (11, 1650), (10, 10), (10, 22), (10, 264), (10, 264), (10, 264), (10, 264), (10, 264), (10, 264), (10, 264), (10, 264), (10, 264), (10, 264), (10, 242), (10, 242), (10, 22), (10, 22000), (10, 12), (10, 12), (10, 12), (10, 12), (10, 4), (10, 4), (10, 120)]
def zSh (M : zM) : Prop := zshp M = zS0
theorem zSh_get {M : zM} (h : zSh M) {a kind n : Nat} (e : zS0[a]? = some (kind, n)) : ∃ vs, M[a]? = some (kind, vs) ∧ vs.length = n ∧ zarr M a kind = some vs := by
  unfold zSh at h
  rw [← h, List.getElem?_map, Option.map_eq_some_iff] at e
  obtain ⟨c, h1, h2⟩ := e
  obtain ⟨c1, c2⟩ := c
  cases h2
  refine ⟨c2, h1, rfl, ?_⟩
  unfold zarr
  rw [h1]
  simp
theorem zput_eq {M : zM} {a k kind : Nat} {vs : List Value} {v : Value} (h : M[a]? = some (kind, vs)) : zput M a k v = M.set a (kind, vs.set k v) := by
  unfold zput
  rw [h]
theorem zSh_set {M : zM} (h : zSh M) {a kind : Nat} {vs ws : List Value} (e : M[a]? = some (kind, vs)) (hl : ws.length = vs.length) : zSh (M.set a (kind, ws)) := by
  unfold zSh at h ⊢
  rw [← h]
  unfold zshp
  rw [List.map_set]
  refine List.ext_getElem? fun i => ?_
  rw [List.getElem?_set]
  split
  · rename_i q
    subst q
    rw [List.getElem?_map, e]
    have : a < (M.map fun c => (c.1, c.2.length)).length := by
      rw [List.length_map]
      exact (List.getElem?_eq_some_iff.mp e).1
    rw [if_pos this]
    simp [hl]
  · rfl
theorem zSh_put {M : zM} (h : zSh M) {a k kind n : Nat} {v : Value} (e : zS0[a]? = some (kind, n)) : zSh (zput M a k v) := by
  obtain ⟨vs, h1, -, -⟩ := zSh_get h e
  rw [zput_eq h1]
  exact zSh_set h h1 (by simp)
theorem zvl_eq {M : zM} {a k kind : Nat} {vs : List Value} (h : M[a]? = some (kind, vs)) : zvl M a k = vs[k]? := by
  unfold zvl
  rw [h]
  rfl
theorem zvl_put {M : zM} (h : zSh M) {a k kind n : Nat} {v : Value} (e : zS0[a]? = some (kind, n)) (hk : k < n) : zvl (zput M a k v) a k = some v := by
  obtain ⟨vs, h1, h2, -⟩ := zSh_get h e
  have hlt : a < M.length := (List.getElem?_eq_some_iff.mp h1).1
  rw [zput_eq h1, zvl_eq (kind := kind) (vs := vs.set k v) (by rw [List.getElem?_set_self hlt]), List.getElem?_set_self (by omega)]
theorem zvl_ne {M : zM} {a k a' k' : Nat} {v : Value} (hne : a ≠ a' ∨ k ≠ k') : zvl (zput M a k v) a' k' = zvl M a' k' := by
  unfold zput
  split
  · rename_i c hc
    unfold zvl
    rw [List.getElem?_set]
    split
    · rename_i q
      subst q
      have hlt : a < M.length := (List.getElem?_eq_some_iff.mp hc).1
      rw [if_pos hlt, hc]
      simp only [Option.bind_some]
      rw [List.getElem?_set]
      split
      · rename_i q2
        exact absurd q2 (hne.resolve_left (fun z => z rfl))
      · rfl
    · rfl
  · rfl
theorem zSh_len {M : zM} (h : zSh M) : M.length = 440 := by
  have := congrArg List.length h
  rw [List.length_map] at this
  rw [this]
  decide +kernel
theorem zSh_sl {M : zM} (h : zSh M) : zsl M = 54791 := by
  have e : zsl M = ((zshp M).map (·.2)).sum := by
    unfold zsl zshp
    rw [List.map_map]
    rfl
  rw [e, h]
  decide +kernel
set_option maxRecDepth 1000000 in
theorem zSh_0 : zSh zM0 := by
  unfold zSh
  decide +kernel
/-- what lies apart from the slots W is as at the beginning -/
def zoff (W : List (Nat × Nat)) (a k : Nat) : Bool := W.all fun p => !(p.1 == a && p.2 == k)
def zU (W : List (Nat × Nat)) (M : zM) : Prop := zSh M ∧ ∀ a k, zoff W a k = true → zvl M a k = zvl zM0 a k
theorem zU_0 : zU [] zM0 := ⟨zSh_0, fun _ _ _ => rfl⟩
theorem zU_put {W : List (Nat × Nat)} {M : zM} (h : zU W M) {a k kind n : Nat} {v : Value} (e : zS0[a]? = some (kind, n)) : zU ((a, k) :: W) (zput M a k v) := by
  refine ⟨zSh_put h.1 e, fun a' k' hq => ?_⟩
  unfold zoff at hq
  rw [List.all_cons, Bool.and_eq_true] at hq
  rw [zvl_ne ?_, h.2 a' k' hq.2]
  have := hq.1
  by_cases q : a = a'
  · refine Or.inr fun z => ?_
    subst q z
    simp at this
  · exact Or.inl q
theorem zpt {x c : Int32} {n : Int} (hc : c.toInt = n) (h : x.toInt = n) : x = c := Int32.toInt_inj.mp (h.trans hc.symm)
theorem zclampI {x : Int32} {k : Nat} (h : x.toInt = (k : Int)) : x.toNatClampNeg = k ∧ ¬ x < 0 := by
  constructor
  · rw [← Int32.toNat_toInt, h]
    rfl
  · rw [Int32.lt_iff_toInt_lt, h]
    show ¬ ((k : Int) < 0)
    omega
theorem zidxI {vs : List Value} {x : Int32} {k : Nat} (h : x.toInt = (k : Int)) (hk : k < vs.length) : zidx vs x = some k := by
  obtain ⟨h1, h2⟩ := zclampI h
  unfold zidx
  rw [if_neg, h1]
  rw [h1]
  rintro (q | q)
  · exact h2 q
  · omega
section ZWR
variable {X : List Int32} {d own : Nat} {ini : Bool} {ret : Option FieldType} {cc : ByteArray} {Q : zRes → Prop} {pc n : Nat} {i : Instr} {ml ml' : zML} {st st' : List Value} {M M' : zM} {x y c : Int32} {off : Int} {t : Nat} {W : List (Nat × Nat)}
theorem ZW.of {s s' : zS} (h : ∀ r, ZX X d own ini ret cc s' r → ZX X d own ini ret cc s r) (k : ZW X d own ini ret cc Q s') : ZW X d own ini ret cc Q s := by
  obtain ⟨r, h1, h2⟩ := k
  exact ⟨r, h r h1, h2⟩
theorem ZV.of {j ci na ml pos : Nat} {y : MethodName} {vs : List Value} {M : zM} (hz : zmt j = some (ci, na, y, cc, ml, ret, pos)) (hl : (zargs vs).length ≤ ml) (hi : decide (y.name = "<init>") = ini) (k : ZW X d ci ini ret cc Q (0, zent vs ml, [], M)) : ZV X (d + 1) j vs M Q := by
  obtain ⟨r, h1, h2⟩ := k
  exact ⟨r, ZC.of hz hl (by rw [hi]; exact h1), h2⟩
theorem ZV.imp {j : Nat} {vs : List Value} {Q' : zRes → Prop} (h : ZV X d j vs M Q) (k : ∀ r, Q r → Q' r) : ZV X d j vs M Q' := by
  obtain ⟨r, h1, h2⟩ := h
  exact ⟨r, h1, k r h2⟩
theorem w_pu (hd : decode cc pc = .ok (i, n)) (h1 : zret ret i st = none) (h : zpure i st = some (n, st')) (k : ZW X d own ini ret cc Q (pc + n, ml, st', M)) : ZW X d own ini ret cc Q (pc, ml, st, M) := ZW.of (fun _ z => ZX.pu hd h1 h z) k
theorem w_ic {m : Int} (hd : decode cc pc = .ok (.iconst m, 1)) (hc : Int32.ofInt m = c) (k : ZW X d own ini ret cc Q (pc + 1, ml, .int c :: st, M)) : ZW X d own ini ret cc Q (pc, ml, st, M) := by
  subst hc
  exact ZW.of (fun _ z => ZX.pu hd (by cases st <;> rfl) rfl z) k
theorem w_bi {m : Int} (hd : decode cc pc = .ok (.bipush m, 2)) (hc : (Int8.ofInt m).toInt32 = c) (k : ZW X d own ini ret cc Q (pc + 2, ml, .int c :: st, M)) : ZW X d own ini ret cc Q (pc, ml, st, M) := by
  subst hc
  exact ZW.of (fun _ z => ZX.pu hd (by cases st <;> rfl) rfl z) k
theorem w_si {m : Int} (hd : decode cc pc = .ok (.sipush m, 3)) (hc : (Int16.ofInt m).toInt32 = c) (k : ZW X d own ini ret cc Q (pc + 3, ml, .int c :: st, M)) : ZW X d own ini ret cc Q (pc, ml, st, M) := by
  subst hc
  exact ZW.of (fun _ z => ZX.pu hd (by cases st <;> rfl) rfl z) k
theorem w_br {pc' : Nat} (hd : decode cc pc = .ok (i, n)) (h1 : zret ret i st = none) (h2 : zpure i st = none) (h : zbr i pc n st = some (pc', st')) (k : ZW X d own ini ret cc Q (pc', ml, st', M)) : ZW X d own ini ret cc Q (pc, ml, st, M) := ZW.of (fun _ z => ZX.br hd h1 h2 h z) k
theorem w_lo (hd : decode cc pc = .ok (i, n)) (h1 : zret ret i st = none) (h2 : zpure i st = none) (h3 : zbr i pc n st = none) (h : zloc i ml st = some (n, ml', st')) (k : ZW X d own ini ret cc Q (pc + n, ml', st', M)) : ZW X d own ini ret cc Q (pc, ml, st, M) := ZW.of (fun _ z => ZX.lo hd h1 h2 h3 h z) k
theorem w_me (hd : decode cc pc = .ok (i, n)) (h1 : zret ret i st = none) (h2 : zpure i st = none) (h3 : zbr i pc n st = none) (h4 : zloc i ml st = none) (h : zmem own ini X i st M = some (n, st', M')) (k : ZW X d own ini ret cc Q (pc + n, ml, st', M')) : ZW X d own ini ret cc Q (pc, ml, st, M) := ZW.of (fun _ z => ZX.me hd h1 h2 h3 h4 h z) k
/-- the end of a method -/
theorem w_en {v : Option Value} (hd : decode cc pc = .ok (i, 1)) (h1 : zret ret i st = some v) (k : Q (v, M)) : ZW X d own ini ret cc Q (pc, ml, st, M) := ⟨(v, M), ZX.en hd h1, k⟩
theorem w_gt (hd : decode cc pc = .ok (.goto off, 3)) (ht : ztgt pc off = some t) (k : ZW X d own ini ret cc Q (t, ml, st, M)) : ZW X d own ini ret cc Q (pc, ml, st, M) := by
  refine w_br hd ?_ ?_ ?_ k
  · cases st <;> rfl
  · cases st <;> rfl
  · simp only [zbr, ht, if_true, Option.map_some]
theorem w_ieq_t (hd : decode cc pc = .ok (.ifCond .eq off, 3)) (ht : ztgt pc off = some t) (h : x.toInt = 0) (k : ZW X d own ini ret cc Q (t, ml, st, M)) : ZW X d own ini ret cc Q (pc, ml, .int x :: st, M) := by
  refine w_br hd rfl rfl ?_ k
  simp only [zbr, ht, if_true]
  rw [if_pos (zpt (c := 0) rfl h)]
theorem w_ieq_f (hd : decode cc pc = .ok (.ifCond .eq off, 3)) (ht : ztgt pc off = some t) (h : x.toInt ≠ 0) (k : ZW X d own ini ret cc Q (pc + 3, ml, st, M)) : ZW X d own ini ret cc Q (pc, ml, .int x :: st, M) := by
  refine w_br hd rfl rfl ?_ k
  simp only [zbr, ht, if_true]
  rw [if_neg (fun z => h (by rw [z]; rfl))]
theorem w_ceq_t (hd : decode cc pc = .ok (.if_icmp .eq off, 3)) (ht : ztgt pc off = some t) (h : x.toInt = y.toInt) (k : ZW X d own ini ret cc Q (t, ml, st, M)) : ZW X d own ini ret cc Q (pc, ml, .int y :: .int x :: st, M) := by
  refine w_br hd rfl rfl ?_ k
  simp only [zbr, ht, if_true]
  rw [if_pos (Int32.toInt_inj.mp h)]
theorem w_ceq_f (hd : decode cc pc = .ok (.if_icmp .eq off, 3)) (ht : ztgt pc off = some t) (h : x.toInt ≠ y.toInt) (k : ZW X d own ini ret cc Q (pc + 3, ml, st, M)) : ZW X d own ini ret cc Q (pc, ml, .int y :: .int x :: st, M) := by
  refine w_br hd rfl rfl ?_ k
  simp only [zbr, ht, if_true]
  rw [if_neg (fun z => h (by rw [z]))]
theorem w_ine_t (hd : decode cc pc = .ok (.ifCond .ne off, 3)) (ht : ztgt pc off = some t) (h : x.toInt ≠ 0) (k : ZW X d own ini ret cc Q (t, ml, st, M)) : ZW X d own ini ret cc Q (pc, ml, .int x :: st, M) := by
  refine w_br hd rfl rfl ?_ k
  simp only [zbr, ht, if_true]
  rw [if_neg (fun z => h (by rw [z]; rfl))]
theorem w_ine_f (hd : decode cc pc = .ok (.ifCond .ne off, 3)) (ht : ztgt pc off = some t) (h : x.toInt = 0) (k : ZW X d own ini ret cc Q (pc + 3, ml, st, M)) : ZW X d own ini ret cc Q (pc, ml, .int x :: st, M) := by
  refine w_br hd rfl rfl ?_ k
  simp only [zbr, ht, if_true]
  rw [if_pos (zpt (c := 0) rfl h)]
theorem w_cne_t (hd : decode cc pc = .ok (.if_icmp .ne off, 3)) (ht : ztgt pc off = some t) (h : x.toInt ≠ y.toInt) (k : ZW X d own ini ret cc Q (t, ml, st, M)) : ZW X d own ini ret cc Q (pc, ml, .int y :: .int x :: st, M) := by
  refine w_br hd rfl rfl ?_ k
  simp only [zbr, ht, if_true]
  rw [if_neg (fun z => h (by rw [z]))]
theorem w_cne_f (hd : decode cc pc = .ok (.if_icmp .ne off, 3)) (ht : ztgt pc off = some t) (h : x.toInt = y.toInt) (k : ZW X d own ini ret cc Q (pc + 3, ml, st, M)) : ZW X d own ini ret cc Q (pc, ml, .int y :: .int x :: st, M) := by
  refine w_br hd rfl rfl ?_ k
  simp only [zbr, ht, if_true]
  rw [if_pos (Int32.toInt_inj.mp h)]
theorem w_ilt_t (hd : decode cc pc = .ok (.ifCond .lt off, 3)) (ht : ztgt pc off = some t) (h : x.toInt < 0) (k : ZW X d own ini ret cc Q (t, ml, st, M)) : ZW X d own ini ret cc Q (pc, ml, .int x :: st, M) := by
  refine w_br hd rfl rfl ?_ k
  simp only [zbr, ht, if_true]
  rw [if_pos (Int32.lt_iff_toInt_lt.mpr (by have e : (0 : Int32).toInt = 0 := rfl; omega))]
theorem w_ilt_f (hd : decode cc pc = .ok (.ifCond .lt off, 3)) (ht : ztgt pc off = some t) (h : 0 ≤ x.toInt) (k : ZW X d own ini ret cc Q (pc + 3, ml, st, M)) : ZW X d own ini ret cc Q (pc, ml, .int x :: st, M) := by
  refine w_br hd rfl rfl ?_ k
  simp only [zbr, ht, if_true]
  rw [if_neg (fun z => absurd (Int32.lt_iff_toInt_lt.mp z) (by have e : (0 : Int32).toInt = 0 := rfl; omega))]
theorem w_clt_t (hd : decode cc pc = .ok (.if_icmp .lt off, 3)) (ht : ztgt pc off = some t) (h : x.toInt < y.toInt) (k : ZW X d own ini ret cc Q (t, ml, st, M)) : ZW X d own ini ret cc Q (pc, ml, .int y :: .int x :: st, M) := by
  refine w_br hd rfl rfl ?_ k
  simp only [zbr, ht, if_true]
  rw [if_pos (Int32.lt_iff_toInt_lt.mpr h)]
theorem w_clt_f (hd : decode cc pc = .ok (.if_icmp .lt off, 3)) (ht : ztgt pc off = some t) (h : y.toInt ≤ x.toInt) (k : ZW X d own ini ret cc Q (pc + 3, ml, st, M)) : ZW X d own ini ret cc Q (pc, ml, .int y :: .int x :: st, M) := by
  refine w_br hd rfl rfl ?_ k
  simp only [zbr, ht, if_true]
  rw [if_neg (fun z => absurd (Int32.lt_iff_toInt_lt.mp z) (by omega))]
theorem w_ige_t (hd : decode cc pc = .ok (.ifCond .ge off, 3)) (ht : ztgt pc off = some t) (h : 0 ≤ x.toInt) (k : ZW X d own ini ret cc Q (t, ml, st, M)) : ZW X d own ini ret cc Q (pc, ml, .int x :: st, M) := by
  refine w_br hd rfl rfl ?_ k
  simp only [zbr, ht, if_true]
  rw [if_pos (Int32.le_iff_toInt_le.mpr (by have e : (0 : Int32).toInt = 0 := rfl; omega))]
theorem w_ige_f (hd : decode cc pc = .ok (.ifCond .ge off, 3)) (ht : ztgt pc off = some t) (h : x.toInt < 0) (k : ZW X d own ini ret cc Q (pc + 3, ml, st, M)) : ZW X d own ini ret cc Q (pc, ml, .int x :: st, M) := by
  refine w_br hd rfl rfl ?_ k
  simp only [zbr, ht, if_true]
  rw [if_neg (fun z => absurd (Int32.le_iff_toInt_le.mp z) (by have e : (0 : Int32).toInt = 0 := rfl; omega))]
theorem w_cge_t (hd : decode cc pc = .ok (.if_icmp .ge off, 3)) (ht : ztgt pc off = some t) (h : y.toInt ≤ x.toInt) (k : ZW X d own ini ret cc Q (t, ml, st, M)) : ZW X d own ini ret cc Q (pc, ml, .int y :: .int x :: st, M) := by
  refine w_br hd rfl rfl ?_ k
  simp only [zbr, ht, if_true]
  rw [if_pos (Int32.le_iff_toInt_le.mpr h)]
theorem w_cge_f (hd : decode cc pc = .ok (.if_icmp .ge off, 3)) (ht : ztgt pc off = some t) (h : x.toInt < y.toInt) (k : ZW X d own ini ret cc Q (pc + 3, ml, st, M)) : ZW X d own ini ret cc Q (pc, ml, .int y :: .int x :: st, M) := by
  refine w_br hd rfl rfl ?_ k
  simp only [zbr, ht, if_true]
  rw [if_neg (fun z => absurd (Int32.le_iff_toInt_le.mp z) (by omega))]
theorem w_igt_t (hd : decode cc pc = .ok (.ifCond .gt off, 3)) (ht : ztgt pc off = some t) (h : 0 < x.toInt) (k : ZW X d own ini ret cc Q (t, ml, st, M)) : ZW X d own ini ret cc Q (pc, ml, .int x :: st, M) := by
  refine w_br hd rfl rfl ?_ k
  simp only [zbr, ht, if_true]
  rw [if_pos (Int32.lt_iff_toInt_lt.mpr (by have e : (0 : Int32).toInt = 0 := rfl; omega))]
theorem w_igt_f (hd : decode cc pc = .ok (.ifCond .gt off, 3)) (ht : ztgt pc off = some t) (h : x.toInt ≤ 0) (k : ZW X d own ini ret cc Q (pc + 3, ml, st, M)) : ZW X d own ini ret cc Q (pc, ml, .int x :: st, M) := by
  refine w_br hd rfl rfl ?_ k
  simp only [zbr, ht, if_true]
  rw [if_neg (fun z => absurd (Int32.lt_iff_toInt_lt.mp z) (by have e : (0 : Int32).toInt = 0 := rfl; omega))]
theorem w_cgt_t (hd : decode cc pc = .ok (.if_icmp .gt off, 3)) (ht : ztgt pc off = some t) (h : y.toInt < x.toInt) (k : ZW X d own ini ret cc Q (t, ml, st, M)) : ZW X d own ini ret cc Q (pc, ml, .int y :: .int x :: st, M) := by
  refine w_br hd rfl rfl ?_ k
  simp only [zbr, ht, if_true]
  rw [if_pos (Int32.lt_iff_toInt_lt.mpr h)]
theorem w_cgt_f (hd : decode cc pc = .ok (.if_icmp .gt off, 3)) (ht : ztgt pc off = some t) (h : x.toInt ≤ y.toInt) (k : ZW X d own ini ret cc Q (pc + 3, ml, st, M)) : ZW X d own ini ret cc Q (pc, ml, .int y :: .int x :: st, M) := by
  refine w_br hd rfl rfl ?_ k
  simp only [zbr, ht, if_true]
  rw [if_neg (fun z => absurd (Int32.lt_iff_toInt_lt.mp z) (by omega))]
theorem w_ile_t (hd : decode cc pc = .ok (.ifCond .le off, 3)) (ht : ztgt pc off = some t) (h : x.toInt ≤ 0) (k : ZW X d own ini ret cc Q (t, ml, st, M)) : ZW X d own ini ret cc Q (pc, ml, .int x :: st, M) := by
  refine w_br hd rfl rfl ?_ k
  simp only [zbr, ht, if_true]
  rw [if_pos (Int32.le_iff_toInt_le.mpr (by have e : (0 : Int32).toInt = 0 := rfl; omega))]
theorem w_ile_f (hd : decode cc pc = .ok (.ifCond .le off, 3)) (ht : ztgt pc off = some t) (h : 0 < x.toInt) (k : ZW X d own ini ret cc Q (pc + 3, ml, st, M)) : ZW X d own ini ret cc Q (pc, ml, .int x :: st, M) := by
  refine w_br hd rfl rfl ?_ k
  simp only [zbr, ht, if_true]
  rw [if_neg (fun z => absurd (Int32.le_iff_toInt_le.mp z) (by have e : (0 : Int32).toInt = 0 := rfl; omega))]
theorem w_cle_t (hd : decode cc pc = .ok (.if_icmp .le off, 3)) (ht : ztgt pc off = some t) (h : x.toInt ≤ y.toInt) (k : ZW X d own ini ret cc Q (t, ml, st, M)) : ZW X d own ini ret cc Q (pc, ml, .int y :: .int x :: st, M) := by
  refine w_br hd rfl rfl ?_ k
  simp only [zbr, ht, if_true]
  rw [if_pos (Int32.le_iff_toInt_le.mpr h)]
theorem w_cle_f (hd : decode cc pc = .ok (.if_icmp .le off, 3)) (ht : ztgt pc off = some t) (h : y.toInt < x.toInt) (k : ZW X d own ini ret cc Q (pc + 3, ml, st, M)) : ZW X d own ini ret cc Q (pc, ml, .int y :: .int x :: st, M) := by
  refine w_br hd rfl rfl ?_ k
  simp only [zbr, ht, if_true]
  rw [if_neg (fun z => absurd (Int32.le_iff_toInt_le.mp z) (by omega))]
theorem zbr_ts {d0 lo hi : Int} {offs : Array Int} {r : List Value} {j : Int} (hx : x.toInt = j) (h : (if j < lo ∨ hi < j then ztgt pc d0 else match offs[(j - lo).toNat]? with
  | none => none
  | some o => ztgt pc o) = some t) : zbr (.tableswitch d0 lo hi offs) pc n (.int x :: r) = some (t, r) := by
  subst hx
  simp only [zbr]
  split at h
  · rename_i q
    rw [if_pos q, h]
    rfl
  · rename_i q
    rw [if_neg q]
    split at h
    · cases h
    · rename_i q2
      simp only [q2]
      rw [h]
      rfl
/-- tableswitch -/
theorem w_ts {d0 lo hi j : Int} {offs : Array Int} (hd : decode cc pc = .ok (.tableswitch d0 lo hi offs, n)) (hx : x.toInt = j) (h : (if j < lo ∨ hi < j then ztgt pc d0 else match offs[(j - lo).toNat]? with
  | none => none
  | some o => ztgt pc o) = some t) (k : ZW X d own ini ret cc Q (t, ml, st, M)) : ZW X d own ini ret cc Q (pc, ml, .int x :: st, M) := w_br hd rfl rfl (zbr_ts hx h) k
theorem w_td {d0 lo hi : Int} {offs : Array Int} (hd : decode cc pc = .ok (.tableswitch d0 lo hi offs, n)) (hx : x.toInt < lo ∨ hi < x.toInt) (h : ztgt pc d0 = some t) (k : ZW X d own ini ret cc Q (t, ml, st, M)) : ZW X d own ini ret cc Q (pc, ml, .int x :: st, M) := w_br hd rfl rfl (zbr_ts rfl (by rw [if_pos hx]; exact h)) k
theorem zlk_def : ∀ {l : List (Int × Int)} {d k : Int}, (∀ p ∈ l, p.1 ≠ k) → Op.lookupswitch.offset l d k = d
  | [], _, _, _ => rfl
  | (a, o) :: l, d, k, h => by
    rw [Op.lookupswitch.offset_cons, if_neg (h (a, o) List.mem_cons_self)]
    exact zlk_def fun p hp => h p (List.mem_cons_of_mem _ hp)
/-- lookupswitch -/
theorem w_lk {d0 j : Int} {ps : Array (Int × Int)} (hd : decode cc pc = .ok (.lookupswitch d0 ps, n)) (hs : ((ps.toList.zip (ps.toList.drop 1)).all fun (a, next) => a.1 < next.1) = true) (hx : x.toInt = j) (h : ztgt pc (Op.lookupswitch.offset ps.toList d0 j) = some t) (k : ZW X d own ini ret cc Q (t, ml, st, M)) : ZW X d own ini ret cc Q (pc, ml, .int x :: st, M) := by
  subst hx
  refine w_br hd rfl rfl ?_ k
  simp only [zbr]
  rw [if_pos hs, h]
  rfl
theorem w_ld {d0 : Int} {ps : Array (Int × Int)} (hd : decode cc pc = .ok (.lookupswitch d0 ps, n)) (hs : ((ps.toList.zip (ps.toList.drop 1)).all fun (a, next) => a.1 < next.1) = true) (hx : ∀ p ∈ ps.toList, p.1 ≠ x.toInt) (h : ztgt pc d0 = some t) (k : ZW X d own ini ret cc Q (t, ml, st, M)) : ZW X d own ini ret cc Q (pc, ml, .int x :: st, M) := w_lk hd hs rfl (by rw [zlk_def hx]; exact h) k
/-- getfield -/
theorem w_gf {idx ci k a nn : Nat} {s' : List Value} {v : Value} (hd : decode cc pc = .ok (.getfield idx, 3)) (hf : zfld own idx = some (ci, k)) (hS : zSh M) (he : zS0[a]? = some (ci, nn)) (hv : zvl M a k = some v) (kk : ZW X d own ini ret cc Q (pc + 3, ml, v :: s', M)) : ZW X d own ini ret cc Q (pc, ml, .ref a :: s', M) := by
  obtain ⟨vs, h1, h2, h3⟩ := zSh_get hS he
  exact ZW.of (fun _ z => ZX.gf hd hf h3 (by rw [← zvl_eq h1]; exact hv) z) kk
/-- putfield -/
theorem w_pf {idx ci k a nn : Nat} {s' : List Value} {v : Value} (hd : decode cc pc = .ok (.putfield idx, 3)) (hf : zfld own idx = some (ci, k)) (hU : zU W M) (he : zS0[a]? = some (ci, nn)) (hk : k < nn) (hq1 : narrow (zty ci k) v = v) (hq2 : fits (zty ci k) v = true) (hq3 : (ztb ci k).2.2.2 = false) (kk : ∀ M', zU ((a, k) :: W) M' → zvl M' a k = some v → (∀ a' k', (a ≠ a' ∨ k ≠ k') → zvl M' a' k' = zvl M a' k') → ZW X d own ini ret cc Q (pc + 3, ml, s', M')) : ZW X d own ini ret cc Q (pc, ml, v :: .ref a :: s', M) := by
  obtain ⟨vs, h1, h2, h3⟩ := zSh_get hU.1 he
  have h4 := kk (zput M a k v) (zU_put hU he) (zvl_put hU.1 he hk) (fun a' k' h => zvl_ne h)
  rw [zput_eq h1] at h4
  exact ZW.of (fun _ z => ZX.pf hd hf h3 ⟨by omega, hq1, hq2, fun h => by rw [hq3] at h; cases h⟩ z) h4
/-- iaload -/
theorem w_ia {a k nn : Nat} {s' : List Value} {v : Value} (hd : decode cc pc = .ok (.iaload, 1)) (hS : zSh M) (he : zS0[a]? = some (10, nn)) (hx : x.toInt = (k : Int)) (hv : zvl M a k = some v) (kk : ZW X d own ini ret cc Q (pc + 1, ml, v :: s', M)) : ZW X d own ini ret cc Q (pc, ml, .int x :: .ref a :: s', M) := by
  obtain ⟨vs, h1, h2, h3⟩ := zSh_get hS he
  rw [zvl_eq h1] at hv
  have hlt : k < vs.length := (List.getElem?_eq_some_iff.mp hv).1
  have hlt2 : a < M.length := (List.getElem?_eq_some_iff.mp h1).1
  have hb : a ≠ zBig := by
    have h4 : M.length = 440 := zSh_len hS
    unfold zBig
    omega
  exact ZW.of (fun _ z => ZX.ia hd hb h3 (zidxI hx hlt) hv z) kk
/-- iastore -/
theorem w_is {a k nn : Nat} {s' : List Value} (hd : decode cc pc = .ok (.iastore, 1)) (hU : zU W M) (he : zS0[a]? = some (10, nn)) (hx : x.toInt = (k : Int)) (hk : k < nn) (kk : ∀ M', zU ((a, k) :: W) M' → zvl M' a k = some (.int y) → (∀ a' k', (a ≠ a' ∨ k ≠ k') → zvl M' a' k' = zvl M a' k') → ZW X d own ini ret cc Q (pc + 1, ml, s', M')) : ZW X d own ini ret cc Q (pc, ml, .int y :: .int x :: .ref a :: s', M) := by
  obtain ⟨vs, h1, h2, h3⟩ := zSh_get hU.1 he
  have h4 := kk (zput M a k (.int y)) (zU_put hU he) (zvl_put hU.1 he hk) (fun a' k' h => zvl_ne h)
  rw [zput_eq h1] at h4
  exact ZW.of (fun _ z => ZX.is hd h3 (zidxI hx (by omega)) z) h4
/-- a call of a method of one's own -/
theorem w_iv {idx j ci na a nn ml2 pos : Nat} {y : MethodName} {c2 : ByteArray} {ret2 : Option FieldType} {As s' : List Value} (hd : decode cc pc = .ok (.invokevirtual idx, 3)) (hcl : zcall own idx = some (0, j)) (hz : zmt j = some (ci, na, y, c2, ml2, ret2, pos)) (hst : st = As.reverse ++ .ref a :: s') (hn : As.length = na) (hS : zSh M) (he : zS0[a]? = some (ci, nn)) (hcat : zcat s' ≤ 8) (hc : ZV X d j (.ref a :: As) M (fun r1 => ZW X d own ini ret cc Q (pc + 3, ml, r1.1.toList ++ s', r1.2))) : ZW X d own ini ret cc Q (pc, ml, st, M) := by
  obtain ⟨vs, h1, h2, h3⟩ := zSh_get hS he
  obtain ⟨r1, g1, r, g2, g3⟩ := hc
  exact ⟨r, ZX.iv hd hcl hz hst hn h3 hcat g1 g2, g3⟩
/-- a call of a static method -/
theorem w_ss {idx j ci na ml2 pos : Nat} {y : MethodName} {c2 : ByteArray} {ret2 : Option FieldType} {As s' : List Value} (hd : decode cc pc = .ok (.invokestatic idx, 3)) (hcl : zcall own idx = some (1, j)) (hz : zmt j = some (ci, na, y, c2, ml2, ret2, pos)) (hst : st = As.reverse ++ s') (hn : As.length = na) (hcat : zcat s' ≤ 8) (hc : ZV X d j As M (fun r1 => ZW X d own ini ret cc Q (pc + 3, ml, r1.1.toList ++ s', r1.2))) : ZW X d own ini ret cc Q (pc, ml, st, M) := by
  obtain ⟨r1, g1, r, g2, g3⟩ := hc
  have e1 : st.drop na = s' := by
    rw [hst, ← hn, ← List.length_reverse, List.drop_left]
  have e2 : (st.take na).reverse = As := by
    rw [hst, ← hn, ← List.length_reverse, List.take_left, List.reverse_reverse]
  have e3 : na ≤ st.length := by
    rw [hst, ← hn]
    simp
  refine ⟨r, ZX.ca g1 hd ?_ ?_ ?_ ?_ ?_ ?_ g2, g3⟩
  · cases st <;> rfl
  · cases st <;> rfl
  · cases st <;> rfl
  · cases st <;> rfl
  · cases st <;> rfl
  · simp only [zinv, hcl, hz, e1, e2]
    rw [if_pos ⟨e3, hcat⟩, if_pos (by simp)]
    rfl
theorem w_in (hd : decode cc pc = .ok (i, 3)) (h1 : zret ret i st = none) (h2 : zpure i st = none) (h3 : zbr i pc 3 st = none) (h4 : zloc i ml st = none) (h5 : zmem own ini X i st M = none) (h : zinv own (fun _ _ _ => none) i st M = some (st', M')) (k : ZW X d own ini ret cc Q (pc + 3, ml, st', M')) : ZW X d own ini ret cc Q (pc, ml, st, M) := by
  refine ZW.of (fun _ z => ZX.step ?_ z) k
  unfold zstep
  simp only [hd, h1, h2, h3, h4, h5, h]
  rw [if_pos trivial]
/-- Math.max, Math.min -/
theorem w_mx {idx : Nat} {s' : List Value} (hd : decode cc pc = .ok (.invokestatic idx, 3)) (hcl : zcall own idx = some (5, 0)) (hcat : zcat s' ≤ 8) (k : ZW X d own ini ret cc Q (pc + 3, ml, .int (if x < y then y else x) :: s', M)) : ZW X d own ini ret cc Q (pc, ml, .int y :: .int x :: s', M) := by
  refine w_in hd rfl rfl rfl rfl rfl ?_ k
  simp only [zinv, hcl]
  rw [if_pos hcat]
theorem w_mn {idx : Nat} {s' : List Value} (hd : decode cc pc = .ok (.invokestatic idx, 3)) (hcl : zcall own idx = some (6, 0)) (hcat : zcat s' ≤ 8) (k : ZW X d own ini ret cc Q (pc + 3, ml, .int (if y < x then y else x) :: s', M)) : ZW X d own ini ret cc Q (pc, ml, .int y :: .int x :: s', M) := by
  refine w_in hd rfl rfl rfl rfl rfl ?_ k
  simp only [zinv, hcl]
  rw [if_pos hcat]
end ZWR
end
