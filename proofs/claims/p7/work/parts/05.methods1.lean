/-! the methods' rows are right, by program (wip/whole/mk04.py) -/
def zhas (pos : Nat) (w : Jvm.Cond) : Bool := decide (lw_tbl[pos]? = some w) && goodWord w
def zMHs : List String := ["java/lang/invoke/MethodHandle", "java/lang/invoke/VarHandle"]
def zmtC (t : zMt) : Bool := match t with
  | (ci, na, y, cc, ml, ret, pos) => decide (ci < 13) && decide (y.cls = zcn ci) && plainName y.cls && decide (y.cls ∉ zMHs) && decide ((parseMethodDescriptor y.desc).map (fun d => d.parameters.length) = some na) && decide (ml ≤ 20) && zhas pos (.code y cc ml ret)

theorem zmtC_mk {ci na ml pos : Nat} {y : MethodName} {cc : ByteArray} {ret : Option FieldType} (h : lw_tbl[pos]? = some (.code y cc ml ret)) (g : (decide (ci < 13) && decide (y.cls = zcn ci) && plainName y.cls && decide (y.cls ∉ zMHs) && decide ((parseMethodDescriptor y.desc).map (fun d => d.parameters.length) = some na) && decide (ml ≤ 20) && goodWord (.code y cc ml ret)) = true) : zmtC (ci, na, y, cc, ml, ret, pos) = true := by
  have e : zmtC (ci, na, y, cc, ml, ret, pos) = (decide (ci < 13) && decide (y.cls = zcn ci) && plainName y.cls && decide (y.cls ∉ zMHs) && decide ((parseMethodDescriptor y.desc).map (fun d => d.parameters.length) = some na) && decide (ml ≤ 20) && (decide (lw_tbl[pos]? = some (.code y cc ml ret)) && goodWord (.code y cc ml ret))) := rfl
  rw [e, decide_eq_true h, Bool.true_and]
  exact g
set_option maxRecDepth 1000000 in
theorem zk_0_0 : zmtC (0, 0, yX0_init, cX0_init, 2, none, 479) = true := zmtC_mk rfl (by decide +kernel)
set_option maxRecDepth 1000000 in
theorem zk_0_1 : zmtC (0, 0, yX0_forget, cX0_forget, 1, none, 833) = true := zmtC_mk rfl (by decide +kernel)
set_option maxRecDepth 1000000 in
theorem zk_0_2 : zmtC (0, 1, yX0_keep, cX0_keep, 3, none, 967) = true := zmtC_mk rfl (by decide +kernel)
set_option maxRecDepth 1000000 in
theorem zk_0_3 : zmtC (0, 1, yX0_takeBack, cX0_takeBack, 3, (some .boolean), 1071) = true := zmtC_mk rfl (by decide +kernel)
theorem zmt0_ok : ∀ t ∈ zmt0, zmtC t = true := List.forall_mem_cons.mpr ⟨zk_0_0, List.forall_mem_cons.mpr ⟨zk_0_1, List.forall_mem_cons.mpr ⟨zk_0_2, List.forall_mem_cons.mpr ⟨zk_0_3, fun _ h => absurd h List.not_mem_nil⟩⟩⟩⟩
set_option maxRecDepth 1000000 in
theorem zk_1_0 : zmtC (1, 0, yX1_init, cX1_init, 1, none, 163) = true := zmtC_mk rfl (by decide +kernel)
set_option maxRecDepth 1000000 in
theorem zk_1_1 : zmtC (1, 0, yX1_empty, cX1_empty, 1, none, 659) = true := zmtC_mk rfl (by decide +kernel)
set_option maxRecDepth 1000000 in
theorem zk_1_2 : zmtC (1, 1, yX1_isTaken, cX1_isTaken, 3, (some .boolean), 765) = true := zmtC_mk rfl (by decide +kernel)
set_option maxRecDepth 1000000 in
theorem zk_1_3 : zmtC (1, 1, yX1_isSnorer, cX1_isSnorer, 2, (some .boolean), 934) = true := zmtC_mk rfl (by decide +kernel)
set_option maxRecDepth 1000000 in
theorem zk_1_4 : zmtC (1, 1, yX1_isGhost, cX1_isGhost, 2, (some .boolean), 955) = true := zmtC_mk rfl (by decide +kernel)
theorem zmt1_ok : ∀ t ∈ zmt1, zmtC t = true := List.forall_mem_cons.mpr ⟨zk_1_0, List.forall_mem_cons.mpr ⟨zk_1_1, List.forall_mem_cons.mpr ⟨zk_1_2, List.forall_mem_cons.mpr ⟨zk_1_3, List.forall_mem_cons.mpr ⟨zk_1_4, fun _ h => absurd h List.not_mem_nil⟩⟩⟩⟩⟩
set_option maxRecDepth 1000000 in
theorem zk_2_0 : zmtC (2, 0, yX2_init, cX2_init, 1, none, 169) = true := zmtC_mk rfl (by decide +kernel)
set_option maxRecDepth 1000000 in
theorem zk_2_1 : zmtC (2, 0, yX2_empty, cX2_empty, 1, none, 666) = true := zmtC_mk rfl (by decide +kernel)
set_option maxRecDepth 1000000 in
theorem zk_2_2 : zmtC (2, 1, yX2_beginSum, cX2_beginSum, 2, none, 793) = true := zmtC_mk rfl (by decide +kernel)
set_option maxRecDepth 1000000 in
theorem zk_2_3 : zmtC (2, 1, yX2_put, cX2_put, 2, none, 805) = true := zmtC_mk rfl (by decide +kernel)
set_option maxRecDepth 1000000 in
theorem zk_2_4 : zmtC (2, 0, yX2_beginTest, cX2_beginTest, 1, none, 813) = true := zmtC_mk rfl (by decide +kernel)
set_option maxRecDepth 1000000 in
theorem zk_2_5 : zmtC (2, 0, yX2_close, cX2_close, 1, none, 825) = true := zmtC_mk rfl (by decide +kernel)
set_option maxRecDepth 1000000 in
theorem zk_2_6 : zmtC (2, 3, yX2_first, cX2_first, 6, (some .int), 938) = true := zmtC_mk rfl (by decide +kernel)
set_option maxRecDepth 1000000 in
theorem zk_2_7 : zmtC (2, 2, yX2_run, cX2_run, 6, (some .int), 942) = true := zmtC_mk rfl (by decide +kernel)
set_option maxRecDepth 1000000 in
theorem zk_2_8 : zmtC (2, 3, yX2_joined, cX2_joined, 6, (some .int), 945) = true := zmtC_mk rfl (by decide +kernel)
theorem zmt2_ok : ∀ t ∈ zmt2, zmtC t = true := List.forall_mem_cons.mpr ⟨zk_2_0, List.forall_mem_cons.mpr ⟨zk_2_1, List.forall_mem_cons.mpr ⟨zk_2_2, List.forall_mem_cons.mpr ⟨zk_2_3, List.forall_mem_cons.mpr ⟨zk_2_4, List.forall_mem_cons.mpr ⟨zk_2_5, List.forall_mem_cons.mpr ⟨zk_2_6, List.forall_mem_cons.mpr ⟨zk_2_7, List.forall_mem_cons.mpr ⟨zk_2_8, fun _ h => absurd h List.not_mem_nil⟩⟩⟩⟩⟩⟩⟩⟩⟩
set_option maxRecDepth 1000000 in
theorem zk_3_0 : zmtC (3, 0, yX3_init, cX3_init, 1, none, 499) = true := zmtC_mk rfl (by decide +kernel)
set_option maxRecDepth 1000000 in
theorem zk_3_1 : zmtC (3, 2, yX3_minute, cX3_minute, 6, none, 983) = true := zmtC_mk rfl (by decide +kernel)
set_option maxRecDepth 1000000 in
theorem zk_3_2 : zmtC (3, 3, yX3_canBegin, cX3_canBegin, 4, (some .boolean), 987) = true := zmtC_mk rfl (by decide +kernel)
set_option maxRecDepth 1000000 in
theorem zk_3_3 : zmtC (3, 5, yX3_begins, cX3_begins, 12, (some .int), 992) = true := zmtC_mk rfl (by decide +kernel)
set_option maxRecDepth 1000000 in
theorem zk_3_4 : zmtC (3, 1, yX3_draw, cX3_draw, 2, (some .int), 1029) = true := zmtC_mk rfl (by decide +kernel)
set_option maxRecDepth 1000000 in
theorem zk_3_5 : zmtC (3, 1, yX3_drawnDream, cX3_drawnDream, 6, (some .int), 1036) = true := zmtC_mk rfl (by decide +kernel)
theorem zmt3_ok : ∀ t ∈ zmt3, zmtC t = true := List.forall_mem_cons.mpr ⟨zk_3_0, List.forall_mem_cons.mpr ⟨zk_3_1, List.forall_mem_cons.mpr ⟨zk_3_2, List.forall_mem_cons.mpr ⟨zk_3_3, List.forall_mem_cons.mpr ⟨zk_3_4, List.forall_mem_cons.mpr ⟨zk_3_5, fun _ h => absurd h List.not_mem_nil⟩⟩⟩⟩⟩⟩
set_option maxRecDepth 1000000 in
theorem zk_4_0 : zmtC (4, 0, yX4_init, cX4_init, 1, none, 533) = true := zmtC_mk rfl (by decide +kernel)
set_option maxRecDepth 1000000 in
theorem zk_4_1 : zmtC (4, 2, yX4_badAsItIs, cX4_badAsItIs, 3, (some .int), 1096) = true := zmtC_mk rfl (by decide +kernel)
set_option maxRecDepth 1000000 in
theorem zk_4_2 : zmtC (4, 2, yX4_begin, cX4_begin, 3, none, 1100) = true := zmtC_mk rfl (by decide +kernel)
set_option maxRecDepth 1000000 in
theorem zk_4_3 : zmtC (4, 1, yX4_badness, cX4_badness, 7, (some .int), 1107) = true := zmtC_mk rfl (by decide +kernel)
set_option maxRecDepth 1000000 in
theorem zk_4_4 : zmtC (4, 3, yX4_findBest, cX4_findBest, 6, none, 1118) = true := zmtC_mk rfl (by decide +kernel)
set_option maxRecDepth 1000000 in
theorem zk_4_5 : zmtC (4, 2, yX4_nextOrder, cX4_nextOrder, 7, (some .boolean), 1121) = true := zmtC_mk rfl (by decide +kernel)
set_option maxRecDepth 1000000 in
theorem zk_4_6 : zmtC (4, 3, yX4_findExchanges, cX4_findExchanges, 11, none, 1129) = true := zmtC_mk rfl (by decide +kernel)
set_option maxRecDepth 1000000 in
theorem zk_4_7 : zmtC (4, 3, yX4_findTwo, cX4_findTwo, 8, none, 1144) = true := zmtC_mk rfl (by decide +kernel)
theorem zmt4_ok : ∀ t ∈ zmt4, zmtC t = true := List.forall_mem_cons.mpr ⟨zk_4_0, List.forall_mem_cons.mpr ⟨zk_4_1, List.forall_mem_cons.mpr ⟨zk_4_2, List.forall_mem_cons.mpr ⟨zk_4_3, List.forall_mem_cons.mpr ⟨zk_4_4, List.forall_mem_cons.mpr ⟨zk_4_5, List.forall_mem_cons.mpr ⟨zk_4_6, List.forall_mem_cons.mpr ⟨zk_4_7, fun _ h => absurd h List.not_mem_nil⟩⟩⟩⟩⟩⟩⟩⟩
set_option maxRecDepth 1000000 in
theorem zk_5_0 : zmtC (5, 0, yX5_init, cX5_init, 5, none, 157) = true := zmtC_mk rfl (by decide +kernel)
set_option maxRecDepth 1000000 in
theorem zk_5_1 : zmtC (5, 2, yX5_read, cX5_read, 5, (some .boolean), 655) = true := zmtC_mk rfl (by decide +kernel)
set_option maxRecDepth 1000000 in
theorem zk_5_2 : zmtC (5, 2, yX5_scan, cX5_scan, 9, none, 670) = true := zmtC_mk rfl (by decide +kernel)
set_option maxRecDepth 1000000 in
theorem zk_5_3 : zmtC (5, 1, yX5_kindOf, cX5_kindOf, 1, (some .int), 673) = true := zmtC_mk rfl (by decide +kernel)
set_option maxRecDepth 1000000 in
theorem zk_5_4 : zmtC (5, 3, yX5_lengthen, cX5_lengthen, 6, (some .boolean), 737) = true := zmtC_mk rfl (by decide +kernel)
set_option maxRecDepth 1000000 in
theorem zk_5_5 : zmtC (5, 3, yX5_add, cX5_add, 4, none, 741) = true := zmtC_mk rfl (by decide +kernel)
set_option maxRecDepth 1000000 in
theorem zk_5_6 : zmtC (5, 1, yX5_fails, cX5_fails, 3, (some .boolean), 745) = true := zmtC_mk rfl (by decide +kernel)
set_option maxRecDepth 1000000 in
theorem zk_5_7 : zmtC (5, 0, yX5_own, cX5_own, 2, (some .int), 749) = true := zmtC_mk rfl (by decide +kernel)
set_option maxRecDepth 1000000 in
theorem zk_5_8 : zmtC (5, 0, yX5_readBoy, cX5_readBoy, 2, (some .boolean), 753) = true := zmtC_mk rfl (by decide +kernel)
set_option maxRecDepth 1000000 in
theorem zk_5_9 : zmtC (5, 0, yX5_step, cX5_step, 1, none, 757) = true := zmtC_mk rfl (by decide +kernel)
set_option maxRecDepth 1000000 in
theorem zk_5_10 : zmtC (5, 0, yX5_needsName, cX5_needsName, 1, (some .boolean), 761) = true := zmtC_mk rfl (by decide +kernel)
set_option maxRecDepth 1000000 in
theorem zk_5_11 : zmtC (5, 1, yX5_needsOwn, cX5_needsOwn, 2, (some .boolean), 769) = true := zmtC_mk rfl (by decide +kernel)
set_option maxRecDepth 1000000 in
theorem zk_5_12 : zmtC (5, 2, yX5_needsNumber, cX5_needsNumber, 3, (some .boolean), 773) = true := zmtC_mk rfl (by decide +kernel)
set_option maxRecDepth 1000000 in
theorem zk_5_13 : zmtC (5, 1, yX5_readMarks, cX5_readMarks, 5, (some .boolean), 777) = true := zmtC_mk rfl (by decide +kernel)
set_option maxRecDepth 1000000 in
theorem zk_5_14 : zmtC (5, 0, yX5_readSlack, cX5_readSlack, 2, (some .boolean), 781) = true := zmtC_mk rfl (by decide +kernel)
set_option maxRecDepth 1000000 in
theorem zk_5_15 : zmtC (5, 0, yX5_readDream, cX5_readDream, 2, (some .boolean), 785) = true := zmtC_mk rfl (by decide +kernel)
set_option maxRecDepth 1000000 in
theorem zk_5_16 : zmtC (5, 1, yX5_readLaw, cX5_readLaw, 2, (some .boolean), 789) = true := zmtC_mk rfl (by decide +kernel)
set_option maxRecDepth 1000000 in
theorem zk_5_17 : zmtC (5, 1, yX5_readSum, cX5_readSum, 6, (some .boolean), 797) = true := zmtC_mk rfl (by decide +kernel)
set_option maxRecDepth 1000000 in
theorem zk_5_18 : zmtC (5, 1, yX5_readPart, cX5_readPart, 4, (some .boolean), 801) = true := zmtC_mk rfl (by decide +kernel)
set_option maxRecDepth 1000000 in
theorem zk_5_19 : zmtC (5, 1, yX5_isSign, cX5_isSign, 2, (some .boolean), 809) = true := zmtC_mk rfl (by decide +kernel)
set_option maxRecDepth 1000000 in
theorem zk_5_20 : zmtC (5, 1, yX5_readTest, cX5_readTest, 4, (some .boolean), 817) = true := zmtC_mk rfl (by decide +kernel)
set_option maxRecDepth 1000000 in
theorem zk_5_21 : zmtC (5, 1, yX5_readFact, cX5_readFact, 4, (some .boolean), 821) = true := zmtC_mk rfl (by decide +kernel)
theorem zmt5_ok : ∀ t ∈ zmt5, zmtC t = true := List.forall_mem_cons.mpr ⟨zk_5_0, List.forall_mem_cons.mpr ⟨zk_5_1, List.forall_mem_cons.mpr ⟨zk_5_2, List.forall_mem_cons.mpr ⟨zk_5_3, List.forall_mem_cons.mpr ⟨zk_5_4, List.forall_mem_cons.mpr ⟨zk_5_5, List.forall_mem_cons.mpr ⟨zk_5_6, List.forall_mem_cons.mpr ⟨zk_5_7, List.forall_mem_cons.mpr ⟨zk_5_8, List.forall_mem_cons.mpr ⟨zk_5_9, List.forall_mem_cons.mpr ⟨zk_5_10, List.forall_mem_cons.mpr ⟨zk_5_11, List.forall_mem_cons.mpr ⟨zk_5_12, List.forall_mem_cons.mpr ⟨zk_5_13, List.forall_mem_cons.mpr ⟨zk_5_14, List.forall_mem_cons.mpr ⟨zk_5_15, List.forall_mem_cons.mpr ⟨zk_5_16, List.forall_mem_cons.mpr ⟨zk_5_17, List.forall_mem_cons.mpr ⟨zk_5_18, List.forall_mem_cons.mpr ⟨zk_5_19, List.forall_mem_cons.mpr ⟨zk_5_20, List.forall_mem_cons.mpr ⟨zk_5_21, fun _ h => absurd h List.not_mem_nil⟩⟩⟩⟩⟩⟩⟩⟩⟩⟩⟩⟩⟩⟩⟩⟩⟩⟩⟩⟩⟩⟩
set_option maxRecDepth 1000000 in
theorem zk_6_0 : zmtC (6, 0, yX6_init, cX6_init, 1, none, 393) = true := zmtC_mk rfl (by decide +kernel)
set_option maxRecDepth 1000000 in
theorem zk_6_1 : zmtC (6, 1, yX6_begin, cX6_begin, 3, none, 829) = true := zmtC_mk rfl (by decide +kernel)
set_option maxRecDepth 1000000 in
theorem zk_6_2 : zmtC (6, 0, yX6_awake, cX6_awake, 3, (some .int), 849) = true := zmtC_mk rfl (by decide +kernel)
set_option maxRecDepth 1000000 in
theorem zk_6_3 : zmtC (6, 0, yX6_told, cX6_told, 1, (some .int), 861) = true := zmtC_mk rfl (by decide +kernel)
set_option maxRecDepth 1000000 in
theorem zk_6_4 : zmtC (6, 1, yX6_placeOf, cX6_placeOf, 3, (some .int), 885) = true := zmtC_mk rfl (by decide +kernel)
set_option maxRecDepth 1000000 in
theorem zk_6_5 : zmtC (6, 1, yX6_toldTug, cX6_toldTug, 2, (some .int), 918) = true := zmtC_mk rfl (by decide +kernel)
set_option maxRecDepth 1000000 in
theorem zk_6_6 : zmtC (6, 1, yX6_take, cX6_take, 2, none, 971) = true := zmtC_mk rfl (by decide +kernel)
set_option maxRecDepth 1000000 in
theorem zk_6_7 : zmtC (6, 1, yX6_takeKnots, cX6_takeKnots, 2, none, 978) = true := zmtC_mk rfl (by decide +kernel)
set_option maxRecDepth 1000000 in
theorem zk_6_8 : zmtC (6, 4, yX6_tell, cX6_tell, 5, none, 996) = true := zmtC_mk rfl (by decide +kernel)
set_option maxRecDepth 1000000 in
theorem zk_6_9 : zmtC (6, 2, yX6_feelsForce, cX6_feelsForce, 3, none, 1013) = true := zmtC_mk rfl (by decide +kernel)
set_option maxRecDepth 1000000 in
theorem zk_6_10 : zmtC (6, 1, yX6_getsUp, cX6_getsUp, 2, none, 1019) = true := zmtC_mk rfl (by decide +kernel)
set_option maxRecDepth 1000000 in
theorem zk_6_11 : zmtC (6, 2, yX6_change, cX6_change, 4, none, 1063) = true := zmtC_mk rfl (by decide +kernel)
theorem zmt6_ok : ∀ t ∈ zmt6, zmtC t = true := List.forall_mem_cons.mpr ⟨zk_6_0, List.forall_mem_cons.mpr ⟨zk_6_1, List.forall_mem_cons.mpr ⟨zk_6_2, List.forall_mem_cons.mpr ⟨zk_6_3, List.forall_mem_cons.mpr ⟨zk_6_4, List.forall_mem_cons.mpr ⟨zk_6_5, List.forall_mem_cons.mpr ⟨zk_6_6, List.forall_mem_cons.mpr ⟨zk_6_7, List.forall_mem_cons.mpr ⟨zk_6_8, List.forall_mem_cons.mpr ⟨zk_6_9, List.forall_mem_cons.mpr ⟨zk_6_10, List.forall_mem_cons.mpr ⟨zk_6_11, fun _ h => absurd h List.not_mem_nil⟩⟩⟩⟩⟩⟩⟩⟩⟩⟩⟩⟩
set_option maxRecDepth 1000000 in
theorem zk_7_0 : zmtC (7, 0, yX7_init, cX7_init, 1, none, 505) = true := zmtC_mk rfl (by decide +kernel)
set_option maxRecDepth 1000000 in
theorem zk_7_1 : zmtC (7, 4, yX7_look, cX7_look, 8, none, 930) = true := zmtC_mk rfl (by decide +kernel)
set_option maxRecDepth 1000000 in
theorem zk_7_2 : zmtC (7, 4, yX7_goes, cX7_goes, 7, none, 1001) = true := zmtC_mk rfl (by decide +kernel)
set_option maxRecDepth 1000000 in
theorem zk_7_3 : zmtC (7, 4, yX7_passedOn, cX7_passedOn, 6, (some .int), 1006) = true := zmtC_mk rfl (by decide +kernel)
theorem zmt7_ok : ∀ t ∈ zmt7, zmtC t = true := List.forall_mem_cons.mpr ⟨zk_7_0, List.forall_mem_cons.mpr ⟨zk_7_1, List.forall_mem_cons.mpr ⟨zk_7_2, List.forall_mem_cons.mpr ⟨zk_7_3, fun _ h => absurd h List.not_mem_nil⟩⟩⟩⟩
set_option maxRecDepth 1000000 in
theorem zk_8_0 : zmtC (8, 0, yX8_init, cX8_init, 1, none, 149) = true := zmtC_mk rfl (by decide +kernel)
set_option maxRecDepth 1000000 in
theorem zk_8_1 : zmtC (8, 5, yX8_feed, cX8_feed, 6, (some .int), 635) = true := zmtC_mk rfl (by decide +kernel)
set_option maxRecDepth 1000000 in
theorem zk_8_2 : zmtC (8, 1, yX8_refuse, cX8_refuse, 2, none, 639) = true := zmtC_mk rfl (by decide +kernel)
set_option maxRecDepth 1000000 in
theorem zk_8_3 : zmtC (8, 1, yX8_putOnTape, cX8_putOnTape, 3, none, 643) = true := zmtC_mk rfl (by decide +kernel)
set_option maxRecDepth 1000000 in
theorem zk_8_4 : zmtC (8, 1, yX8_end, cX8_end, 2, (some .boolean), 647) = true := zmtC_mk rfl (by decide +kernel)
set_option maxRecDepth 1000000 in
theorem zk_8_5 : zmtC (8, 0, yX8_dorm, cX8_dorm, 3, (some .int), 651) = true := zmtC_mk rfl (by decide +kernel)
set_option maxRecDepth 1000000 in
theorem zk_8_6 : zmtC (8, 1, yX8_fault, cX8_fault, 2, (some .int), 837) = true := zmtC_mk rfl (by decide +kernel)
set_option maxRecDepth 1000000 in
theorem zk_8_7 : zmtC (8, 1, yX8_has, cX8_has, 2, (some .int), 841) = true := zmtC_mk rfl (by decide +kernel)
set_option maxRecDepth 1000000 in
theorem zk_8_8 : zmtC (8, 0, yX8_tiedKnots, cX8_tiedKnots, 3, (some .int), 845) = true := zmtC_mk rfl (by decide +kernel)
set_option maxRecDepth 1000000 in
theorem zk_8_9 : zmtC (8, 1, yX8_dreamers, cX8_dreamers, 5, (some .int), 853) = true := zmtC_mk rfl (by decide +kernel)
set_option maxRecDepth 1000000 in
theorem zk_8_10 : zmtC (8, 0, yX8_caughtOnes, cX8_caughtOnes, 3, (some .int), 857) = true := zmtC_mk rfl (by decide +kernel)
set_option maxRecDepth 1000000 in
theorem zk_8_11 : zmtC (8, 3, yX8_letter, cX8_letter, 4, (some .int), 866) = true := zmtC_mk rfl (by decide +kernel)
set_option maxRecDepth 1000000 in
theorem zk_8_12 : zmtC (8, 1, yX8_isBoy, cX8_isBoy, 2, (some .boolean), 870) = true := zmtC_mk rfl (by decide +kernel)
set_option maxRecDepth 1000000 in
theorem zk_8_13 : zmtC (8, 2, yX8_letterOf, cX8_letterOf, 2, (some .int), 873) = true := zmtC_mk rfl (by decide +kernel)
set_option maxRecDepth 1000000 in
theorem zk_8_14 : zmtC (8, 1, yX8_isDream, cX8_isDream, 2, (some .boolean), 877) = true := zmtC_mk rfl (by decide +kernel)
set_option maxRecDepth 1000000 in
theorem zk_8_15 : zmtC (8, 2, yX8_boy, cX8_boy, 3, (some .int), 881) = true := zmtC_mk rfl (by decide +kernel)
set_option maxRecDepth 1000000 in
theorem zk_8_16 : zmtC (8, 1, yX8_at, cX8_at, 2, (some .int), 889) = true := zmtC_mk rfl (by decide +kernel)
set_option maxRecDepth 1000000 in
theorem zk_8_17 : zmtC (8, 1, yX8_isPlace, cX8_isPlace, 2, (some .boolean), 893) = true := zmtC_mk rfl (by decide +kernel)
set_option maxRecDepth 1000000 in
theorem zk_8_18 : zmtC (8, 2, yX8_knot, cX8_knot, 3, (some .int), 897) = true := zmtC_mk rfl (by decide +kernel)
set_option maxRecDepth 1000000 in
theorem zk_8_19 : zmtC (8, 1, yX8_isKnot, cX8_isKnot, 2, (some .boolean), 901) = true := zmtC_mk rfl (by decide +kernel)
set_option maxRecDepth 1000000 in
theorem zk_8_20 : zmtC (8, 1, yX8_strain, cX8_strain, 7, (some .int), 905) = true := zmtC_mk rfl (by decide +kernel)
set_option maxRecDepth 1000000 in
theorem zk_8_21 : zmtC (8, 2, yX8_dream, cX8_dream, 3, (some .int), 910) = true := zmtC_mk rfl (by decide +kernel)
set_option maxRecDepth 1000000 in
theorem zk_8_22 : zmtC (8, 2, yX8_tug, cX8_tug, 4, (some .int), 914) = true := zmtC_mk rfl (by decide +kernel)
set_option maxRecDepth 1000000 in
theorem zk_8_23 : zmtC (8, 3, yX8_law, cX8_law, 5, (some .int), 923) = true := zmtC_mk rfl (by decide +kernel)
set_option maxRecDepth 1000000 in
theorem zk_8_24 : zmtC (8, 1, yX8_isForce, cX8_isForce, 1, (some .boolean), 926) = true := zmtC_mk rfl (by decide +kernel)
set_option maxRecDepth 1000000 in
theorem zk_8_25 : zmtC (8, 1, yX8_go, cX8_go, 4, (some .int), 959) = true := zmtC_mk rfl (by decide +kernel)
set_option maxRecDepth 1000000 in
theorem zk_8_26 : zmtC (8, 0, yX8_startAct, cX8_startAct, 1, none, 963) = true := zmtC_mk rfl (by decide +kernel)
set_option maxRecDepth 1000000 in
theorem zk_8_27 : zmtC (8, 2, yX8_dreams, cX8_dreams, 3, (some .int), 1040) = true := zmtC_mk rfl (by decide +kernel)
set_option maxRecDepth 1000000 in
theorem zk_8_28 : zmtC (8, 2, yX8_wake, cX8_wake, 3, (some .boolean), 1046) = true := zmtC_mk rfl (by decide +kernel)
set_option maxRecDepth 1000000 in
theorem zk_8_29 : zmtC (8, 2, yX8_tie, cX8_tie, 3, (some .boolean), 1051) = true := zmtC_mk rfl (by decide +kernel)
set_option maxRecDepth 1000000 in
theorem zk_8_30 : zmtC (8, 2, yX8_slack, cX8_slack, 4, (some .int), 1055) = true := zmtC_mk rfl (by decide +kernel)
set_option maxRecDepth 1000000 in
theorem zk_8_31 : zmtC (8, 2, yX8_swap, cX8_swap, 3, (some .boolean), 1059) = true := zmtC_mk rfl (by decide +kernel)
set_option maxRecDepth 1000000 in
theorem zk_8_32 : zmtC (8, 0, yX8_undo, cX8_undo, 1, (some .boolean), 1067) = true := zmtC_mk rfl (by decide +kernel)
set_option maxRecDepth 1000000 in
theorem zk_8_33 : zmtC (8, 1, yX8_seed, cX8_seed, 2, (some .boolean), 1075) = true := zmtC_mk rfl (by decide +kernel)
set_option maxRecDepth 1000000 in
theorem zk_8_34 : zmtC (8, 3, yX8_feels, cX8_feels, 4, (some .int), 1079) = true := zmtC_mk rfl (by decide +kernel)
set_option maxRecDepth 1000000 in
theorem zk_8_35 : zmtC (8, 2, yX8_wakes, cX8_wakes, 3, (some .int), 1084) = true := zmtC_mk rfl (by decide +kernel)
set_option maxRecDepth 1000000 in
theorem zk_8_36 : zmtC (8, 2, yX8_least, cX8_least, 5, (some .int), 1088) = true := zmtC_mk rfl (by decide +kernel)
set_option maxRecDepth 1000000 in
theorem zk_8_37 : zmtC (8, 0, yX8_bad, cX8_bad, 1, (some .int), 1092) = true := zmtC_mk rfl (by decide +kernel)
set_option maxRecDepth 1000000 in
theorem zk_8_38 : zmtC (8, 1, yX8_best, cX8_best, 2, (some .int), 1114) = true := zmtC_mk rfl (by decide +kernel)
set_option maxRecDepth 1000000 in
theorem zk_8_39 : zmtC (8, 1, yX8_exchange, cX8_exchange, 3, (some .int), 1125) = true := zmtC_mk rfl (by decide +kernel)
set_option maxRecDepth 1000000 in
theorem zk_8_40 : zmtC (8, 0, yX8_lay, cX8_lay, 1, (some .int), 1135) = true := zmtC_mk rfl (by decide +kernel)
set_option maxRecDepth 1000000 in
theorem zk_8_41 : zmtC (8, 1, yX8_two, cX8_two, 2, (some .int), 1140) = true := zmtC_mk rfl (by decide +kernel)
set_option maxRecDepth 1000000 in
theorem zk_8_42 : zmtC (8, 0, yX8_hear, cX8_hear, 3, (some .boolean), 1148) = true := zmtC_mk rfl (by decide +kernel)
set_option maxRecDepth 1000000 in
theorem zk_8_43 : zmtC (8, 1, yX8_pairOnTape, cX8_pairOnTape, 2, (some .int), 1152) = true := zmtC_mk rfl (by decide +kernel)
set_option maxRecDepth 1000000 in
theorem zk_8_44 : zmtC (8, 1, yX8_onTape, cX8_onTape, 2, (some .int), 1156) = true := zmtC_mk rfl (by decide +kernel)
set_option maxRecDepth 1000000 in
theorem zk_8_45 : zmtC (8, 2, yX8_pulled, cX8_pulled, 6, (some .int), 1160) = true := zmtC_mk rfl (by decide +kernel)
set_option maxRecDepth 1000000 in
theorem zk_8_46 : zmtC (8, 2, yX8_oddsOfHaving, cX8_oddsOfHaving, 4, (some .int), 1164) = true := zmtC_mk rfl (by decide +kernel)
set_option maxRecDepth 1000000 in
theorem zk_8_47 : zmtC (8, 2, yX8_cut, cX8_cut, 7, (some .int), 1168) = true := zmtC_mk rfl (by decide +kernel)
set_option maxRecDepth 1000000 in
theorem zk_8_48 : zmtC (8, 1, yX8_areTied, cX8_areTied, 3, (some .boolean), 1173) = true := zmtC_mk rfl (by decide +kernel)
set_option maxRecDepth 1000000 in
theorem zk_8_49 : zmtC (8, 2, yX8_inSet, cX8_inSet, 2, (some .boolean), 1176) = true := zmtC_mk rfl (by decide +kernel)
set_option maxRecDepth 1000000 in
theorem zk_8_50 : zmtC (8, 1, yX8_heaviestPiece, cX8_heaviestPiece, 6, (some .int), 1180) = true := zmtC_mk rfl (by decide +kernel)
set_option maxRecDepth 1000000 in
theorem zk_8_51 : zmtC (8, 2, yX8_knotOfSet, cX8_knotOfSet, 4, (some .int), 1183) = true := zmtC_mk rfl (by decide +kernel)
set_option maxRecDepth 1000000 in
theorem zk_8_52 : zmtC (8, 1, yX8_walk, cX8_walk, 2, (some .int), 1187) = true := zmtC_mk rfl (by decide +kernel)
set_option maxRecDepth 1000000 in
theorem zk_8_53 : zmtC (8, 2, yX8_takenBy, cX8_takenBy, 8, (some .int), 1191) = true := zmtC_mk rfl (by decide +kernel)
set_option maxRecDepth 1000000 in
theorem zk_8_54 : zmtC (8, 2, yX8_beds, cX8_beds, 8, (some .int), 1195) = true := zmtC_mk rfl (by decide +kernel)
set_option maxRecDepth 1000000 in
theorem zk_8_55 : zmtC (8, 3, yX8_nights, cX8_nights, 9, (some .int), 1199) = true := zmtC_mk rfl (by decide +kernel)
set_option maxRecDepth 1000000 in
theorem zk_8_56 : zmtC (8, 0, yX8_allAwake, cX8_allAwake, 2, (some .boolean), 1204) = true := zmtC_mk rfl (by decide +kernel)
set_option maxRecDepth 1000000 in
theorem zk_8_57 : zmtC (8, 0, yX8_image, cX8_image, 3, (some .int), 1208) = true := zmtC_mk rfl (by decide +kernel)
set_option maxRecDepth 1000000 in
theorem zk_8_58 : zmtC (8, 1, yX8_putPair, cX8_putPair, 2, none, 1212) = true := zmtC_mk rfl (by decide +kernel)
set_option maxRecDepth 1000000 in
theorem zk_8_59 : zmtC (8, 1, yX8_putOctet, cX8_putOctet, 2, none, 1216) = true := zmtC_mk rfl (by decide +kernel)
set_option maxRecDepth 1000000 in
theorem zk_8_60 : zmtC (8, 2, yX8_sealOf, cX8_sealOf, 4, (some .int), 1220) = true := zmtC_mk rfl (by decide +kernel)
set_option maxRecDepth 1000000 in
theorem zk_8_61 : zmtC (8, 1, yX8_octet, cX8_octet, 2, (some .int), 1224) = true := zmtC_mk rfl (by decide +kernel)
set_option maxRecDepth 1000000 in
theorem zk_8_62 : zmtC (8, 0, yX8_on, cX8_on, 5, (some .boolean), 1228) = true := zmtC_mk rfl (by decide +kernel)
set_option maxRecDepth 1000000 in
theorem zk_8_63 : zmtC (8, 1, yX8_isImage, cX8_isImage, 7, (some .boolean), 1232) = true := zmtC_mk rfl (by decide +kernel)
set_option maxRecDepth 1000000 in
theorem zk_8_64 : zmtC (8, 2, yX8_isImageOfBoy, cX8_isImageOfBoy, 8, (some .boolean), 1236) = true := zmtC_mk rfl (by decide +kernel)
set_option maxRecDepth 1000000 in
theorem zk_8_65 : zmtC (8, 1, yX8_status, cX8_status, 2, (some .int), 1240) = true := zmtC_mk rfl (by decide +kernel)
theorem zmt8_ok : ∀ t ∈ zmt8, zmtC t = true := List.forall_mem_cons.mpr ⟨zk_8_0, List.forall_mem_cons.mpr ⟨zk_8_1, List.forall_mem_cons.mpr ⟨zk_8_2, List.forall_mem_cons.mpr ⟨zk_8_3, List.forall_mem_cons.mpr ⟨zk_8_4, List.forall_mem_cons.mpr ⟨zk_8_5, List.forall_mem_cons.mpr ⟨zk_8_6, List.forall_mem_cons.mpr ⟨zk_8_7, List.forall_mem_cons.mpr ⟨zk_8_8, List.forall_mem_cons.mpr ⟨zk_8_9, List.forall_mem_cons.mpr ⟨zk_8_10, List.forall_mem_cons.mpr ⟨zk_8_11, List.forall_mem_cons.mpr ⟨zk_8_12, List.forall_mem_cons.mpr ⟨zk_8_13, List.forall_mem_cons.mpr ⟨zk_8_14, List.forall_mem_cons.mpr ⟨zk_8_15, List.forall_mem_cons.mpr ⟨zk_8_16, List.forall_mem_cons.mpr ⟨zk_8_17, List.forall_mem_cons.mpr ⟨zk_8_18, List.forall_mem_cons.mpr ⟨zk_8_19, List.forall_mem_cons.mpr ⟨zk_8_20, List.forall_mem_cons.mpr ⟨zk_8_21, List.forall_mem_cons.mpr ⟨zk_8_22, List.forall_mem_cons.mpr ⟨zk_8_23, List.forall_mem_cons.mpr ⟨zk_8_24, List.forall_mem_cons.mpr ⟨zk_8_25, List.forall_mem_cons.mpr ⟨zk_8_26, List.forall_mem_cons.mpr ⟨zk_8_27, List.forall_mem_cons.mpr ⟨zk_8_28, List.forall_mem_cons.mpr ⟨zk_8_29, List.forall_mem_cons.mpr ⟨zk_8_30, List.forall_mem_cons.mpr ⟨zk_8_31, List.forall_mem_cons.mpr ⟨zk_8_32, List.forall_mem_cons.mpr ⟨zk_8_33, List.forall_mem_cons.mpr ⟨zk_8_34, List.forall_mem_cons.mpr ⟨zk_8_35, List.forall_mem_cons.mpr ⟨zk_8_36, List.forall_mem_cons.mpr ⟨zk_8_37, List.forall_mem_cons.mpr ⟨zk_8_38, List.forall_mem_cons.mpr ⟨zk_8_39, List.forall_mem_cons.mpr ⟨zk_8_40, List.forall_mem_cons.mpr ⟨zk_8_41, List.forall_mem_cons.mpr ⟨zk_8_42, List.forall_mem_cons.mpr ⟨zk_8_43, List.forall_mem_cons.mpr ⟨zk_8_44, List.forall_mem_cons.mpr ⟨zk_8_45, List.forall_mem_cons.mpr ⟨zk_8_46, List.forall_mem_cons.mpr ⟨zk_8_47, List.forall_mem_cons.mpr ⟨zk_8_48, List.forall_mem_cons.mpr ⟨zk_8_49, List.forall_mem_cons.mpr ⟨zk_8_50, List.forall_mem_cons.mpr ⟨zk_8_51, List.forall_mem_cons.mpr ⟨zk_8_52, List.forall_mem_cons.mpr ⟨zk_8_53, List.forall_mem_cons.mpr ⟨zk_8_54, List.forall_mem_cons.mpr ⟨zk_8_55, List.forall_mem_cons.mpr ⟨zk_8_56, List.forall_mem_cons.mpr ⟨zk_8_57, List.forall_mem_cons.mpr ⟨zk_8_58, List.forall_mem_cons.mpr ⟨zk_8_59, List.forall_mem_cons.mpr ⟨zk_8_60, List.forall_mem_cons.mpr ⟨zk_8_61, List.forall_mem_cons.mpr ⟨zk_8_62, List.forall_mem_cons.mpr ⟨zk_8_63, List.forall_mem_cons.mpr ⟨zk_8_64, List.forall_mem_cons.mpr ⟨zk_8_65, fun _ h => absurd h List.not_mem_nil⟩⟩⟩⟩⟩⟩⟩⟩⟩⟩⟩⟩⟩⟩⟩⟩⟩⟩⟩⟩⟩⟩⟩⟩⟩⟩⟩⟩⟩⟩⟩⟩⟩⟩⟩⟩⟩⟩⟩⟩⟩⟩⟩⟩⟩⟩⟩⟩⟩⟩⟩⟩⟩⟩⟩⟩⟩⟩⟩⟩⟩⟩⟩⟩⟩⟩
set_option maxRecDepth 1000000 in
theorem zk_11_0 : zmtC (11, 1, yJ6_bitCount_0f7a4, cJ6_bitCount_0f7a4, 1, (some .int), 1022) = true := zmtC_mk rfl (by decide +kernel)
theorem zmt11_ok : ∀ t ∈ zmt11, zmtC t = true := List.forall_mem_cons.mpr ⟨zk_11_0, fun _ h => absurd h List.not_mem_nil⟩
set_option maxRecDepth 1000000 in
theorem zk_12_0 : zmtC (12, 2, yJ7_fill_53178, cJ7_fill_53178, 4, none, 662) = true := zmtC_mk rfl (by decide +kernel)
theorem zmt12_ok : ∀ t ∈ zmt12, zmtC t = true := List.forall_mem_cons.mpr ⟨zk_12_0, fun _ h => absurd h List.not_mem_nil⟩
