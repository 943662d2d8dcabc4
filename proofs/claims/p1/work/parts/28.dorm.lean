/-! the first call: dorm(), by rows (wip/p1/mk28.py) -/
section ZWR2
variable {X : List Int32} {d own : Nat} {ini : Bool} {ret : Option FieldType} {cc : ByteArray} {Q : zRes → Prop} {pc n : Nat} {i : Instr} {ml ml' : zML} {st st' : List Value} {M M' : zM} {x y c : Int32} {W : List (Nat × Nat)}
/-- bastore -/
theorem w_bs {a k nn : Nat} {s' : List Value} (hd : decode cc pc = .ok (.bastore, 1)) (hU : zU W M) (he : zS0[a]? = some (12, nn)) (hx : x.toInt = (k : Int)) (hk : k < nn) (hn : narrow .boolean (.int y) = .int y) (kk : ∀ M', zU ((a, k) :: W) M' → zvl M' a k = some (.int y) → (∀ a' k', (a ≠ a' ∨ k ≠ k') → zvl M' a' k' = zvl M a' k') → ZW X d own ini ret cc Q (pc + 1, ml, s', M')) : ZW X d own ini ret cc Q (pc, ml, .int y :: .int x :: .ref a :: s', M) := by
  obtain ⟨vs, h1, h2, h3⟩ := zSh_get hU.1 he
  have h4 := kk (zput M a k (.int y)) (zU_put hU he) (zvl_put hU.1 he hk) (fun a' k' h => zvl_ne h)
  rw [zput_eq h1] at h4
  refine w_me (n := 1) hd rfl rfl rfl rfl ?_ h4
  simp only [zmem, zast, h3, zidxI hx (by omega : k < vs.length), Option.map_some]
  rw [if_pos hn]
/-- baload -/
theorem w_ba {a k nn : Nat} {s' : List Value} {v : Value} (hd : decode cc pc = .ok (.baload, 1)) (hS : zSh M) (he : zS0[a]? = some (12, nn)) (hx : x.toInt = (k : Int)) (hv : zvl M a k = some v) (kk : ZW X d own ini ret cc Q (pc + 1, ml, v :: s', M)) : ZW X d own ini ret cc Q (pc, ml, .int x :: .ref a :: s', M) := by
  obtain ⟨vs, h1, h2, h3⟩ := zSh_get hS he
  rw [zvl_eq h1] at hv
  have hlt : k < vs.length := (List.getElem?_eq_some_iff.mp hv).1
  refine w_me (n := 1) hd rfl rfl rfl rfl ?_ kk
  simp only [zmem, zald, h3, zidxI hx hlt, hv, Option.map_some]
/-- arraylength -/
theorem w_al {a nn kind : Nat} {s' : List Value} (hd : decode cc pc = .ok (.arraylength, 1)) (hS : zSh M) (he : zS0[a]? = some (kind, nn)) (hc : nI nn = c) (hk : 10 ≤ kind ∧ kind < 14) (kk : ZW X d own ini ret cc Q (pc + 1, ml, .int c :: s', M)) : ZW X d own ini ret cc Q (pc, ml, .ref a :: s', M) := by
  obtain ⟨vs, h1, h2, h3⟩ := zSh_get hS he
  have hlt2 : a < M.length := (List.getElem?_eq_some_iff.mp h1).1
  have hb : a ≠ zBig := by
    have h4 : M.length = 440 := zSh_len hS
    unfold zBig
    omega
  refine w_me (n := 1) hd rfl rfl rfl rfl ?_ kk
  simp only [zmem, h1]
  rw [if_neg hb, if_pos hk, h2, hc]
end ZWR2
theorem zt_21 : (21 : Int32).toInt = 21 := by decide
theorem zt_22 : (22 : Int32).toInt = 22 := by decide
theorem zt_90 : (90 : Int32).toInt = 90 := by decide
theorem dJ7_fill_53178_0 : decode cJ7_fill_53178 0 = .ok (.iconst 0, 1) := by decide +kernel
theorem dJ7_fill_53178_1 : decode cJ7_fill_53178 1 = .ok (.istore_n 2, 1) := by decide +kernel
theorem dJ7_fill_53178_2 : decode cJ7_fill_53178 2 = .ok (.aload_n 0, 1) := by decide +kernel
theorem dJ7_fill_53178_3 : decode cJ7_fill_53178 3 = .ok (.arraylength, 1) := by decide +kernel
theorem dJ7_fill_53178_4 : decode cJ7_fill_53178 4 = .ok (.istore_n 3, 1) := by decide +kernel
theorem dJ7_fill_53178_5 : decode cJ7_fill_53178 5 = .ok (.iload_n 2, 1) := by decide +kernel
theorem dJ7_fill_53178_6 : decode cJ7_fill_53178 6 = .ok (.iload_n 3, 1) := by decide +kernel
theorem dJ7_fill_53178_7 : decode cJ7_fill_53178 7 = .ok (.if_icmp .ge 13, 3) := by decide +kernel
theorem dJ7_fill_53178_10 : decode cJ7_fill_53178 10 = .ok (.aload_n 0, 1) := by decide +kernel
theorem dJ7_fill_53178_11 : decode cJ7_fill_53178 11 = .ok (.iload_n 2, 1) := by decide +kernel
theorem dJ7_fill_53178_12 : decode cJ7_fill_53178 12 = .ok (.iload_n 1, 1) := by decide +kernel
theorem dJ7_fill_53178_13 : decode cJ7_fill_53178 13 = .ok (.iastore, 1) := by decide +kernel
theorem dJ7_fill_53178_14 : decode cJ7_fill_53178 14 = .ok (.iinc 2 1, 3) := by decide +kernel
theorem dJ7_fill_53178_17 : decode cJ7_fill_53178 17 = .ok (.goto (-12), 3) := by decide +kernel
theorem dJ7_fill_53178_20 : decode cJ7_fill_53178 20 = .ok (.return_, 1) := by decide +kernel
theorem dX0_forget_0 : decode cX0_forget 0 = .ok (.aload_n 0, 1) := by decide +kernel
theorem dX0_forget_1 : decode cX0_forget 1 = .ok (.iconst 0, 1) := by decide +kernel
theorem dX0_forget_2 : decode cX0_forget 2 = .ok (.putfield 18, 3) := by decide +kernel
theorem dX0_forget_5 : decode cX0_forget 5 = .ok (.return_, 1) := by decide +kernel
theorem dX1_empty_0 : decode cX1_empty 0 = .ok (.aload_n 0, 1) := by decide +kernel
theorem dX1_empty_1 : decode cX1_empty 1 = .ok (.iconst 0, 1) := by decide +kernel
theorem dX1_empty_2 : decode cX1_empty 2 = .ok (.putfield 55, 3) := by decide +kernel
theorem dX1_empty_5 : decode cX1_empty 5 = .ok (.aload_n 0, 1) := by decide +kernel
theorem dX1_empty_6 : decode cX1_empty 6 = .ok (.iconst 0, 1) := by decide +kernel
theorem dX1_empty_7 : decode cX1_empty 7 = .ok (.putfield 59, 3) := by decide +kernel
theorem dX1_empty_10 : decode cX1_empty 10 = .ok (.aload_n 0, 1) := by decide +kernel
theorem dX1_empty_11 : decode cX1_empty 11 = .ok (.iconst 0, 1) := by decide +kernel
theorem dX1_empty_12 : decode cX1_empty 12 = .ok (.putfield 62, 3) := by decide +kernel
theorem dX1_empty_15 : decode cX1_empty 15 = .ok (.aload_n 0, 1) := by decide +kernel
theorem dX1_empty_16 : decode cX1_empty 16 = .ok (.getfield 45, 3) := by decide +kernel
theorem dX1_empty_19 : decode cX1_empty 19 = .ok (.iconst 0, 1) := by decide +kernel
theorem dX1_empty_20 : decode cX1_empty 20 = .ok (.invokestatic 65, 3) := by decide +kernel
theorem dX1_empty_23 : decode cX1_empty 23 = .ok (.aload_n 0, 1) := by decide +kernel
theorem dX1_empty_24 : decode cX1_empty 24 = .ok (.getfield 51, 3) := by decide +kernel
theorem dX1_empty_27 : decode cX1_empty 27 = .ok (.invokevirtual 71, 3) := by decide +kernel
theorem dX1_empty_30 : decode cX1_empty 30 = .ok (.return_, 1) := by decide +kernel
theorem dX2_empty_0 : decode cX2_empty 0 = .ok (.aload_n 0, 1) := by decide +kernel
theorem dX2_empty_1 : decode cX2_empty 1 = .ok (.iconst 0, 1) := by decide +kernel
theorem dX2_empty_2 : decode cX2_empty 2 = .ok (.putfield 34, 3) := by decide +kernel
theorem dX2_empty_5 : decode cX2_empty 5 = .ok (.aload_n 0, 1) := by decide +kernel
theorem dX2_empty_6 : decode cX2_empty 6 = .ok (.iconst 0, 1) := by decide +kernel
theorem dX2_empty_7 : decode cX2_empty 7 = .ok (.putfield 38, 3) := by decide +kernel
theorem dX2_empty_10 : decode cX2_empty 10 = .ok (.return_, 1) := by decide +kernel
theorem dX5_add_0 : decode cX5_add 0 = .ok (.aload_n 0, 1) := by decide +kernel
theorem dX5_add_1 : decode cX5_add 1 = .ok (.getfield 91, 3) := by decide +kernel
theorem dX5_add_4 : decode cX5_add 4 = .ok (.sipush 1600, 3) := by decide +kernel
theorem dX5_add_7 : decode cX5_add 7 = .ok (.if_icmp .gt 43, 3) := by decide +kernel
theorem dX5_add_10 : decode cX5_add 10 = .ok (.aload_n 0, 1) := by decide +kernel
theorem dX5_add_11 : decode cX5_add 11 = .ok (.getfield 19, 3) := by decide +kernel
theorem dX5_add_14 : decode cX5_add 14 = .ok (.aload_n 0, 1) := by decide +kernel
theorem dX5_add_15 : decode cX5_add 15 = .ok (.getfield 91, 3) := by decide +kernel
theorem dX5_add_18 : decode cX5_add 18 = .ok (.iload_n 1, 1) := by decide +kernel
theorem dX5_add_19 : decode cX5_add 19 = .ok (.iastore, 1) := by decide +kernel
theorem dX5_add_20 : decode cX5_add 20 = .ok (.aload_n 0, 1) := by decide +kernel
theorem dX5_add_21 : decode cX5_add 21 = .ok (.getfield 22, 3) := by decide +kernel
theorem dX5_add_24 : decode cX5_add 24 = .ok (.aload_n 0, 1) := by decide +kernel
theorem dX5_add_25 : decode cX5_add 25 = .ok (.getfield 91, 3) := by decide +kernel
theorem dX5_add_28 : decode cX5_add 28 = .ok (.iload_n 2, 1) := by decide +kernel
theorem dX5_add_29 : decode cX5_add 29 = .ok (.iastore, 1) := by decide +kernel
theorem dX5_add_30 : decode cX5_add 30 = .ok (.aload_n 0, 1) := by decide +kernel
theorem dX5_add_31 : decode cX5_add 31 = .ok (.getfield 25, 3) := by decide +kernel
theorem dX5_add_34 : decode cX5_add 34 = .ok (.aload_n 0, 1) := by decide +kernel
theorem dX5_add_35 : decode cX5_add 35 = .ok (.getfield 91, 3) := by decide +kernel
theorem dX5_add_38 : decode cX5_add 38 = .ok (.iload_n 3, 1) := by decide +kernel
theorem dX5_add_39 : decode cX5_add 39 = .ok (.iastore, 1) := by decide +kernel
theorem dX5_add_40 : decode cX5_add 40 = .ok (.aload_n 0, 1) := by decide +kernel
theorem dX5_add_41 : decode cX5_add 41 = .ok (.dup, 1) := by decide +kernel
theorem dX5_add_42 : decode cX5_add 42 = .ok (.getfield 91, 3) := by decide +kernel
theorem dX5_add_45 : decode cX5_add 45 = .ok (.iconst 1, 1) := by decide +kernel
theorem dX5_add_46 : decode cX5_add 46 = .ok (.iadd, 1) := by decide +kernel
theorem dX5_add_47 : decode cX5_add 47 = .ok (.putfield 91, 3) := by decide +kernel
theorem dX5_add_50 : decode cX5_add 50 = .ok (.return_, 1) := by decide +kernel
theorem dX5_read_0 : decode cX5_read 0 = .ok (.aload_n 0, 1) := by decide +kernel
theorem dX5_read_1 : decode cX5_read 1 = .ok (.getfield 31, 3) := by decide +kernel
theorem dX5_read_4 : decode cX5_read 4 = .ok (.invokevirtual 47, 3) := by decide +kernel
theorem dX5_read_7 : decode cX5_read 7 = .ok (.aload_n 0, 1) := by decide +kernel
theorem dX5_read_8 : decode cX5_read 8 = .ok (.iconst 0, 1) := by decide +kernel
theorem dX5_read_9 : decode cX5_read 9 = .ok (.putfield 50, 3) := by decide +kernel
theorem dX5_read_12 : decode cX5_read 12 = .ok (.aload_n 0, 1) := by decide +kernel
theorem dX5_read_13 : decode cX5_read 13 = .ok (.iconst (-1), 1) := by decide +kernel
theorem dX5_read_14 : decode cX5_read 14 = .ok (.putfield 9, 3) := by decide +kernel
theorem dX5_read_17 : decode cX5_read 17 = .ok (.aload_n 0, 1) := by decide +kernel
theorem dX5_read_18 : decode cX5_read 18 = .ok (.iconst 0, 1) := by decide +kernel
theorem dX5_read_19 : decode cX5_read 19 = .ok (.putfield 53, 3) := by decide +kernel
theorem dX5_read_22 : decode cX5_read 22 = .ok (.aload_n 0, 1) := by decide +kernel
theorem dX5_read_23 : decode cX5_read 23 = .ok (.aload_n 1, 1) := by decide +kernel
theorem dX5_read_24 : decode cX5_read 24 = .ok (.iload_n 2, 1) := by decide +kernel
theorem dX5_read_25 : decode cX5_read 25 = .ok (.invokevirtual 56, 3) := by decide +kernel
theorem dX5_read_28 : decode cX5_read 28 = .ok (.iconst 0, 1) := by decide +kernel
theorem dX5_read_29 : decode cX5_read 29 = .ok (.istore_n 3, 1) := by decide +kernel
theorem dX5_read_30 : decode cX5_read 30 = .ok (.iload_n 3, 1) := by decide +kernel
theorem dX5_read_31 : decode cX5_read 31 = .ok (.bipush 90, 2) := by decide +kernel
theorem dX5_read_33 : decode cX5_read 33 = .ok (.if_icmp .gt 193, 3) := by decide +kernel
theorem dX5_read_36 : decode cX5_read 36 = .ok (.aload_n 0, 1) := by decide +kernel
theorem dX5_read_37 : decode cX5_read 37 = .ok (.getfield 19, 3) := by decide +kernel
theorem dX5_read_40 : decode cX5_read 40 = .ok (.aload_n 0, 1) := by decide +kernel
theorem dX5_read_41 : decode cX5_read 41 = .ok (.getfield 53, 3) := by decide +kernel
theorem dX5_read_44 : decode cX5_read 44 = .ok (.iaload, 1) := by decide +kernel
theorem dX5_read_45 : decode cX5_read 45 = .ok (.ifCond .ne 13, 3) := by decide +kernel
theorem dX5_read_48 : decode cX5_read 48 = .ok (.aload_n 0, 1) := by decide +kernel
theorem dX5_read_49 : decode cX5_read 49 = .ok (.getfield 31, 3) := by decide +kernel
theorem dX5_read_52 : decode cX5_read 52 = .ok (.iload_n 3, 1) := by decide +kernel
theorem dX5_read_53 : decode cX5_read 53 = .ok (.putfield 60, 3) := by decide +kernel
theorem dX5_read_56 : decode cX5_read 56 = .ok (.iconst 1, 1) := by decide +kernel
theorem dX5_read_57 : decode cX5_read 57 = .ok (.ireturn, 1) := by decide +kernel
theorem dX5_scan_0 : decode cX5_scan 0 = .ok (.aload_n 0, 1) := by decide +kernel
theorem dX5_scan_1 : decode cX5_scan 1 = .ok (.iconst 0, 1) := by decide +kernel
theorem dX5_scan_2 : decode cX5_scan 2 = .ok (.putfield 91, 3) := by decide +kernel
theorem dX5_scan_5 : decode cX5_scan 5 = .ok (.iconst 0, 1) := by decide +kernel
theorem dX5_scan_6 : decode cX5_scan 6 = .ok (.istore_n 3, 1) := by decide +kernel
theorem dX5_scan_7 : decode cX5_scan 7 = .ok (.iconst 0, 1) := by decide +kernel
theorem dX5_scan_8 : decode cX5_scan 8 = .ok (.istore 4, 2) := by decide +kernel
theorem dX5_scan_10 : decode cX5_scan 10 = .ok (.iconst 0, 1) := by decide +kernel
theorem dX5_scan_11 : decode cX5_scan 11 = .ok (.istore 5, 2) := by decide +kernel
theorem dX5_scan_13 : decode cX5_scan 13 = .ok (.iload 5, 2) := by decide +kernel
theorem dX5_scan_15 : decode cX5_scan 15 = .ok (.iload_n 2, 1) := by decide +kernel
theorem dX5_scan_16 : decode cX5_scan 16 = .ok (.if_icmp .ge 161, 3) := by decide +kernel
theorem dX5_scan_177 : decode cX5_scan 177 = .ok (.aload_n 0, 1) := by decide +kernel
theorem dX5_scan_178 : decode cX5_scan 178 = .ok (.iconst 0, 1) := by decide +kernel
theorem dX5_scan_179 : decode cX5_scan 179 = .ok (.iload_n 2, 1) := by decide +kernel
theorem dX5_scan_180 : decode cX5_scan 180 = .ok (.iload_n 2, 1) := by decide +kernel
theorem dX5_scan_181 : decode cX5_scan 181 = .ok (.invokevirtual 102, 3) := by decide +kernel
theorem dX5_scan_184 : decode cX5_scan 184 = .ok (.return_, 1) := by decide +kernel
theorem dX6_begin_0 : decode cX6_begin 0 = .ok (.aload_n 0, 1) := by decide +kernel
theorem dX6_begin_1 : decode cX6_begin 1 = .ok (.aload_n 1, 1) := by decide +kernel
theorem dX6_begin_2 : decode cX6_begin 2 = .ok (.getfield 52, 3) := by decide +kernel
theorem dX6_begin_5 : decode cX6_begin 5 = .ok (.putfield 58, 3) := by decide +kernel
theorem dX6_begin_8 : decode cX6_begin 8 = .ok (.aload_n 0, 1) := by decide +kernel
theorem dX6_begin_9 : decode cX6_begin 9 = .ok (.iconst 0, 1) := by decide +kernel
theorem dX6_begin_10 : decode cX6_begin 10 = .ok (.putfield 61, 3) := by decide +kernel
theorem dX6_begin_13 : decode cX6_begin 13 = .ok (.aload_n 0, 1) := by decide +kernel
theorem dX6_begin_14 : decode cX6_begin 14 = .ok (.iconst 0, 1) := by decide +kernel
theorem dX6_begin_15 : decode cX6_begin 15 = .ok (.putfield 64, 3) := by decide +kernel
theorem dX6_begin_18 : decode cX6_begin 18 = .ok (.iconst 0, 1) := by decide +kernel
theorem dX6_begin_19 : decode cX6_begin 19 = .ok (.istore_n 2, 1) := by decide +kernel
theorem dX6_begin_20 : decode cX6_begin 20 = .ok (.iload_n 2, 1) := by decide +kernel
theorem dX6_begin_21 : decode cX6_begin 21 = .ok (.bipush 12, 2) := by decide +kernel
theorem dX6_begin_23 : decode cX6_begin 23 = .ok (.if_icmp .ge 79, 3) := by decide +kernel
theorem dX6_begin_26 : decode cX6_begin 26 = .ok (.aload_n 0, 1) := by decide +kernel
theorem dX6_begin_27 : decode cX6_begin 27 = .ok (.getfield 9, 3) := by decide +kernel
theorem dX6_begin_30 : decode cX6_begin 30 = .ok (.iload_n 2, 1) := by decide +kernel
theorem dX6_begin_31 : decode cX6_begin 31 = .ok (.iload_n 2, 1) := by decide +kernel
theorem dX6_begin_32 : decode cX6_begin 32 = .ok (.iastore, 1) := by decide +kernel
theorem dX6_begin_33 : decode cX6_begin 33 = .ok (.aload_n 0, 1) := by decide +kernel
theorem dX6_begin_34 : decode cX6_begin 34 = .ok (.getfield 15, 3) := by decide +kernel
theorem dX6_begin_37 : decode cX6_begin 37 = .ok (.iload_n 2, 1) := by decide +kernel
theorem dX6_begin_38 : decode cX6_begin 38 = .ok (.iconst 1, 1) := by decide +kernel
theorem dX6_begin_39 : decode cX6_begin 39 = .ok (.bastore, 1) := by decide +kernel
theorem dX6_begin_40 : decode cX6_begin 40 = .ok (.aload_n 0, 1) := by decide +kernel
theorem dX6_begin_41 : decode cX6_begin 41 = .ok (.getfield 19, 3) := by decide +kernel
theorem dX6_begin_44 : decode cX6_begin 44 = .ok (.iload_n 2, 1) := by decide +kernel
theorem dX6_begin_45 : decode cX6_begin 45 = .ok (.iconst (-1), 1) := by decide +kernel
theorem dX6_begin_46 : decode cX6_begin 46 = .ok (.iastore, 1) := by decide +kernel
theorem dX6_begin_47 : decode cX6_begin 47 = .ok (.aload_n 0, 1) := by decide +kernel
theorem dX6_begin_48 : decode cX6_begin 48 = .ok (.getfield 22, 3) := by decide +kernel
theorem dX6_begin_51 : decode cX6_begin 51 = .ok (.iload_n 2, 1) := by decide +kernel
theorem dX6_begin_52 : decode cX6_begin 52 = .ok (.iconst 0, 1) := by decide +kernel
theorem dX6_begin_53 : decode cX6_begin 53 = .ok (.iastore, 1) := by decide +kernel
theorem dX6_begin_54 : decode cX6_begin 54 = .ok (.aload_n 0, 1) := by decide +kernel
theorem dX6_begin_55 : decode cX6_begin 55 = .ok (.getfield 25, 3) := by decide +kernel
theorem dX6_begin_58 : decode cX6_begin 58 = .ok (.iload_n 2, 1) := by decide +kernel
theorem dX6_begin_59 : decode cX6_begin 59 = .ok (.iconst (-1), 1) := by decide +kernel
theorem dX6_begin_60 : decode cX6_begin 60 = .ok (.iastore, 1) := by decide +kernel
theorem dX6_begin_61 : decode cX6_begin 61 = .ok (.aload_n 0, 1) := by decide +kernel
theorem dX6_begin_62 : decode cX6_begin 62 = .ok (.getfield 28, 3) := by decide +kernel
theorem dX6_begin_65 : decode cX6_begin 65 = .ok (.iload_n 2, 1) := by decide +kernel
theorem dX6_begin_66 : decode cX6_begin 66 = .ok (.iconst 0, 1) := by decide +kernel
theorem dX6_begin_67 : decode cX6_begin 67 = .ok (.iastore, 1) := by decide +kernel
theorem dX6_begin_68 : decode cX6_begin 68 = .ok (.aload_n 0, 1) := by decide +kernel
theorem dX6_begin_69 : decode cX6_begin 69 = .ok (.getfield 31, 3) := by decide +kernel
theorem dX6_begin_72 : decode cX6_begin 72 = .ok (.iload_n 2, 1) := by decide +kernel
theorem dX6_begin_73 : decode cX6_begin 73 = .ok (.iconst (-1), 1) := by decide +kernel
theorem dX6_begin_74 : decode cX6_begin 74 = .ok (.iastore, 1) := by decide +kernel
theorem dX6_begin_75 : decode cX6_begin 75 = .ok (.aload_n 0, 1) := by decide +kernel
theorem dX6_begin_76 : decode cX6_begin 76 = .ok (.getfield 34, 3) := by decide +kernel
theorem dX6_begin_79 : decode cX6_begin 79 = .ok (.iload_n 2, 1) := by decide +kernel
theorem dX6_begin_80 : decode cX6_begin 80 = .ok (.iconst 0, 1) := by decide +kernel
theorem dX6_begin_81 : decode cX6_begin 81 = .ok (.iastore, 1) := by decide +kernel
theorem dX6_begin_82 : decode cX6_begin 82 = .ok (.aload_n 0, 1) := by decide +kernel
theorem dX6_begin_83 : decode cX6_begin 83 = .ok (.getfield 37, 3) := by decide +kernel
theorem dX6_begin_86 : decode cX6_begin 86 = .ok (.iload_n 2, 1) := by decide +kernel
theorem dX6_begin_87 : decode cX6_begin 87 = .ok (.iconst 0, 1) := by decide +kernel
theorem dX6_begin_88 : decode cX6_begin 88 = .ok (.iastore, 1) := by decide +kernel
theorem dX6_begin_89 : decode cX6_begin 89 = .ok (.aload_n 0, 1) := by decide +kernel
theorem dX6_begin_90 : decode cX6_begin 90 = .ok (.getfield 40, 3) := by decide +kernel
theorem dX6_begin_93 : decode cX6_begin 93 = .ok (.iload_n 2, 1) := by decide +kernel
theorem dX6_begin_94 : decode cX6_begin 94 = .ok (.iconst 0, 1) := by decide +kernel
theorem dX6_begin_95 : decode cX6_begin 95 = .ok (.iastore, 1) := by decide +kernel
theorem dX6_begin_96 : decode cX6_begin 96 = .ok (.iinc 2 1, 3) := by decide +kernel
theorem dX6_begin_99 : decode cX6_begin 99 = .ok (.goto (-79), 3) := by decide +kernel
theorem dX6_begin_102 : decode cX6_begin 102 = .ok (.iconst 0, 1) := by decide +kernel
theorem dX6_begin_103 : decode cX6_begin 103 = .ok (.istore_n 2, 1) := by decide +kernel
theorem dX6_begin_104 : decode cX6_begin 104 = .ok (.iload_n 2, 1) := by decide +kernel
theorem dX6_begin_105 : decode cX6_begin 105 = .ok (.bipush 11, 2) := by decide +kernel
theorem dX6_begin_107 : decode cX6_begin 107 = .ok (.if_icmp .ge 28, 3) := by decide +kernel
theorem dX6_begin_110 : decode cX6_begin 110 = .ok (.aload_n 0, 1) := by decide +kernel
theorem dX6_begin_111 : decode cX6_begin 111 = .ok (.getfield 43, 3) := by decide +kernel
theorem dX6_begin_114 : decode cX6_begin 114 = .ok (.iload_n 2, 1) := by decide +kernel
theorem dX6_begin_115 : decode cX6_begin 115 = .ok (.iconst 1, 1) := by decide +kernel
theorem dX6_begin_116 : decode cX6_begin 116 = .ok (.bastore, 1) := by decide +kernel
theorem dX6_begin_117 : decode cX6_begin 117 = .ok (.aload_n 0, 1) := by decide +kernel
theorem dX6_begin_118 : decode cX6_begin 118 = .ok (.getfield 46, 3) := by decide +kernel
theorem dX6_begin_121 : decode cX6_begin 121 = .ok (.iload_n 2, 1) := by decide +kernel
theorem dX6_begin_122 : decode cX6_begin 122 = .ok (.aload_n 1, 1) := by decide +kernel
theorem dX6_begin_123 : decode cX6_begin 123 = .ok (.getfield 67, 3) := by decide +kernel
theorem dX6_begin_126 : decode cX6_begin 126 = .ok (.iload_n 2, 1) := by decide +kernel
theorem dX6_begin_127 : decode cX6_begin 127 = .ok (.iaload, 1) := by decide +kernel
theorem dX6_begin_128 : decode cX6_begin 128 = .ok (.iastore, 1) := by decide +kernel
theorem dX6_begin_129 : decode cX6_begin 129 = .ok (.iinc 2 1, 3) := by decide +kernel
theorem dX6_begin_132 : decode cX6_begin 132 = .ok (.goto (-28), 3) := by decide +kernel
theorem dX6_begin_135 : decode cX6_begin 135 = .ok (.return_, 1) := by decide +kernel
theorem dX8_dorm_0 : decode cX8_dorm 0 = .ok (.aload_n 0, 1) := by decide +kernel
theorem dX8_dorm_1 : decode cX8_dorm 1 = .ok (.getfield 74, 3) := by decide +kernel
theorem dX8_dorm_4 : decode cX8_dorm 4 = .ok (.istore_n 1, 1) := by decide +kernel
theorem dX8_dorm_5 : decode cX8_dorm 5 = .ok (.aload_n 0, 1) := by decide +kernel
theorem dX8_dorm_6 : decode cX8_dorm 6 = .ok (.iconst 0, 1) := by decide +kernel
theorem dX8_dorm_7 : decode cX8_dorm 7 = .ok (.putfield 74, 3) := by decide +kernel
theorem dX8_dorm_10 : decode cX8_dorm 10 = .ok (.aload_n 0, 1) := by decide +kernel
theorem dX8_dorm_11 : decode cX8_dorm 11 = .ok (.getfield 16, 3) := by decide +kernel
theorem dX8_dorm_14 : decode cX8_dorm 14 = .ok (.aload_n 0, 1) := by decide +kernel
theorem dX8_dorm_15 : decode cX8_dorm 15 = .ok (.getfield 9, 3) := by decide +kernel
theorem dX8_dorm_18 : decode cX8_dorm 18 = .ok (.iload_n 1, 1) := by decide +kernel
theorem dX8_dorm_19 : decode cX8_dorm 19 = .ok (.invokevirtual 85, 3) := by decide +kernel
theorem dX8_dorm_22 : decode cX8_dorm 22 = .ok (.ifCond .ne 10, 3) := by decide +kernel
theorem dX8_dorm_32 : decode cX8_dorm 32 = .ok (.aload_n 0, 1) := by decide +kernel
theorem dX8_dorm_33 : decode cX8_dorm 33 = .ok (.getfield 23, 3) := by decide +kernel
theorem dX8_dorm_36 : decode cX8_dorm 36 = .ok (.astore_n 2, 1) := by decide +kernel
theorem dX8_dorm_37 : decode cX8_dorm 37 = .ok (.aload_n 0, 1) := by decide +kernel
theorem dX8_dorm_38 : decode cX8_dorm 38 = .ok (.aload_n 0, 1) := by decide +kernel
theorem dX8_dorm_39 : decode cX8_dorm 39 = .ok (.getfield 16, 3) := by decide +kernel
theorem dX8_dorm_42 : decode cX8_dorm 42 = .ok (.getfield 89, 3) := by decide +kernel
theorem dX8_dorm_45 : decode cX8_dorm 45 = .ok (.putfield 23, 3) := by decide +kernel
theorem dX8_dorm_48 : decode cX8_dorm 48 = .ok (.aload_n 0, 1) := by decide +kernel
theorem dX8_dorm_49 : decode cX8_dorm 49 = .ok (.getfield 16, 3) := by decide +kernel
theorem dX8_dorm_52 : decode cX8_dorm 52 = .ok (.aload_n 2, 1) := by decide +kernel
theorem dX8_dorm_53 : decode cX8_dorm 53 = .ok (.putfield 89, 3) := by decide +kernel
theorem dX8_dorm_56 : decode cX8_dorm 56 = .ok (.aload_n 0, 1) := by decide +kernel
theorem dX8_dorm_57 : decode cX8_dorm 57 = .ok (.getfield 30, 3) := by decide +kernel
theorem dX8_dorm_60 : decode cX8_dorm 60 = .ok (.aload_n 0, 1) := by decide +kernel
theorem dX8_dorm_61 : decode cX8_dorm 61 = .ok (.getfield 23, 3) := by decide +kernel
theorem dX8_dorm_64 : decode cX8_dorm 64 = .ok (.invokevirtual 90, 3) := by decide +kernel
theorem dX8_dorm_67 : decode cX8_dorm 67 = .ok (.aload_n 0, 1) := by decide +kernel
theorem dX8_dorm_68 : decode cX8_dorm 68 = .ok (.getfield 40, 3) := by decide +kernel
theorem dX8_dorm_71 : decode cX8_dorm 71 = .ok (.invokevirtual 94, 3) := by decide +kernel
theorem dX8_dorm_74 : decode cX8_dorm 74 = .ok (.aload_n 0, 1) := by decide +kernel
theorem dX8_dorm_75 : decode cX8_dorm 75 = .ok (.iconst 0, 1) := by decide +kernel
theorem dX8_dorm_76 : decode cX8_dorm 76 = .ok (.putfield 97, 3) := by decide +kernel
theorem dX8_dorm_79 : decode cX8_dorm 79 = .ok (.aload_n 0, 1) := by decide +kernel
theorem dX8_dorm_80 : decode cX8_dorm 80 = .ok (.dup, 1) := by decide +kernel
theorem dX8_dorm_81 : decode cX8_dorm 81 = .ok (.getfield 101, 3) := by decide +kernel
theorem dX8_dorm_84 : decode cX8_dorm 84 = .ok (.iconst 1, 1) := by decide +kernel
theorem dX8_dorm_85 : decode cX8_dorm 85 = .ok (.iadd, 1) := by decide +kernel
theorem dX8_dorm_86 : decode cX8_dorm 86 = .ok (.putfield 101, 3) := by decide +kernel
theorem dX8_dorm_89 : decode cX8_dorm 89 = .ok (.aload_n 0, 1) := by decide +kernel
theorem dX8_dorm_90 : decode cX8_dorm 90 = .ok (.getfield 23, 3) := by decide +kernel
theorem dX8_dorm_93 : decode cX8_dorm 93 = .ok (.getfield 104, 3) := by decide +kernel
theorem dX8_dorm_96 : decode cX8_dorm 96 = .ok (.ireturn, 1) := by decide +kernel
theorem dX9_ahead_0 : decode cX9_ahead 0 = .ok (.aload_n 0, 1) := by decide +kernel
theorem dX9_ahead_1 : decode cX9_ahead 1 = .ok (.getfield 26, 3) := by decide +kernel
theorem dX9_ahead_4 : decode cX9_ahead 4 = .ok (.istore_n 1, 1) := by decide +kernel
theorem dX9_ahead_5 : decode cX9_ahead 5 = .ok (.iload_n 1, 1) := by decide +kernel
theorem dX9_ahead_6 : decode cX9_ahead 6 = .ok (.aload_n 0, 1) := by decide +kernel
theorem dX9_ahead_7 : decode cX9_ahead 7 = .ok (.getfield 17, 3) := by decide +kernel
theorem dX9_ahead_10 : decode cX9_ahead 10 = .ok (.if_icmp .ge 31, 3) := by decide +kernel
theorem dX9_ahead_41 : decode cX9_ahead 41 = .ok (.aload_n 0, 1) := by decide +kernel
theorem dX9_ahead_42 : decode cX9_ahead 42 = .ok (.iload_n 1, 1) := by decide +kernel
theorem dX9_ahead_43 : decode cX9_ahead 43 = .ok (.putfield 23, 3) := by decide +kernel
theorem dX9_ahead_46 : decode cX9_ahead 46 = .ok (.aload_n 0, 1) := by decide +kernel
theorem dX9_ahead_47 : decode cX9_ahead 47 = .ok (.iload_n 1, 1) := by decide +kernel
theorem dX9_ahead_48 : decode cX9_ahead 48 = .ok (.putfield 26, 3) := by decide +kernel
theorem dX9_ahead_51 : decode cX9_ahead 51 = .ok (.aload_n 0, 1) := by decide +kernel
theorem dX9_ahead_52 : decode cX9_ahead 52 = .ok (.iconst 0, 1) := by decide +kernel
theorem dX9_ahead_53 : decode cX9_ahead 53 = .ok (.putfield 20, 3) := by decide +kernel
theorem dX9_ahead_56 : decode cX9_ahead 56 = .ok (.iload_n 1, 1) := by decide +kernel
theorem dX9_ahead_57 : decode cX9_ahead 57 = .ok (.aload_n 0, 1) := by decide +kernel
theorem dX9_ahead_58 : decode cX9_ahead 58 = .ok (.getfield 17, 3) := by decide +kernel
theorem dX9_ahead_61 : decode cX9_ahead 61 = .ok (.if_icmp .lt 4, 3) := by decide +kernel
theorem dX9_ahead_64 : decode cX9_ahead 64 = .ok (.return_, 1) := by decide +kernel
theorem dX9_begins_0 : decode cX9_begins 0 = .ok (.aload_n 0, 1) := by decide +kernel
theorem dX9_begins_1 : decode cX9_begins 1 = .ok (.getfield 162, 3) := by decide +kernel
theorem dX9_begins_4 : decode cX9_begins 4 = .ok (.iconst 0, 1) := by decide +kernel
theorem dX9_begins_5 : decode cX9_begins 5 = .ok (.iconst 0, 1) := by decide +kernel
theorem dX9_begins_6 : decode cX9_begins 6 = .ok (.iastore, 1) := by decide +kernel
theorem dX9_begins_7 : decode cX9_begins 7 = .ok (.aload_n 0, 1) := by decide +kernel
theorem dX9_begins_8 : decode cX9_begins 8 = .ok (.getfield 201, 3) := by decide +kernel
theorem dX9_begins_11 : decode cX9_begins 11 = .ok (.iconst 0, 1) := by decide +kernel
theorem dX9_begins_12 : decode cX9_begins 12 = .ok (.iconst 0, 1) := by decide +kernel
theorem dX9_begins_13 : decode cX9_begins 13 = .ok (.iastore, 1) := by decide +kernel
theorem dX9_begins_14 : decode cX9_begins 14 = .ok (.aload_n 0, 1) := by decide +kernel
theorem dX9_begins_15 : decode cX9_begins 15 = .ok (.iconst 0, 1) := by decide +kernel
theorem dX9_begins_16 : decode cX9_begins 16 = .ok (.putfield 210, 3) := by decide +kernel
theorem dX9_begins_19 : decode cX9_begins 19 = .ok (.aload_n 0, 1) := by decide +kernel
theorem dX9_begins_20 : decode cX9_begins 20 = .ok (.iconst 0, 1) := by decide +kernel
theorem dX9_begins_21 : decode cX9_begins 21 = .ok (.putfield 219, 3) := by decide +kernel
theorem dX9_begins_24 : decode cX9_begins 24 = .ok (.iconst 0, 1) := by decide +kernel
theorem dX9_begins_25 : decode cX9_begins 25 = .ok (.istore_n 1, 1) := by decide +kernel
theorem dX9_begins_26 : decode cX9_begins 26 = .ok (.iload_n 1, 1) := by decide +kernel
theorem dX9_begins_27 : decode cX9_begins 27 = .ok (.bipush 12, 2) := by decide +kernel
theorem dX9_begins_29 : decode cX9_begins 29 = .ok (.if_icmp .ge 35, 3) := by decide +kernel
theorem dX9_begins_32 : decode cX9_begins 32 = .ok (.aload_n 0, 1) := by decide +kernel
theorem dX9_begins_33 : decode cX9_begins 33 = .ok (.getfield 165, 3) := by decide +kernel
theorem dX9_begins_36 : decode cX9_begins 36 = .ok (.iload_n 1, 1) := by decide +kernel
theorem dX9_begins_37 : decode cX9_begins 37 = .ok (.iload_n 1, 1) := by decide +kernel
theorem dX9_begins_38 : decode cX9_begins 38 = .ok (.iastore, 1) := by decide +kernel
theorem dX9_begins_39 : decode cX9_begins 39 = .ok (.aload_n 0, 1) := by decide +kernel
theorem dX9_begins_40 : decode cX9_begins 40 = .ok (.getfield 168, 3) := by decide +kernel
theorem dX9_begins_43 : decode cX9_begins 43 = .ok (.iload_n 1, 1) := by decide +kernel
theorem dX9_begins_44 : decode cX9_begins 44 = .ok (.iconst 1, 1) := by decide +kernel
theorem dX9_begins_45 : decode cX9_begins 45 = .ok (.iastore, 1) := by decide +kernel
theorem dX9_begins_46 : decode cX9_begins 46 = .ok (.aload_n 0, 1) := by decide +kernel
theorem dX9_begins_47 : decode cX9_begins 47 = .ok (.getfield 186, 3) := by decide +kernel
theorem dX9_begins_50 : decode cX9_begins 50 = .ok (.iload_n 1, 1) := by decide +kernel
theorem dX9_begins_51 : decode cX9_begins 51 = .ok (.iconst 0, 1) := by decide +kernel
theorem dX9_begins_52 : decode cX9_begins 52 = .ok (.iastore, 1) := by decide +kernel
theorem dX9_begins_53 : decode cX9_begins 53 = .ok (.aload_n 0, 1) := by decide +kernel
theorem dX9_begins_54 : decode cX9_begins 54 = .ok (.iload_n 1, 1) := by decide +kernel
theorem dX9_begins_55 : decode cX9_begins 55 = .ok (.invokevirtual 442, 3) := by decide +kernel
theorem dX9_begins_58 : decode cX9_begins 58 = .ok (.iinc 1 1, 3) := by decide +kernel
theorem dX9_begins_61 : decode cX9_begins 61 = .ok (.goto (-35), 3) := by decide +kernel
theorem dX9_begins_64 : decode cX9_begins 64 = .ok (.iconst 0, 1) := by decide +kernel
theorem dX9_begins_65 : decode cX9_begins 65 = .ok (.istore_n 1, 1) := by decide +kernel
theorem dX9_begins_66 : decode cX9_begins 66 = .ok (.iload_n 1, 1) := by decide +kernel
theorem dX9_begins_67 : decode cX9_begins 67 = .ok (.bipush 11, 2) := by decide +kernel
theorem dX9_begins_69 : decode cX9_begins 69 = .ok (.if_icmp .ge 36, 3) := by decide +kernel
theorem dX9_begins_72 : decode cX9_begins 72 = .ok (.aload_n 0, 1) := by decide +kernel
theorem dX9_begins_73 : decode cX9_begins 73 = .ok (.getfield 195, 3) := by decide +kernel
theorem dX9_begins_76 : decode cX9_begins 76 = .ok (.iload_n 1, 1) := by decide +kernel
theorem dX9_begins_77 : decode cX9_begins 77 = .ok (.iconst 1, 1) := by decide +kernel
theorem dX9_begins_78 : decode cX9_begins 78 = .ok (.iastore, 1) := by decide +kernel
theorem dX9_begins_79 : decode cX9_begins 79 = .ok (.aload_n 0, 1) := by decide +kernel
theorem dX9_begins_80 : decode cX9_begins 80 = .ok (.getfield 198, 3) := by decide +kernel
theorem dX9_begins_83 : decode cX9_begins 83 = .ok (.iload_n 1, 1) := by decide +kernel
theorem dX9_begins_84 : decode cX9_begins 84 = .ok (.aload_n 0, 1) := by decide +kernel
theorem dX9_begins_85 : decode cX9_begins 85 = .ok (.getfield 73, 3) := by decide +kernel
theorem dX9_begins_88 : decode cX9_begins 88 = .ok (.bipush 11, 2) := by decide +kernel
theorem dX9_begins_90 : decode cX9_begins 90 = .ok (.aload_n 0, 1) := by decide +kernel
theorem dX9_begins_91 : decode cX9_begins 91 = .ok (.getfield 48, 3) := by decide +kernel
theorem dX9_begins_94 : decode cX9_begins 94 = .ok (.imul, 1) := by decide +kernel
theorem dX9_begins_95 : decode cX9_begins 95 = .ok (.iload_n 1, 1) := by decide +kernel
theorem dX9_begins_96 : decode cX9_begins 96 = .ok (.iadd, 1) := by decide +kernel
theorem dX9_begins_97 : decode cX9_begins 97 = .ok (.iaload, 1) := by decide +kernel
theorem dX9_begins_98 : decode cX9_begins 98 = .ok (.iastore, 1) := by decide +kernel
theorem dX9_begins_99 : decode cX9_begins 99 = .ok (.iinc 1 1, 3) := by decide +kernel
theorem dX9_begins_102 : decode cX9_begins 102 = .ok (.goto (-36), 3) := by decide +kernel
theorem dX9_begins_105 : decode cX9_begins 105 = .ok (.return_, 1) := by decide +kernel
theorem dX9_clears_0 : decode cX9_clears 0 = .ok (.aload_n 0, 1) := by decide +kernel
theorem dX9_clears_1 : decode cX9_clears 1 = .ok (.getfield 171, 3) := by decide +kernel
theorem dX9_clears_4 : decode cX9_clears 4 = .ok (.iload_n 1, 1) := by decide +kernel
theorem dX9_clears_5 : decode cX9_clears 5 = .ok (.iconst (-1), 1) := by decide +kernel
theorem dX9_clears_6 : decode cX9_clears 6 = .ok (.iastore, 1) := by decide +kernel
theorem dX9_clears_7 : decode cX9_clears 7 = .ok (.aload_n 0, 1) := by decide +kernel
theorem dX9_clears_8 : decode cX9_clears 8 = .ok (.getfield 174, 3) := by decide +kernel
theorem dX9_clears_11 : decode cX9_clears 11 = .ok (.iload_n 1, 1) := by decide +kernel
theorem dX9_clears_12 : decode cX9_clears 12 = .ok (.iconst 0, 1) := by decide +kernel
theorem dX9_clears_13 : decode cX9_clears 13 = .ok (.iastore, 1) := by decide +kernel
theorem dX9_clears_14 : decode cX9_clears 14 = .ok (.aload_n 0, 1) := by decide +kernel
theorem dX9_clears_15 : decode cX9_clears 15 = .ok (.getfield 177, 3) := by decide +kernel
theorem dX9_clears_18 : decode cX9_clears 18 = .ok (.iload_n 1, 1) := by decide +kernel
theorem dX9_clears_19 : decode cX9_clears 19 = .ok (.iconst (-1), 1) := by decide +kernel
theorem dX9_clears_20 : decode cX9_clears 20 = .ok (.iastore, 1) := by decide +kernel
theorem dX9_clears_21 : decode cX9_clears 21 = .ok (.aload_n 0, 1) := by decide +kernel
theorem dX9_clears_22 : decode cX9_clears 22 = .ok (.getfield 180, 3) := by decide +kernel
theorem dX9_clears_25 : decode cX9_clears 25 = .ok (.iload_n 1, 1) := by decide +kernel
theorem dX9_clears_26 : decode cX9_clears 26 = .ok (.iconst 0, 1) := by decide +kernel
theorem dX9_clears_27 : decode cX9_clears 27 = .ok (.iastore, 1) := by decide +kernel
theorem dX9_clears_28 : decode cX9_clears 28 = .ok (.aload_n 0, 1) := by decide +kernel
theorem dX9_clears_29 : decode cX9_clears 29 = .ok (.getfield 183, 3) := by decide +kernel
theorem dX9_clears_32 : decode cX9_clears 32 = .ok (.iload_n 1, 1) := by decide +kernel
theorem dX9_clears_33 : decode cX9_clears 33 = .ok (.iconst 0, 1) := by decide +kernel
theorem dX9_clears_34 : decode cX9_clears 34 = .ok (.iastore, 1) := by decide +kernel
theorem dX9_clears_35 : decode cX9_clears 35 = .ok (.aload_n 0, 1) := by decide +kernel
theorem dX9_clears_36 : decode cX9_clears 36 = .ok (.getfield 189, 3) := by decide +kernel
theorem dX9_clears_39 : decode cX9_clears 39 = .ok (.iload_n 1, 1) := by decide +kernel
theorem dX9_clears_40 : decode cX9_clears 40 = .ok (.iconst 0, 1) := by decide +kernel
theorem dX9_clears_41 : decode cX9_clears 41 = .ok (.iastore, 1) := by decide +kernel
theorem dX9_clears_42 : decode cX9_clears 42 = .ok (.aload_n 0, 1) := by decide +kernel
theorem dX9_clears_43 : decode cX9_clears 43 = .ok (.getfield 192, 3) := by decide +kernel
theorem dX9_clears_46 : decode cX9_clears 46 = .ok (.iload_n 1, 1) := by decide +kernel
theorem dX9_clears_47 : decode cX9_clears 47 = .ok (.iconst 0, 1) := by decide +kernel
theorem dX9_clears_48 : decode cX9_clears 48 = .ok (.iastore, 1) := by decide +kernel
theorem dX9_clears_49 : decode cX9_clears 49 = .ok (.return_, 1) := by decide +kernel
theorem dX9_dorm_0 : decode cX9_dorm 0 = .ok (.aload_n 0, 1) := by decide +kernel
theorem dX9_dorm_1 : decode cX9_dorm 1 = .ok (.aload_n 0, 1) := by decide +kernel
theorem dX9_dorm_2 : decode cX9_dorm 2 = .ok (.getfield 13, 3) := by decide +kernel
theorem dX9_dorm_5 : decode cX9_dorm 5 = .ok (.putfield 17, 3) := by decide +kernel
theorem dX9_dorm_8 : decode cX9_dorm 8 = .ok (.aload_n 0, 1) := by decide +kernel
theorem dX9_dorm_9 : decode cX9_dorm 9 = .ok (.iconst 0, 1) := by decide +kernel
theorem dX9_dorm_10 : decode cX9_dorm 10 = .ok (.putfield 13, 3) := by decide +kernel
theorem dX9_dorm_13 : decode cX9_dorm 13 = .ok (.aload_n 0, 1) := by decide +kernel
theorem dX9_dorm_14 : decode cX9_dorm 14 = .ok (.iconst 0, 1) := by decide +kernel
theorem dX9_dorm_15 : decode cX9_dorm 15 = .ok (.putfield 26, 3) := by decide +kernel
theorem dX9_dorm_18 : decode cX9_dorm 18 = .ok (.aload_n 0, 1) := by decide +kernel
theorem dX9_dorm_19 : decode cX9_dorm 19 = .ok (.iconst 0, 1) := by decide +kernel
theorem dX9_dorm_20 : decode cX9_dorm 20 = .ok (.putfield 36, 3) := by decide +kernel
theorem dX9_dorm_23 : decode cX9_dorm 23 = .ok (.aload_n 0, 1) := by decide +kernel
theorem dX9_dorm_24 : decode cX9_dorm 24 = .ok (.iconst (-1), 1) := by decide +kernel
theorem dX9_dorm_25 : decode cX9_dorm 25 = .ok (.putfield 39, 3) := by decide +kernel
theorem dX9_dorm_28 : decode cX9_dorm 28 = .ok (.aload_n 0, 1) := by decide +kernel
theorem dX9_dorm_29 : decode cX9_dorm 29 = .ok (.iconst 1, 1) := by decide +kernel
theorem dX9_dorm_30 : decode cX9_dorm 30 = .ok (.aload_n 0, 1) := by decide +kernel
theorem dX9_dorm_31 : decode cX9_dorm 31 = .ok (.getfield 48, 3) := by decide +kernel
theorem dX9_dorm_34 : decode cX9_dorm 34 = .ok (.isub, 1) := by decide +kernel
theorem dX9_dorm_35 : decode cX9_dorm 35 = .ok (.putfield 118, 3) := by decide +kernel
theorem dX9_dorm_38 : decode cX9_dorm 38 = .ok (.aload_n 0, 1) := by decide +kernel
theorem dX9_dorm_39 : decode cX9_dorm 39 = .ok (.getfield 51, 3) := by decide +kernel
theorem dX9_dorm_42 : decode cX9_dorm 42 = .ok (.aload_n 0, 1) := by decide +kernel
theorem dX9_dorm_43 : decode cX9_dorm 43 = .ok (.getfield 118, 3) := by decide +kernel
theorem dX9_dorm_46 : decode cX9_dorm 46 = .ok (.iconst 0, 1) := by decide +kernel
theorem dX9_dorm_47 : decode cX9_dorm 47 = .ok (.iastore, 1) := by decide +kernel
theorem dX9_dorm_48 : decode cX9_dorm 48 = .ok (.aload_n 0, 1) := by decide +kernel
theorem dX9_dorm_49 : decode cX9_dorm 49 = .ok (.getfield 76, 3) := by decide +kernel
theorem dX9_dorm_52 : decode cX9_dorm 52 = .ok (.aload_n 0, 1) := by decide +kernel
theorem dX9_dorm_53 : decode cX9_dorm 53 = .ok (.getfield 118, 3) := by decide +kernel
theorem dX9_dorm_56 : decode cX9_dorm 56 = .ok (.iconst 0, 1) := by decide +kernel
theorem dX9_dorm_57 : decode cX9_dorm 57 = .ok (.iastore, 1) := by decide +kernel
theorem dX9_dorm_58 : decode cX9_dorm 58 = .ok (.aload_n 0, 1) := by decide +kernel
theorem dX9_dorm_59 : decode cX9_dorm 59 = .ok (.getfield 94, 3) := by decide +kernel
theorem dX9_dorm_62 : decode cX9_dorm 62 = .ok (.aload_n 0, 1) := by decide +kernel
theorem dX9_dorm_63 : decode cX9_dorm 63 = .ok (.getfield 118, 3) := by decide +kernel
theorem dX9_dorm_66 : decode cX9_dorm 66 = .ok (.iconst 0, 1) := by decide +kernel
theorem dX9_dorm_67 : decode cX9_dorm 67 = .ok (.iastore, 1) := by decide +kernel
theorem dX9_dorm_68 : decode cX9_dorm 68 = .ok (.bipush 11, 2) := by decide +kernel
theorem dX9_dorm_70 : decode cX9_dorm 70 = .ok (.aload_n 0, 1) := by decide +kernel
theorem dX9_dorm_71 : decode cX9_dorm 71 = .ok (.getfield 118, 3) := by decide +kernel
theorem dX9_dorm_74 : decode cX9_dorm 74 = .ok (.imul, 1) := by decide +kernel
theorem dX9_dorm_75 : decode cX9_dorm 75 = .ok (.istore_n 1, 1) := by decide +kernel
theorem dX9_dorm_76 : decode cX9_dorm 76 = .ok (.iload_n 1, 1) := by decide +kernel
theorem dX9_dorm_77 : decode cX9_dorm 77 = .ok (.bipush 11, 2) := by decide +kernel
theorem dX9_dorm_79 : decode cX9_dorm 79 = .ok (.aload_n 0, 1) := by decide +kernel
theorem dX9_dorm_80 : decode cX9_dorm 80 = .ok (.getfield 118, 3) := by decide +kernel
theorem dX9_dorm_83 : decode cX9_dorm 83 = .ok (.imul, 1) := by decide +kernel
theorem dX9_dorm_84 : decode cX9_dorm 84 = .ok (.bipush 11, 2) := by decide +kernel
theorem dX9_dorm_86 : decode cX9_dorm 86 = .ok (.iadd, 1) := by decide +kernel
theorem dX9_dorm_87 : decode cX9_dorm 87 = .ok (.if_icmp .ge 16, 3) := by decide +kernel
theorem dX9_dorm_90 : decode cX9_dorm 90 = .ok (.aload_n 0, 1) := by decide +kernel
theorem dX9_dorm_91 : decode cX9_dorm 91 = .ok (.getfield 73, 3) := by decide +kernel
theorem dX9_dorm_94 : decode cX9_dorm 94 = .ok (.iload_n 1, 1) := by decide +kernel
theorem dX9_dorm_95 : decode cX9_dorm 95 = .ok (.iconst 0, 1) := by decide +kernel
theorem dX9_dorm_96 : decode cX9_dorm 96 = .ok (.iastore, 1) := by decide +kernel
theorem dX9_dorm_97 : decode cX9_dorm 97 = .ok (.iinc 1 1, 3) := by decide +kernel
theorem dX9_dorm_100 : decode cX9_dorm 100 = .ok (.goto (-24), 3) := by decide +kernel
theorem dX9_dorm_103 : decode cX9_dorm 103 = .ok (.aload_n 0, 1) := by decide +kernel
theorem dX9_dorm_104 : decode cX9_dorm 104 = .ok (.iconst 0, 1) := by decide +kernel
theorem dX9_dorm_105 : decode cX9_dorm 105 = .ok (.putfield 115, 3) := by decide +kernel
theorem dX9_dorm_108 : decode cX9_dorm 108 = .ok (.iconst 0, 1) := by decide +kernel
theorem dX9_dorm_109 : decode cX9_dorm 109 = .ok (.istore_n 1, 1) := by decide +kernel
theorem dX9_dorm_110 : decode cX9_dorm 110 = .ok (.aload_n 0, 1) := by decide +kernel
theorem dX9_dorm_111 : decode cX9_dorm 111 = .ok (.invokevirtual 283, 3) := by decide +kernel
theorem dX9_dorm_114 : decode cX9_dorm 114 = .ok (.aload_n 0, 1) := by decide +kernel
theorem dX9_dorm_115 : decode cX9_dorm 115 = .ok (.getfield 36, 3) := by decide +kernel
theorem dX9_dorm_118 : decode cX9_dorm 118 = .ok (.ifCond .ne 25, 3) := by decide +kernel
theorem dX9_dorm_121 : decode cX9_dorm 121 = .ok (.aload_n 0, 1) := by decide +kernel
theorem dX9_dorm_122 : decode cX9_dorm 122 = .ok (.getfield 20, 3) := by decide +kernel
theorem dX9_dorm_125 : decode cX9_dorm 125 = .ok (.ifCond .eq 18, 3) := by decide +kernel
theorem dX9_dorm_143 : decode cX9_dorm 143 = .ok (.aload_n 0, 1) := by decide +kernel
theorem dX9_dorm_144 : decode cX9_dorm 144 = .ok (.aload_n 0, 1) := by decide +kernel
theorem dX9_dorm_145 : decode cX9_dorm 145 = .ok (.getfield 36, 3) := by decide +kernel
theorem dX9_dorm_148 : decode cX9_dorm 148 = .ok (.putfield 42, 3) := by decide +kernel
theorem dX9_dorm_151 : decode cX9_dorm 151 = .ok (.aload_n 0, 1) := by decide +kernel
theorem dX9_dorm_152 : decode cX9_dorm 152 = .ok (.aload_n 0, 1) := by decide +kernel
theorem dX9_dorm_153 : decode cX9_dorm 153 = .ok (.getfield 39, 3) := by decide +kernel
theorem dX9_dorm_156 : decode cX9_dorm 156 = .ok (.putfield 45, 3) := by decide +kernel
theorem dX9_dorm_159 : decode cX9_dorm 159 = .ok (.aload_n 0, 1) := by decide +kernel
theorem dX9_dorm_160 : decode cX9_dorm 160 = .ok (.getfield 36, 3) := by decide +kernel
theorem dX9_dorm_163 : decode cX9_dorm 163 = .ok (.ifCond .le 9, 3) := by decide +kernel
theorem dX9_dorm_172 : decode cX9_dorm 172 = .ok (.aload_n 0, 1) := by decide +kernel
theorem dX9_dorm_173 : decode cX9_dorm 173 = .ok (.aload_n 0, 1) := by decide +kernel
theorem dX9_dorm_174 : decode cX9_dorm 174 = .ok (.getfield 118, 3) := by decide +kernel
theorem dX9_dorm_177 : decode cX9_dorm 177 = .ok (.putfield 48, 3) := by decide +kernel
theorem dX9_dorm_180 : decode cX9_dorm 180 = .ok (.aload_n 0, 1) := by decide +kernel
theorem dX9_dorm_181 : decode cX9_dorm 181 = .ok (.invokevirtual 424, 3) := by decide +kernel
theorem dX9_dorm_184 : decode cX9_dorm 184 = .ok (.iload_n 1, 1) := by decide +kernel
theorem dX9_dorm_185 : decode cX9_dorm 185 = .ok (.ireturn, 1) := by decide +kernel
theorem zq_0_15 : zvl zM0 0 15 = some (.int 0) := by decide +kernel
theorem zq_2_3 : zvl zM0 2 3 = some (.ref 4) := by decide +kernel
theorem zq_2_4 : zvl zM0 2 4 = some (.ref 5) := by decide +kernel
theorem zq_2_5 : zvl zM0 2 5 = some (.ref 6) := by decide +kernel
theorem zq_2_8 : zvl zM0 2 8 = some (.ref 7) := by decide +kernel
theorem zq_7_14 : zvl zM0 7 14 = some (.ref 19) := by decide +kernel
theorem zq_7_15 : zvl zM0 7 15 = some (.ref 20) := by decide +kernel
theorem zq_49_2 : zvl zM0 49 2 = some (.ref 50) := by decide +kernel
theorem zq_49_3 : zvl zM0 49 3 = some (.ref 51) := by decide +kernel
theorem zq_49_4 : zvl zM0 49 4 = some (.ref 52) := by decide +kernel
theorem zq_49_5 : zvl zM0 49 5 = some (.ref 53) := by decide +kernel
theorem zq_49_6 : zvl zM0 49 6 = some (.ref 54) := by decide +kernel
theorem zq_49_7 : zvl zM0 49 7 = some (.ref 55) := by decide +kernel
theorem zq_49_8 : zvl zM0 49 8 = some (.ref 56) := by decide +kernel
theorem zq_49_9 : zvl zM0 49 9 = some (.ref 57) := by decide +kernel
theorem zq_49_10 : zvl zM0 49 10 = some (.ref 58) := by decide +kernel
theorem zq_49_11 : zvl zM0 49 11 = some (.ref 59) := by decide +kernel
theorem zq_49_12 : zvl zM0 49 12 = some (.ref 60) := by decide +kernel
theorem zq_49_13 : zvl zM0 49 13 = some (.ref 61) := by decide +kernel
theorem zq_386_20 : zvl zM0 386 20 = some (.ref 395) := by decide +kernel
theorem zq_386_50 : zvl zM0 386 50 = some (.ref 419) := by decide +kernel
theorem zq_386_51 : zvl zM0 386 51 = some (.ref 420) := by decide +kernel
theorem zq_386_52 : zvl zM0 386 52 = some (.ref 421) := by decide +kernel
theorem zq_386_53 : zvl zM0 386 53 = some (.ref 422) := by decide +kernel
theorem zq_386_54 : zvl zM0 386 54 = some (.ref 423) := by decide +kernel
theorem zq_386_55 : zvl zM0 386 55 = some (.ref 424) := by decide +kernel
theorem zq_386_56 : zvl zM0 386 56 = some (.ref 425) := by decide +kernel
theorem zq_386_57 : zvl zM0 386 57 = some (.ref 426) := by decide +kernel
theorem zq_386_58 : zvl zM0 386 58 = some (.ref 427) := by decide +kernel
theorem zq_386_59 : zvl zM0 386 59 = some (.ref 428) := by decide +kernel
theorem zq_386_60 : zvl zM0 386 60 = some (.ref 429) := by decide +kernel
theorem zq_386_61 : zvl zM0 386 61 = some (.ref 430) := by decide +kernel
set_option maxRecDepth 1000000 in
theorem zp_2 : ∃ (v : Int32) (M1 M2 : zM), ZC [] 11 2053 [.ref 0] zM0 (some (.int v), M1) ∧ ZC [] 11 2309 [.ref 386] M1 (some (.int v), M2) ∧ zSh M1 ∧ zSh M2 := by
  refine zp_of ?_
  refine ZV.of (ini := false) rfl (Nat.le_of_ble_eq_true rfl) (by decide +kernel) ?_
  show ZW _ 10 8 false (some .int) cX8_dorm _ (0, [some (.ref 0), none, none], [], zM0)
  refine w_lo dX8_dorm_0 rfl rfl rfl rfl ?_
  refine w_gf dX8_dorm_1 rfl zU_0.1 rfl ((zU_0).2 0 1 rfl |>.trans zq_0_1) ?_
  refine w_lo dX8_dorm_4 rfl rfl rfl rfl ?_
  refine w_lo dX8_dorm_5 rfl rfl rfl rfl ?_
  refine w_ic dX8_dorm_6 zi_0 ?_
  refine w_pf dX8_dorm_7 rfl zU_0 rfl (Nat.le_of_ble_eq_true rfl) rfl rfl rfl ?_
  intro M1 hU2 hv3 hn4
  clear hn4
  refine w_lo dX8_dorm_10 rfl rfl rfl rfl ?_
  refine w_gf dX8_dorm_11 rfl hU2.1 rfl ((hU2).2 0 2 rfl |>.trans zq_0_2) ?_
  refine w_lo dX8_dorm_14 rfl rfl rfl rfl ?_
  refine w_gf dX8_dorm_15 rfl hU2.1 rfl ((hU2).2 0 0 rfl |>.trans zq_0_0) ?_
  refine w_lo dX8_dorm_18 rfl rfl rfl rfl ?_
  refine w_iv dX8_dorm_19 rfl rfl (As := [.ref 1, .int 0]) rfl rfl hU2.1 rfl (Nat.le_of_ble_eq_true rfl) ?_
  refine ZV.of (ini := false) rfl (Nat.le_of_ble_eq_true rfl) (by decide +kernel) ?_
  show ZW _ 9 5 false (some .boolean) cX5_read _ (0, [some (.ref 2), some (.ref 1), some (.int 0), none, none], [], M1)
  refine w_lo dX5_read_0 rfl rfl rfl rfl ?_
  refine w_gf dX5_read_1 rfl hU2.1 rfl ((hU2).2 2 8 rfl |>.trans zq_2_8) ?_
  refine w_iv dX5_read_4 rfl rfl (As := []) rfl rfl hU2.1 rfl (Nat.le_of_ble_eq_true rfl) ?_
  refine ZV.of (ini := false) rfl (Nat.le_of_ble_eq_true rfl) (by decide +kernel) ?_
  show ZW _ 8 1 false none cX1_empty _ (0, [some (.ref 7)], [], M1)
  refine w_lo dX1_empty_0 rfl rfl rfl rfl ?_
  refine w_ic dX1_empty_1 zi_0 ?_
  refine w_pf dX1_empty_2 rfl hU2 rfl (Nat.le_of_ble_eq_true rfl) rfl rfl rfl ?_
  intro M5 hU6 hv7 hn8
  clear hn8 hv3 hU2 M1
  refine w_lo dX1_empty_5 rfl rfl rfl rfl ?_
  refine w_ic dX1_empty_6 zi_0 ?_
  refine w_pf dX1_empty_7 rfl hU6 rfl (Nat.le_of_ble_eq_true rfl) rfl rfl rfl ?_
  intro M9 hU10 hv11 hn12
  clear hn12 hv7 hU6 M5
  refine w_lo dX1_empty_10 rfl rfl rfl rfl ?_
  refine w_ic dX1_empty_11 zi_0 ?_
  refine w_pf dX1_empty_12 rfl hU10 rfl (Nat.le_of_ble_eq_true rfl) rfl rfl rfl ?_
  intro M13 hU14 hv15 hn16
  have f17 := (hn16 7 1 (by decide)).trans hv11
  clear hn16 hv11 hU10 M9
  refine w_lo dX1_empty_15 rfl rfl rfl rfl ?_
  refine w_gf dX1_empty_16 rfl hU14.1 rfl ((hU14).2 7 14 rfl |>.trans zq_7_14) ?_
  refine w_ic dX1_empty_19 zi_0 ?_
  refine w_ss dX1_empty_20 rfl rfl (As := [.ref 19, .int 0]) rfl rfl (Nat.le_of_ble_eq_true rfl) ?_
  refine ZV.of (ini := false) rfl (Nat.le_of_ble_eq_true rfl) (by decide +kernel) ?_
  show ZW _ 7 12 false none cJ7_fill_53178 _ (0, [some (.ref 19), some (.int 0), none, none], [], M13)
  refine w_ic dJ7_fill_53178_0 zi_0 ?_
  refine w_lo dJ7_fill_53178_1 rfl rfl rfl rfl ?_
  refine w_lo dJ7_fill_53178_2 rfl rfl rfl rfl ?_
  refine w_al dJ7_fill_53178_3 hU14.1 rfl (c := 11) rfl ⟨Nat.le_of_ble_eq_true rfl, Nat.le_of_ble_eq_true rfl⟩ ?_
  refine w_lo dJ7_fill_53178_4 rfl rfl rfl rfl ?_
  refine w_lo dJ7_fill_53178_5 rfl rfl rfl rfl ?_
  refine w_lo dJ7_fill_53178_6 rfl rfl rfl rfl ?_
  refine w_cge_f dJ7_fill_53178_7 (t := 20) rfl (by decide) ?_
  refine w_lo dJ7_fill_53178_10 rfl rfl rfl rfl ?_
  refine w_lo dJ7_fill_53178_11 rfl rfl rfl rfl ?_
  refine w_lo dJ7_fill_53178_12 rfl rfl rfl rfl ?_
  refine w_is dJ7_fill_53178_13 hU14 rfl (k := 0) zt_0 (Nat.le_of_ble_eq_true rfl) ?_
  intro M18 hU19 hv20 hn21
  have f22 := (hn21 7 1 (by decide)).trans f17
  clear hn21 f17 hv15 hU14 M13
  refine w_lo (ml' := [some (.ref 19), some (.int 0), some (.int 1), some (.int 11)]) dJ7_fill_53178_14 rfl rfl rfl rfl ?_
  refine w_gt dJ7_fill_53178_17 (t := 5) rfl ?_
  refine w_lo dJ7_fill_53178_5 rfl rfl rfl rfl ?_
  refine w_lo dJ7_fill_53178_6 rfl rfl rfl rfl ?_
  refine w_cge_f dJ7_fill_53178_7 (t := 20) rfl (by decide) ?_
  refine w_lo dJ7_fill_53178_10 rfl rfl rfl rfl ?_
  refine w_lo dJ7_fill_53178_11 rfl rfl rfl rfl ?_
  refine w_lo dJ7_fill_53178_12 rfl rfl rfl rfl ?_
  refine w_is dJ7_fill_53178_13 hU19 rfl (k := 1) zt_1 (Nat.le_of_ble_eq_true rfl) ?_
  intro M23 hU24 hv25 hn26
  have f27 := (hn26 7 1 (by decide)).trans f22
  have f28 := (hn26 19 0 (by decide)).trans hv20
  clear hn26 f22 hv20 hU19 M18
  refine w_lo (ml' := [some (.ref 19), some (.int 0), some (.int 2), some (.int 11)]) dJ7_fill_53178_14 rfl rfl rfl rfl ?_
  refine w_gt dJ7_fill_53178_17 (t := 5) rfl ?_
  refine w_lo dJ7_fill_53178_5 rfl rfl rfl rfl ?_
  refine w_lo dJ7_fill_53178_6 rfl rfl rfl rfl ?_
  refine w_cge_f dJ7_fill_53178_7 (t := 20) rfl (by decide) ?_
  refine w_lo dJ7_fill_53178_10 rfl rfl rfl rfl ?_
  refine w_lo dJ7_fill_53178_11 rfl rfl rfl rfl ?_
  refine w_lo dJ7_fill_53178_12 rfl rfl rfl rfl ?_
  refine w_is dJ7_fill_53178_13 hU24 rfl (k := 2) zt_2 (Nat.le_of_ble_eq_true rfl) ?_
  intro M29 hU30 hv31 hn32
  have f33 := (hn32 7 1 (by decide)).trans f27
  have f34 := (hn32 19 0 (by decide)).trans f28
  have f35 := (hn32 19 1 (by decide)).trans hv25
  clear hn32 f27 f28 hv25 hU24 M23
  refine w_lo (ml' := [some (.ref 19), some (.int 0), some (.int 3), some (.int 11)]) dJ7_fill_53178_14 rfl rfl rfl rfl ?_
  refine w_gt dJ7_fill_53178_17 (t := 5) rfl ?_
  refine w_lo dJ7_fill_53178_5 rfl rfl rfl rfl ?_
  refine w_lo dJ7_fill_53178_6 rfl rfl rfl rfl ?_
  refine w_cge_f dJ7_fill_53178_7 (t := 20) rfl (by decide) ?_
  refine w_lo dJ7_fill_53178_10 rfl rfl rfl rfl ?_
  refine w_lo dJ7_fill_53178_11 rfl rfl rfl rfl ?_
  refine w_lo dJ7_fill_53178_12 rfl rfl rfl rfl ?_
  refine w_is dJ7_fill_53178_13 hU30 rfl (k := 3) zt_3 (Nat.le_of_ble_eq_true rfl) ?_
  intro M36 hU37 hv38 hn39
  have f40 := (hn39 7 1 (by decide)).trans f33
  have f41 := (hn39 19 0 (by decide)).trans f34
  have f42 := (hn39 19 1 (by decide)).trans f35
  have f43 := (hn39 19 2 (by decide)).trans hv31
  clear hn39 f33 f34 f35 hv31 hU30 M29
  refine w_lo (ml' := [some (.ref 19), some (.int 0), some (.int 4), some (.int 11)]) dJ7_fill_53178_14 rfl rfl rfl rfl ?_
  refine w_gt dJ7_fill_53178_17 (t := 5) rfl ?_
  refine w_lo dJ7_fill_53178_5 rfl rfl rfl rfl ?_
  refine w_lo dJ7_fill_53178_6 rfl rfl rfl rfl ?_
  refine w_cge_f dJ7_fill_53178_7 (t := 20) rfl (by decide) ?_
  refine w_lo dJ7_fill_53178_10 rfl rfl rfl rfl ?_
  refine w_lo dJ7_fill_53178_11 rfl rfl rfl rfl ?_
  refine w_lo dJ7_fill_53178_12 rfl rfl rfl rfl ?_
  refine w_is dJ7_fill_53178_13 hU37 rfl (k := 4) zt_4 (Nat.le_of_ble_eq_true rfl) ?_
  intro M44 hU45 hv46 hn47
  have f48 := (hn47 7 1 (by decide)).trans f40
  have f49 := (hn47 19 0 (by decide)).trans f41
  have f50 := (hn47 19 1 (by decide)).trans f42
  have f51 := (hn47 19 2 (by decide)).trans f43
  have f52 := (hn47 19 3 (by decide)).trans hv38
  clear hn47 f40 f41 f42 f43 hv38 hU37 M36
  refine w_lo (ml' := [some (.ref 19), some (.int 0), some (.int 5), some (.int 11)]) dJ7_fill_53178_14 rfl rfl rfl rfl ?_
  refine w_gt dJ7_fill_53178_17 (t := 5) rfl ?_
  refine w_lo dJ7_fill_53178_5 rfl rfl rfl rfl ?_
  refine w_lo dJ7_fill_53178_6 rfl rfl rfl rfl ?_
  refine w_cge_f dJ7_fill_53178_7 (t := 20) rfl (by decide) ?_
  refine w_lo dJ7_fill_53178_10 rfl rfl rfl rfl ?_
  refine w_lo dJ7_fill_53178_11 rfl rfl rfl rfl ?_
  refine w_lo dJ7_fill_53178_12 rfl rfl rfl rfl ?_
  refine w_is dJ7_fill_53178_13 hU45 rfl (k := 5) zt_5 (Nat.le_of_ble_eq_true rfl) ?_
  intro M53 hU54 hv55 hn56
  have f57 := (hn56 7 1 (by decide)).trans f48
  have f58 := (hn56 19 0 (by decide)).trans f49
  have f59 := (hn56 19 1 (by decide)).trans f50
  have f60 := (hn56 19 2 (by decide)).trans f51
  have f61 := (hn56 19 3 (by decide)).trans f52
  have f62 := (hn56 19 4 (by decide)).trans hv46
  clear hn56 f48 f49 f50 f51 f52 hv46 hU45 M44
  refine w_lo (ml' := [some (.ref 19), some (.int 0), some (.int 6), some (.int 11)]) dJ7_fill_53178_14 rfl rfl rfl rfl ?_
  refine w_gt dJ7_fill_53178_17 (t := 5) rfl ?_
  refine w_lo dJ7_fill_53178_5 rfl rfl rfl rfl ?_
  refine w_lo dJ7_fill_53178_6 rfl rfl rfl rfl ?_
  refine w_cge_f dJ7_fill_53178_7 (t := 20) rfl (by decide) ?_
  refine w_lo dJ7_fill_53178_10 rfl rfl rfl rfl ?_
  refine w_lo dJ7_fill_53178_11 rfl rfl rfl rfl ?_
  refine w_lo dJ7_fill_53178_12 rfl rfl rfl rfl ?_
  refine w_is dJ7_fill_53178_13 hU54 rfl (k := 6) zt_6 (Nat.le_of_ble_eq_true rfl) ?_
  intro M63 hU64 hv65 hn66
  have f67 := (hn66 7 1 (by decide)).trans f57
  have f68 := (hn66 19 0 (by decide)).trans f58
  have f69 := (hn66 19 1 (by decide)).trans f59
  have f70 := (hn66 19 2 (by decide)).trans f60
  have f71 := (hn66 19 3 (by decide)).trans f61
  have f72 := (hn66 19 4 (by decide)).trans f62
  have f73 := (hn66 19 5 (by decide)).trans hv55
  clear hn66 f57 f58 f59 f60 f61 f62 hv55 hU54 M53
  refine w_lo (ml' := [some (.ref 19), some (.int 0), some (.int 7), some (.int 11)]) dJ7_fill_53178_14 rfl rfl rfl rfl ?_
  refine w_gt dJ7_fill_53178_17 (t := 5) rfl ?_
  refine w_lo dJ7_fill_53178_5 rfl rfl rfl rfl ?_
  refine w_lo dJ7_fill_53178_6 rfl rfl rfl rfl ?_
  refine w_cge_f dJ7_fill_53178_7 (t := 20) rfl (by decide) ?_
  refine w_lo dJ7_fill_53178_10 rfl rfl rfl rfl ?_
  refine w_lo dJ7_fill_53178_11 rfl rfl rfl rfl ?_
  refine w_lo dJ7_fill_53178_12 rfl rfl rfl rfl ?_
  refine w_is dJ7_fill_53178_13 hU64 rfl (k := 7) zt_7 (Nat.le_of_ble_eq_true rfl) ?_
  intro M74 hU75 hv76 hn77
  have f78 := (hn77 7 1 (by decide)).trans f67
  have f79 := (hn77 19 0 (by decide)).trans f68
  have f80 := (hn77 19 1 (by decide)).trans f69
  have f81 := (hn77 19 2 (by decide)).trans f70
  have f82 := (hn77 19 3 (by decide)).trans f71
  have f83 := (hn77 19 4 (by decide)).trans f72
  have f84 := (hn77 19 5 (by decide)).trans f73
  have f85 := (hn77 19 6 (by decide)).trans hv65
  clear hn77 f67 f68 f69 f70 f71 f72 f73 hv65 hU64 M63
  refine w_lo (ml' := [some (.ref 19), some (.int 0), some (.int 8), some (.int 11)]) dJ7_fill_53178_14 rfl rfl rfl rfl ?_
  refine w_gt dJ7_fill_53178_17 (t := 5) rfl ?_
  refine w_lo dJ7_fill_53178_5 rfl rfl rfl rfl ?_
  refine w_lo dJ7_fill_53178_6 rfl rfl rfl rfl ?_
  refine w_cge_f dJ7_fill_53178_7 (t := 20) rfl (by decide) ?_
  refine w_lo dJ7_fill_53178_10 rfl rfl rfl rfl ?_
  refine w_lo dJ7_fill_53178_11 rfl rfl rfl rfl ?_
  refine w_lo dJ7_fill_53178_12 rfl rfl rfl rfl ?_
  refine w_is dJ7_fill_53178_13 hU75 rfl (k := 8) zt_8 (Nat.le_of_ble_eq_true rfl) ?_
  intro M86 hU87 hv88 hn89
  have f90 := (hn89 7 1 (by decide)).trans f78
  have f91 := (hn89 19 0 (by decide)).trans f79
  have f92 := (hn89 19 1 (by decide)).trans f80
  have f93 := (hn89 19 2 (by decide)).trans f81
  have f94 := (hn89 19 3 (by decide)).trans f82
  have f95 := (hn89 19 4 (by decide)).trans f83
  have f96 := (hn89 19 5 (by decide)).trans f84
  have f97 := (hn89 19 6 (by decide)).trans f85
  have f98 := (hn89 19 7 (by decide)).trans hv76
  clear hn89 f78 f79 f80 f81 f82 f83 f84 f85 hv76 hU75 M74
  refine w_lo (ml' := [some (.ref 19), some (.int 0), some (.int 9), some (.int 11)]) dJ7_fill_53178_14 rfl rfl rfl rfl ?_
  refine w_gt dJ7_fill_53178_17 (t := 5) rfl ?_
  refine w_lo dJ7_fill_53178_5 rfl rfl rfl rfl ?_
  refine w_lo dJ7_fill_53178_6 rfl rfl rfl rfl ?_
  refine w_cge_f dJ7_fill_53178_7 (t := 20) rfl (by decide) ?_
  refine w_lo dJ7_fill_53178_10 rfl rfl rfl rfl ?_
  refine w_lo dJ7_fill_53178_11 rfl rfl rfl rfl ?_
  refine w_lo dJ7_fill_53178_12 rfl rfl rfl rfl ?_
  refine w_is dJ7_fill_53178_13 hU87 rfl (k := 9) zt_9 (Nat.le_of_ble_eq_true rfl) ?_
  intro M99 hU100 hv101 hn102
  have f103 := (hn102 7 1 (by decide)).trans f90
  have f104 := (hn102 19 0 (by decide)).trans f91
  have f105 := (hn102 19 1 (by decide)).trans f92
  have f106 := (hn102 19 2 (by decide)).trans f93
  have f107 := (hn102 19 3 (by decide)).trans f94
  have f108 := (hn102 19 4 (by decide)).trans f95
  have f109 := (hn102 19 5 (by decide)).trans f96
  have f110 := (hn102 19 6 (by decide)).trans f97
  have f111 := (hn102 19 7 (by decide)).trans f98
  have f112 := (hn102 19 8 (by decide)).trans hv88
  clear hn102 f90 f91 f92 f93 f94 f95 f96 f97 f98 hv88 hU87 M86
  refine w_lo (ml' := [some (.ref 19), some (.int 0), some (.int 10), some (.int 11)]) dJ7_fill_53178_14 rfl rfl rfl rfl ?_
  refine w_gt dJ7_fill_53178_17 (t := 5) rfl ?_
  refine w_lo dJ7_fill_53178_5 rfl rfl rfl rfl ?_
  refine w_lo dJ7_fill_53178_6 rfl rfl rfl rfl ?_
  refine w_cge_f dJ7_fill_53178_7 (t := 20) rfl (by decide) ?_
  refine w_lo dJ7_fill_53178_10 rfl rfl rfl rfl ?_
  refine w_lo dJ7_fill_53178_11 rfl rfl rfl rfl ?_
  refine w_lo dJ7_fill_53178_12 rfl rfl rfl rfl ?_
  refine w_is dJ7_fill_53178_13 hU100 rfl (k := 10) zt_10 (Nat.le_of_ble_eq_true rfl) ?_
  intro M113 hU114 hv115 hn116
  have f117 := (hn116 7 1 (by decide)).trans f103
  have f118 := (hn116 19 0 (by decide)).trans f104
  have f119 := (hn116 19 1 (by decide)).trans f105
  have f120 := (hn116 19 2 (by decide)).trans f106
  have f121 := (hn116 19 3 (by decide)).trans f107
  have f122 := (hn116 19 4 (by decide)).trans f108
  have f123 := (hn116 19 5 (by decide)).trans f109
  have f124 := (hn116 19 6 (by decide)).trans f110
  have f125 := (hn116 19 7 (by decide)).trans f111
  have f126 := (hn116 19 8 (by decide)).trans f112
  have f127 := (hn116 19 9 (by decide)).trans hv101
  clear hn116 f103 f104 f105 f106 f107 f108 f109 f110 f111 f112 hv101 hU100 M99
  refine w_lo (ml' := [some (.ref 19), some (.int 0), some (.int 11), some (.int 11)]) dJ7_fill_53178_14 rfl rfl rfl rfl ?_
  refine w_gt dJ7_fill_53178_17 (t := 5) rfl ?_
  refine w_lo dJ7_fill_53178_5 rfl rfl rfl rfl ?_
  refine w_lo dJ7_fill_53178_6 rfl rfl rfl rfl ?_
  refine w_cge_t dJ7_fill_53178_7 (t := 20) rfl (by decide) ?_
  refine w_en dJ7_fill_53178_20 rfl ?_
  show ZW _ 8 1 false none cX1_empty _ (23, [some (.ref 7)], [], M113)
  refine w_lo dX1_empty_23 rfl rfl rfl rfl ?_
  refine w_gf dX1_empty_24 rfl hU114.1 rfl ((hU114).2 7 15 rfl |>.trans zq_7_15) ?_
  refine w_iv dX1_empty_27 rfl rfl (As := []) rfl rfl hU114.1 rfl (Nat.le_of_ble_eq_true rfl) ?_
  refine ZV.of (ini := false) rfl (Nat.le_of_ble_eq_true rfl) (by decide +kernel) ?_
  show ZW _ 7 2 false none cX2_empty _ (0, [some (.ref 20)], [], M113)
  refine w_lo dX2_empty_0 rfl rfl rfl rfl ?_
  refine w_ic dX2_empty_1 zi_0 ?_
  refine w_pf dX2_empty_2 rfl hU114 rfl (Nat.le_of_ble_eq_true rfl) rfl rfl rfl ?_
  intro M128 hU129 hv130 hn131
  have f132 := (hn131 7 1 (by decide)).trans f117
  have f133 := (hn131 19 0 (by decide)).trans f118
  have f134 := (hn131 19 1 (by decide)).trans f119
  have f135 := (hn131 19 2 (by decide)).trans f120
  have f136 := (hn131 19 3 (by decide)).trans f121
  have f137 := (hn131 19 4 (by decide)).trans f122
  have f138 := (hn131 19 5 (by decide)).trans f123
  have f139 := (hn131 19 6 (by decide)).trans f124
  have f140 := (hn131 19 7 (by decide)).trans f125
  have f141 := (hn131 19 8 (by decide)).trans f126
  have f142 := (hn131 19 9 (by decide)).trans f127
  have f143 := (hn131 19 10 (by decide)).trans hv115
  clear hn131 f117 f118 f119 f120 f121 f122 f123 f124 f125 f126 f127 hv115 hU114 M113
  refine w_lo dX2_empty_5 rfl rfl rfl rfl ?_
  refine w_ic dX2_empty_6 zi_0 ?_
  refine w_pf dX2_empty_7 rfl hU129 rfl (Nat.le_of_ble_eq_true rfl) rfl rfl rfl ?_
  intro M144 hU145 hv146 hn147
  have f148 := (hn147 7 1 (by decide)).trans f132
  have f149 := (hn147 19 0 (by decide)).trans f133
  have f150 := (hn147 19 1 (by decide)).trans f134
  have f151 := (hn147 19 2 (by decide)).trans f135
  have f152 := (hn147 19 3 (by decide)).trans f136
  have f153 := (hn147 19 4 (by decide)).trans f137
  have f154 := (hn147 19 5 (by decide)).trans f138
  have f155 := (hn147 19 6 (by decide)).trans f139
  have f156 := (hn147 19 7 (by decide)).trans f140
  have f157 := (hn147 19 8 (by decide)).trans f141
  have f158 := (hn147 19 9 (by decide)).trans f142
  have f159 := (hn147 19 10 (by decide)).trans f143
  clear hn147 f132 f133 f134 f135 f136 f137 f138 f139 f140 f141 f142 f143 hv130 hU129 M128
  refine w_en dX2_empty_10 rfl ?_
  show ZW _ 8 1 false none cX1_empty _ (30, [some (.ref 7)], [], M144)
  refine w_en dX1_empty_30 rfl ?_
  show ZW _ 9 5 false (some .boolean) cX5_read _ (7, [some (.ref 2), some (.ref 1), some (.int 0), none, none], [], M144)
  refine w_lo dX5_read_7 rfl rfl rfl rfl ?_
  refine w_ic dX5_read_8 zi_0 ?_
  refine w_pf dX5_read_9 rfl hU145 rfl (Nat.le_of_ble_eq_true rfl) rfl rfl rfl ?_
  intro M160 hU161 hv162 hn163
  have f164 := (hn163 7 1 (by decide)).trans f148
  have f165 := (hn163 19 0 (by decide)).trans f149
  have f166 := (hn163 19 1 (by decide)).trans f150
  have f167 := (hn163 19 2 (by decide)).trans f151
  have f168 := (hn163 19 3 (by decide)).trans f152
  have f169 := (hn163 19 4 (by decide)).trans f153
  have f170 := (hn163 19 5 (by decide)).trans f154
  have f171 := (hn163 19 6 (by decide)).trans f155
  have f172 := (hn163 19 7 (by decide)).trans f156
  have f173 := (hn163 19 8 (by decide)).trans f157
  have f174 := (hn163 19 9 (by decide)).trans f158
  have f175 := (hn163 19 10 (by decide)).trans f159
  clear hn163 f148 f149 f150 f151 f152 f153 f154 f155 f156 f157 f158 f159 hv146 hU145 M144
  refine w_lo dX5_read_12 rfl rfl rfl rfl ?_
  refine w_ic dX5_read_13 zi_m1 ?_
  refine w_pf dX5_read_14 rfl hU161 rfl (Nat.le_of_ble_eq_true rfl) rfl rfl rfl ?_
  intro M176 hU177 hv178 hn179
  have f180 := (hn179 7 1 (by decide)).trans f164
  have f181 := (hn179 19 0 (by decide)).trans f165
  have f182 := (hn179 19 1 (by decide)).trans f166
  have f183 := (hn179 19 2 (by decide)).trans f167
  have f184 := (hn179 19 3 (by decide)).trans f168
  have f185 := (hn179 19 4 (by decide)).trans f169
  have f186 := (hn179 19 5 (by decide)).trans f170
  have f187 := (hn179 19 6 (by decide)).trans f171
  have f188 := (hn179 19 7 (by decide)).trans f172
  have f189 := (hn179 19 8 (by decide)).trans f173
  have f190 := (hn179 19 9 (by decide)).trans f174
  have f191 := (hn179 19 10 (by decide)).trans f175
  clear hn179 f164 f165 f166 f167 f168 f169 f170 f171 f172 f173 f174 f175 hv162 hU161 M160
  refine w_lo dX5_read_17 rfl rfl rfl rfl ?_
  refine w_ic dX5_read_18 zi_0 ?_
  refine w_pf dX5_read_19 rfl hU177 rfl (Nat.le_of_ble_eq_true rfl) rfl rfl rfl ?_
  intro M192 hU193 hv194 hn195
  have f196 := (hn195 7 1 (by decide)).trans f180
  have f197 := (hn195 19 0 (by decide)).trans f181
  have f198 := (hn195 19 1 (by decide)).trans f182
  have f199 := (hn195 19 2 (by decide)).trans f183
  have f200 := (hn195 19 3 (by decide)).trans f184
  have f201 := (hn195 19 4 (by decide)).trans f185
  have f202 := (hn195 19 5 (by decide)).trans f186
  have f203 := (hn195 19 6 (by decide)).trans f187
  have f204 := (hn195 19 7 (by decide)).trans f188
  have f205 := (hn195 19 8 (by decide)).trans f189
  have f206 := (hn195 19 9 (by decide)).trans f190
  have f207 := (hn195 19 10 (by decide)).trans f191
  clear hn195 f180 f181 f182 f183 f184 f185 f186 f187 f188 f189 f190 f191 hv178 hU177 M176
  refine w_lo dX5_read_22 rfl rfl rfl rfl ?_
  refine w_lo dX5_read_23 rfl rfl rfl rfl ?_
  refine w_lo dX5_read_24 rfl rfl rfl rfl ?_
  refine w_iv dX5_read_25 rfl rfl (As := [.ref 1, .int 0]) rfl rfl hU193.1 rfl (Nat.le_of_ble_eq_true rfl) ?_
  refine ZV.of (ini := false) rfl (Nat.le_of_ble_eq_true rfl) (by decide +kernel) ?_
  show ZW _ 8 5 false none cX5_scan _ (0, [some (.ref 2), some (.ref 1), some (.int 0), none, none, none, none, none, none], [], M192)
  refine w_lo dX5_scan_0 rfl rfl rfl rfl ?_
  refine w_ic dX5_scan_1 zi_0 ?_
  refine w_pf dX5_scan_2 rfl hU193 rfl (Nat.le_of_ble_eq_true rfl) rfl rfl rfl ?_
  intro M208 hU209 hv210 hn211
  have f212 := (hn211 7 1 (by decide)).trans f196
  have f213 := (hn211 19 0 (by decide)).trans f197
  have f214 := (hn211 19 1 (by decide)).trans f198
  have f215 := (hn211 19 2 (by decide)).trans f199
  have f216 := (hn211 19 3 (by decide)).trans f200
  have f217 := (hn211 19 4 (by decide)).trans f201
  have f218 := (hn211 19 5 (by decide)).trans f202
  have f219 := (hn211 19 6 (by decide)).trans f203
  have f220 := (hn211 19 7 (by decide)).trans f204
  have f221 := (hn211 19 8 (by decide)).trans f205
  have f222 := (hn211 19 9 (by decide)).trans f206
  have f223 := (hn211 19 10 (by decide)).trans f207
  have f224 := (hn211 2 7 (by decide)).trans hv194
  clear hn211 f196 f197 f198 f199 f200 f201 f202 f203 f204 f205 f206 f207 hv194 hU193 M192
  refine w_ic dX5_scan_5 zi_0 ?_
  refine w_lo dX5_scan_6 rfl rfl rfl rfl ?_
  refine w_ic dX5_scan_7 zi_0 ?_
  refine w_lo dX5_scan_8 rfl rfl rfl rfl ?_
  refine w_ic dX5_scan_10 zi_0 ?_
  refine w_lo dX5_scan_11 rfl rfl rfl rfl ?_
  refine w_lo dX5_scan_13 rfl rfl rfl rfl ?_
  refine w_lo dX5_scan_15 rfl rfl rfl rfl ?_
  refine w_cge_t dX5_scan_16 (t := 177) rfl (by decide) ?_
  refine w_lo dX5_scan_177 rfl rfl rfl rfl ?_
  refine w_ic dX5_scan_178 zi_0 ?_
  refine w_lo dX5_scan_179 rfl rfl rfl rfl ?_
  refine w_lo dX5_scan_180 rfl rfl rfl rfl ?_
  refine w_iv dX5_scan_181 rfl rfl (As := [.int 0, .int 0, .int 0]) rfl rfl hU209.1 rfl (Nat.le_of_ble_eq_true rfl) ?_
  refine ZV.of (ini := false) rfl (Nat.le_of_ble_eq_true rfl) (by decide +kernel) ?_
  show ZW _ 7 5 false none cX5_add _ (0, [some (.ref 2), some (.int 0), some (.int 0), some (.int 0)], [], M208)
  refine w_lo dX5_add_0 rfl rfl rfl rfl ?_
  refine w_gf dX5_add_1 rfl hU209.1 rfl hv210 ?_
  refine w_si dX5_add_4 (c := 1600) (by decide) ?_
  refine w_cgt_f dX5_add_7 (t := 50) rfl (by decide) ?_
  refine w_lo dX5_add_10 rfl rfl rfl rfl ?_
  refine w_gf dX5_add_11 rfl hU209.1 rfl ((hU209).2 2 3 rfl |>.trans zq_2_3) ?_
  refine w_lo dX5_add_14 rfl rfl rfl rfl ?_
  refine w_gf dX5_add_15 rfl hU209.1 rfl hv210 ?_
  refine w_lo dX5_add_18 rfl rfl rfl rfl ?_
  refine w_is dX5_add_19 hU209 rfl (k := 0) zt_0 (Nat.le_of_ble_eq_true rfl) ?_
  intro M225 hU226 hv227 hn228
  have f229 := (hn228 7 1 (by decide)).trans f212
  have f230 := (hn228 19 0 (by decide)).trans f213
  have f231 := (hn228 19 1 (by decide)).trans f214
  have f232 := (hn228 19 2 (by decide)).trans f215
  have f233 := (hn228 19 3 (by decide)).trans f216
  have f234 := (hn228 19 4 (by decide)).trans f217
  have f235 := (hn228 19 5 (by decide)).trans f218
  have f236 := (hn228 19 6 (by decide)).trans f219
  have f237 := (hn228 19 7 (by decide)).trans f220
  have f238 := (hn228 19 8 (by decide)).trans f221
  have f239 := (hn228 19 9 (by decide)).trans f222
  have f240 := (hn228 19 10 (by decide)).trans f223
  have f241 := (hn228 2 7 (by decide)).trans f224
  have f242 := (hn228 2 6 (by decide)).trans hv210
  clear hn228 f212 f213 f214 f215 f216 f217 f218 f219 f220 f221 f222 f223 f224 hv210 hU209 M208
  refine w_lo dX5_add_20 rfl rfl rfl rfl ?_
  refine w_gf dX5_add_21 rfl hU226.1 rfl ((hU226).2 2 4 rfl |>.trans zq_2_4) ?_
  refine w_lo dX5_add_24 rfl rfl rfl rfl ?_
  refine w_gf dX5_add_25 rfl hU226.1 rfl f242 ?_
  refine w_lo dX5_add_28 rfl rfl rfl rfl ?_
  refine w_is dX5_add_29 hU226 rfl (k := 0) zt_0 (Nat.le_of_ble_eq_true rfl) ?_
  intro M243 hU244 hv245 hn246
  have f247 := (hn246 7 1 (by decide)).trans f229
  have f248 := (hn246 19 0 (by decide)).trans f230
  have f249 := (hn246 19 1 (by decide)).trans f231
  have f250 := (hn246 19 2 (by decide)).trans f232
  have f251 := (hn246 19 3 (by decide)).trans f233
  have f252 := (hn246 19 4 (by decide)).trans f234
  have f253 := (hn246 19 5 (by decide)).trans f235
  have f254 := (hn246 19 6 (by decide)).trans f236
  have f255 := (hn246 19 7 (by decide)).trans f237
  have f256 := (hn246 19 8 (by decide)).trans f238
  have f257 := (hn246 19 9 (by decide)).trans f239
  have f258 := (hn246 19 10 (by decide)).trans f240
  have f259 := (hn246 2 7 (by decide)).trans f241
  have f260 := (hn246 2 6 (by decide)).trans f242
  have f261 := (hn246 4 0 (by decide)).trans hv227
  clear hn246 f229 f230 f231 f232 f233 f234 f235 f236 f237 f238 f239 f240 f241 f242 hv227 hU226 M225
  refine w_lo dX5_add_30 rfl rfl rfl rfl ?_
  refine w_gf dX5_add_31 rfl hU244.1 rfl ((hU244).2 2 5 rfl |>.trans zq_2_5) ?_
  refine w_lo dX5_add_34 rfl rfl rfl rfl ?_
  refine w_gf dX5_add_35 rfl hU244.1 rfl f260 ?_
  refine w_lo dX5_add_38 rfl rfl rfl rfl ?_
  refine w_is dX5_add_39 hU244 rfl (k := 0) zt_0 (Nat.le_of_ble_eq_true rfl) ?_
  intro M262 hU263 hv264 hn265
  have f266 := (hn265 7 1 (by decide)).trans f247
  have f267 := (hn265 19 0 (by decide)).trans f248
  have f268 := (hn265 19 1 (by decide)).trans f249
  have f269 := (hn265 19 2 (by decide)).trans f250
  have f270 := (hn265 19 3 (by decide)).trans f251
  have f271 := (hn265 19 4 (by decide)).trans f252
  have f272 := (hn265 19 5 (by decide)).trans f253
  have f273 := (hn265 19 6 (by decide)).trans f254
  have f274 := (hn265 19 7 (by decide)).trans f255
  have f275 := (hn265 19 8 (by decide)).trans f256
  have f276 := (hn265 19 9 (by decide)).trans f257
  have f277 := (hn265 19 10 (by decide)).trans f258
  have f278 := (hn265 2 7 (by decide)).trans f259
  have f279 := (hn265 2 6 (by decide)).trans f260
  have f280 := (hn265 4 0 (by decide)).trans f261
  clear hn265 f247 f248 f249 f250 f251 f252 f253 f254 f255 f256 f257 f258 f259 f260 f261 hv245 hU244 M243
  refine w_lo dX5_add_40 rfl rfl rfl rfl ?_
  refine w_pu dX5_add_41 rfl rfl ?_
  refine w_gf dX5_add_42 rfl hU263.1 rfl f279 ?_
  refine w_ic dX5_add_45 zi_1 ?_
  refine w_pu (st' := [.int 1, .ref 2]) dX5_add_46 rfl rfl ?_
  refine w_pf dX5_add_47 rfl hU263 rfl (Nat.le_of_ble_eq_true rfl) rfl rfl rfl ?_
  intro M281 hU282 hv283 hn284
  have f285 := (hn284 7 1 (by decide)).trans f266
  have f286 := (hn284 19 0 (by decide)).trans f267
  have f287 := (hn284 19 1 (by decide)).trans f268
  have f288 := (hn284 19 2 (by decide)).trans f269
  have f289 := (hn284 19 3 (by decide)).trans f270
  have f290 := (hn284 19 4 (by decide)).trans f271
  have f291 := (hn284 19 5 (by decide)).trans f272
  have f292 := (hn284 19 6 (by decide)).trans f273
  have f293 := (hn284 19 7 (by decide)).trans f274
  have f294 := (hn284 19 8 (by decide)).trans f275
  have f295 := (hn284 19 9 (by decide)).trans f276
  have f296 := (hn284 19 10 (by decide)).trans f277
  have f297 := (hn284 2 7 (by decide)).trans f278
  have f298 := (hn284 4 0 (by decide)).trans f280
  clear hn284 f266 f267 f268 f269 f270 f271 f272 f273 f274 f275 f276 f277 f278 f279 f280 hv264 hU263 M262
  refine w_en dX5_add_50 rfl ?_
  show ZW _ 8 5 false none cX5_scan _ (184, [some (.ref 2), some (.ref 1), some (.int 0), some (.int 0), some (.int 0), some (.int 0), none, none, none], [], M281)
  refine w_en dX5_scan_184 rfl ?_
  show ZW _ 9 5 false (some .boolean) cX5_read _ (28, [some (.ref 2), some (.ref 1), some (.int 0), none, none], [], M281)
  refine w_ic dX5_read_28 zi_0 ?_
  refine w_lo dX5_read_29 rfl rfl rfl rfl ?_
  refine w_lo dX5_read_30 rfl rfl rfl rfl ?_
  refine w_bi dX5_read_31 (c := 90) (by decide) ?_
  refine w_cgt_f dX5_read_33 (t := 226) rfl (by decide) ?_
  refine w_lo dX5_read_36 rfl rfl rfl rfl ?_
  refine w_gf dX5_read_37 rfl hU282.1 rfl ((hU282).2 2 3 rfl |>.trans zq_2_3) ?_
  refine w_lo dX5_read_40 rfl rfl rfl rfl ?_
  refine w_gf dX5_read_41 rfl hU282.1 rfl f297 ?_
  refine w_ia dX5_read_44 hU282.1 rfl (k := 0) zt_0 f298 ?_
  refine w_ine_f dX5_read_45 (t := 58) rfl (by decide) ?_
  refine w_lo dX5_read_48 rfl rfl rfl rfl ?_
  refine w_gf dX5_read_49 rfl hU282.1 rfl ((hU282).2 2 8 rfl |>.trans zq_2_8) ?_
  refine w_lo dX5_read_52 rfl rfl rfl rfl ?_
  refine w_pf dX5_read_53 rfl hU282 rfl (Nat.le_of_ble_eq_true rfl) rfl rfl rfl ?_
  intro M299 hU300 hv301 hn302
  have f303 := (hn302 7 1 (by decide)).trans f285
  have f304 := (hn302 19 0 (by decide)).trans f286
  have f305 := (hn302 19 1 (by decide)).trans f287
  have f306 := (hn302 19 2 (by decide)).trans f288
  have f307 := (hn302 19 3 (by decide)).trans f289
  have f308 := (hn302 19 4 (by decide)).trans f290
  have f309 := (hn302 19 5 (by decide)).trans f291
  have f310 := (hn302 19 6 (by decide)).trans f292
  have f311 := (hn302 19 7 (by decide)).trans f293
  have f312 := (hn302 19 8 (by decide)).trans f294
  have f313 := (hn302 19 9 (by decide)).trans f295
  have f314 := (hn302 19 10 (by decide)).trans f296
  clear hn302 f285 f286 f287 f288 f289 f290 f291 f292 f293 f294 f295 f296 f297 f298 hv283 hU282 M281
  refine w_ic dX5_read_56 zi_1 ?_
  refine w_en dX5_read_57 rfl ?_
  show ZW _ 10 8 false (some .int) cX8_dorm _ (22, [some (.ref 0), some (.int 0), none], [.int 1], M299)
  refine w_ine_t dX8_dorm_22 (t := 32) rfl (by decide) ?_
  refine w_lo dX8_dorm_32 rfl rfl rfl rfl ?_
  refine w_gf dX8_dorm_33 rfl hU300.1 rfl ((hU300).2 0 3 rfl |>.trans zq_0_3) ?_
  refine w_lo dX8_dorm_36 rfl rfl rfl rfl ?_
  refine w_lo dX8_dorm_37 rfl rfl rfl rfl ?_
  refine w_lo dX8_dorm_38 rfl rfl rfl rfl ?_
  refine w_gf dX8_dorm_39 rfl hU300.1 rfl ((hU300).2 0 2 rfl |>.trans zq_0_2) ?_
  refine w_gf dX8_dorm_42 rfl hU300.1 rfl ((hU300).2 2 8 rfl |>.trans zq_2_8) ?_
  refine w_pf dX8_dorm_45 rfl hU300 rfl (Nat.le_of_ble_eq_true rfl) rfl rfl rfl ?_
  intro M315 hU316 hv317 hn318
  have f319 := (hn318 7 1 (by decide)).trans f303
  have f320 := (hn318 19 0 (by decide)).trans f304
  have f321 := (hn318 19 1 (by decide)).trans f305
  have f322 := (hn318 19 2 (by decide)).trans f306
  have f323 := (hn318 19 3 (by decide)).trans f307
  have f324 := (hn318 19 4 (by decide)).trans f308
  have f325 := (hn318 19 5 (by decide)).trans f309
  have f326 := (hn318 19 6 (by decide)).trans f310
  have f327 := (hn318 19 7 (by decide)).trans f311
  have f328 := (hn318 19 8 (by decide)).trans f312
  have f329 := (hn318 19 9 (by decide)).trans f313
  have f330 := (hn318 19 10 (by decide)).trans f314
  have f331 := (hn318 7 0 (by decide)).trans hv301
  clear hn318 f303 f304 f305 f306 f307 f308 f309 f310 f311 f312 f313 f314 hv301 hU300 M299
  refine w_lo dX8_dorm_48 rfl rfl rfl rfl ?_
  refine w_gf dX8_dorm_49 rfl hU316.1 rfl ((hU316).2 0 2 rfl |>.trans zq_0_2) ?_
  refine w_lo dX8_dorm_52 rfl rfl rfl rfl ?_
  refine w_pf dX8_dorm_53 rfl hU316 rfl (Nat.le_of_ble_eq_true rfl) rfl rfl rfl ?_
  intro M332 hU333 hv334 hn335
  have f336 := (hn335 7 1 (by decide)).trans f319
  have f337 := (hn335 19 0 (by decide)).trans f320
  have f338 := (hn335 19 1 (by decide)).trans f321
  have f339 := (hn335 19 2 (by decide)).trans f322
  have f340 := (hn335 19 3 (by decide)).trans f323
  have f341 := (hn335 19 4 (by decide)).trans f324
  have f342 := (hn335 19 5 (by decide)).trans f325
  have f343 := (hn335 19 6 (by decide)).trans f326
  have f344 := (hn335 19 7 (by decide)).trans f327
  have f345 := (hn335 19 8 (by decide)).trans f328
  have f346 := (hn335 19 9 (by decide)).trans f329
  have f347 := (hn335 19 10 (by decide)).trans f330
  have f348 := (hn335 7 0 (by decide)).trans f331
  have f349 := (hn335 0 3 (by decide)).trans hv317
  clear hn335 f319 f320 f321 f322 f323 f324 f325 f326 f327 f328 f329 f330 f331 hv317 hU316 M315
  refine w_lo dX8_dorm_56 rfl rfl rfl rfl ?_
  refine w_gf dX8_dorm_57 rfl hU333.1 rfl ((hU333).2 0 4 rfl |>.trans zq_0_4) ?_
  refine w_lo dX8_dorm_60 rfl rfl rfl rfl ?_
  refine w_gf dX8_dorm_61 rfl hU333.1 rfl f349 ?_
  refine w_iv dX8_dorm_64 rfl rfl (As := [.ref 7]) rfl rfl hU333.1 rfl (Nat.le_of_ble_eq_true rfl) ?_
  refine ZV.of (ini := false) rfl (Nat.le_of_ble_eq_true rfl) (by decide +kernel) ?_
  show ZW _ 9 6 false none cX6_begin _ (0, [some (.ref 49), some (.ref 7), none], [], M332)
  refine w_lo dX6_begin_0 rfl rfl rfl rfl ?_
  refine w_lo dX6_begin_1 rfl rfl rfl rfl ?_
  refine w_gf dX6_begin_2 rfl hU333.1 rfl f336 ?_
  refine w_pf dX6_begin_5 rfl hU333 rfl (Nat.le_of_ble_eq_true rfl) rfl rfl rfl ?_
  intro M350 hU351 hv352 hn353
  have f354 := (hn353 19 0 (by decide)).trans f337
  have f355 := (hn353 19 1 (by decide)).trans f338
  have f356 := (hn353 19 2 (by decide)).trans f339
  have f357 := (hn353 19 3 (by decide)).trans f340
  have f358 := (hn353 19 4 (by decide)).trans f341
  have f359 := (hn353 19 5 (by decide)).trans f342
  have f360 := (hn353 19 6 (by decide)).trans f343
  have f361 := (hn353 19 7 (by decide)).trans f344
  have f362 := (hn353 19 8 (by decide)).trans f345
  have f363 := (hn353 19 9 (by decide)).trans f346
  have f364 := (hn353 19 10 (by decide)).trans f347
  have f365 := (hn353 7 0 (by decide)).trans f348
  have f366 := (hn353 0 3 (by decide)).trans f349
  clear hn353 f336 f337 f338 f339 f340 f341 f342 f343 f344 f345 f346 f347 f348 f349 hv334 hU333 M332
  refine w_lo dX6_begin_8 rfl rfl rfl rfl ?_
  refine w_ic dX6_begin_9 zi_0 ?_
  refine w_pf dX6_begin_10 rfl hU351 rfl (Nat.le_of_ble_eq_true rfl) rfl rfl rfl ?_
  intro M367 hU368 hv369 hn370
  have f371 := (hn370 19 0 (by decide)).trans f354
  have f372 := (hn370 19 1 (by decide)).trans f355
  have f373 := (hn370 19 2 (by decide)).trans f356
  have f374 := (hn370 19 3 (by decide)).trans f357
  have f375 := (hn370 19 4 (by decide)).trans f358
  have f376 := (hn370 19 5 (by decide)).trans f359
  have f377 := (hn370 19 6 (by decide)).trans f360
  have f378 := (hn370 19 7 (by decide)).trans f361
  have f379 := (hn370 19 8 (by decide)).trans f362
  have f380 := (hn370 19 9 (by decide)).trans f363
  have f381 := (hn370 19 10 (by decide)).trans f364
  have f382 := (hn370 7 0 (by decide)).trans f365
  have f383 := (hn370 0 3 (by decide)).trans f366
  clear hn370 f354 f355 f356 f357 f358 f359 f360 f361 f362 f363 f364 f365 f366 hv352 hU351 M350
  refine w_lo dX6_begin_13 rfl rfl rfl rfl ?_
  refine w_ic dX6_begin_14 zi_0 ?_
  refine w_pf dX6_begin_15 rfl hU368 rfl (Nat.le_of_ble_eq_true rfl) rfl rfl rfl ?_
  intro M384 hU385 hv386 hn387
  have f388 := (hn387 19 0 (by decide)).trans f371
  have f389 := (hn387 19 1 (by decide)).trans f372
  have f390 := (hn387 19 2 (by decide)).trans f373
  have f391 := (hn387 19 3 (by decide)).trans f374
  have f392 := (hn387 19 4 (by decide)).trans f375
  have f393 := (hn387 19 5 (by decide)).trans f376
  have f394 := (hn387 19 6 (by decide)).trans f377
  have f395 := (hn387 19 7 (by decide)).trans f378
  have f396 := (hn387 19 8 (by decide)).trans f379
  have f397 := (hn387 19 9 (by decide)).trans f380
  have f398 := (hn387 19 10 (by decide)).trans f381
  have f399 := (hn387 7 0 (by decide)).trans f382
  have f400 := (hn387 0 3 (by decide)).trans f383
  clear hn387 f371 f372 f373 f374 f375 f376 f377 f378 f379 f380 f381 f382 f383 hv369 hU368 M367
  refine w_ic dX6_begin_18 zi_0 ?_
  refine w_lo dX6_begin_19 rfl rfl rfl rfl ?_
  refine w_lo dX6_begin_20 rfl rfl rfl rfl ?_
  refine w_bi dX6_begin_21 (c := 12) (by decide) ?_
  refine w_cge_f dX6_begin_23 (t := 102) rfl (by decide) ?_
  refine w_lo dX6_begin_26 rfl rfl rfl rfl ?_
  refine w_gf dX6_begin_27 rfl hU385.1 rfl ((hU385).2 49 2 rfl |>.trans zq_49_2) ?_
  refine w_lo dX6_begin_30 rfl rfl rfl rfl ?_
  refine w_lo dX6_begin_31 rfl rfl rfl rfl ?_
  refine w_is dX6_begin_32 hU385 rfl (k := 0) zt_0 (Nat.le_of_ble_eq_true rfl) ?_
  intro M401 hU402 hv403 hn404
  have f405 := (hn404 19 0 (by decide)).trans f388
  have f406 := (hn404 19 1 (by decide)).trans f389
  have f407 := (hn404 19 2 (by decide)).trans f390
  have f408 := (hn404 19 3 (by decide)).trans f391
  have f409 := (hn404 19 4 (by decide)).trans f392
  have f410 := (hn404 19 5 (by decide)).trans f393
  have f411 := (hn404 19 6 (by decide)).trans f394
  have f412 := (hn404 19 7 (by decide)).trans f395
  have f413 := (hn404 19 8 (by decide)).trans f396
  have f414 := (hn404 19 9 (by decide)).trans f397
  have f415 := (hn404 19 10 (by decide)).trans f398
  have f416 := (hn404 7 0 (by decide)).trans f399
  have f417 := (hn404 0 3 (by decide)).trans f400
  clear hn404 f388 f389 f390 f391 f392 f393 f394 f395 f396 f397 f398 f399 f400 hv386 hU385 M384
  refine w_lo dX6_begin_33 rfl rfl rfl rfl ?_
  refine w_gf dX6_begin_34 rfl hU402.1 rfl ((hU402).2 49 3 rfl |>.trans zq_49_3) ?_
  refine w_lo dX6_begin_37 rfl rfl rfl rfl ?_
  refine w_ic dX6_begin_38 zi_1 ?_
  refine w_bs dX6_begin_39 hU402 rfl (k := 0) zt_0 (Nat.le_of_ble_eq_true rfl) rfl ?_
  intro M418 hU419 hv420 hn421
  have f422 := (hn421 19 0 (by decide)).trans f405
  have f423 := (hn421 19 1 (by decide)).trans f406
  have f424 := (hn421 19 2 (by decide)).trans f407
  have f425 := (hn421 19 3 (by decide)).trans f408
  have f426 := (hn421 19 4 (by decide)).trans f409
  have f427 := (hn421 19 5 (by decide)).trans f410
  have f428 := (hn421 19 6 (by decide)).trans f411
  have f429 := (hn421 19 7 (by decide)).trans f412
  have f430 := (hn421 19 8 (by decide)).trans f413
  have f431 := (hn421 19 9 (by decide)).trans f414
  have f432 := (hn421 19 10 (by decide)).trans f415
  have f433 := (hn421 7 0 (by decide)).trans f416
  have f434 := (hn421 0 3 (by decide)).trans f417
  clear hn421 f405 f406 f407 f408 f409 f410 f411 f412 f413 f414 f415 f416 f417 hv403 hU402 M401
  refine w_lo dX6_begin_40 rfl rfl rfl rfl ?_
  refine w_gf dX6_begin_41 rfl hU419.1 rfl ((hU419).2 49 4 rfl |>.trans zq_49_4) ?_
  refine w_lo dX6_begin_44 rfl rfl rfl rfl ?_
  refine w_ic dX6_begin_45 zi_m1 ?_
  refine w_is dX6_begin_46 hU419 rfl (k := 0) zt_0 (Nat.le_of_ble_eq_true rfl) ?_
  intro M435 hU436 hv437 hn438
  have f439 := (hn438 19 0 (by decide)).trans f422
  have f440 := (hn438 19 1 (by decide)).trans f423
  have f441 := (hn438 19 2 (by decide)).trans f424
  have f442 := (hn438 19 3 (by decide)).trans f425
  have f443 := (hn438 19 4 (by decide)).trans f426
  have f444 := (hn438 19 5 (by decide)).trans f427
  have f445 := (hn438 19 6 (by decide)).trans f428
  have f446 := (hn438 19 7 (by decide)).trans f429
  have f447 := (hn438 19 8 (by decide)).trans f430
  have f448 := (hn438 19 9 (by decide)).trans f431
  have f449 := (hn438 19 10 (by decide)).trans f432
  have f450 := (hn438 7 0 (by decide)).trans f433
  have f451 := (hn438 0 3 (by decide)).trans f434
  clear hn438 f422 f423 f424 f425 f426 f427 f428 f429 f430 f431 f432 f433 f434 hv420 hU419 M418
  refine w_lo dX6_begin_47 rfl rfl rfl rfl ?_
  refine w_gf dX6_begin_48 rfl hU436.1 rfl ((hU436).2 49 5 rfl |>.trans zq_49_5) ?_
  refine w_lo dX6_begin_51 rfl rfl rfl rfl ?_
  refine w_ic dX6_begin_52 zi_0 ?_
  refine w_is dX6_begin_53 hU436 rfl (k := 0) zt_0 (Nat.le_of_ble_eq_true rfl) ?_
  intro M452 hU453 hv454 hn455
  have f456 := (hn455 19 0 (by decide)).trans f439
  have f457 := (hn455 19 1 (by decide)).trans f440
  have f458 := (hn455 19 2 (by decide)).trans f441
  have f459 := (hn455 19 3 (by decide)).trans f442
  have f460 := (hn455 19 4 (by decide)).trans f443
  have f461 := (hn455 19 5 (by decide)).trans f444
  have f462 := (hn455 19 6 (by decide)).trans f445
  have f463 := (hn455 19 7 (by decide)).trans f446
  have f464 := (hn455 19 8 (by decide)).trans f447
  have f465 := (hn455 19 9 (by decide)).trans f448
  have f466 := (hn455 19 10 (by decide)).trans f449
  have f467 := (hn455 7 0 (by decide)).trans f450
  have f468 := (hn455 0 3 (by decide)).trans f451
  clear hn455 f439 f440 f441 f442 f443 f444 f445 f446 f447 f448 f449 f450 f451 hv437 hU436 M435
  refine w_lo dX6_begin_54 rfl rfl rfl rfl ?_
  refine w_gf dX6_begin_55 rfl hU453.1 rfl ((hU453).2 49 6 rfl |>.trans zq_49_6) ?_
  refine w_lo dX6_begin_58 rfl rfl rfl rfl ?_
  refine w_ic dX6_begin_59 zi_m1 ?_
  refine w_is dX6_begin_60 hU453 rfl (k := 0) zt_0 (Nat.le_of_ble_eq_true rfl) ?_
  intro M469 hU470 hv471 hn472
  have f473 := (hn472 19 0 (by decide)).trans f456
  have f474 := (hn472 19 1 (by decide)).trans f457
  have f475 := (hn472 19 2 (by decide)).trans f458
  have f476 := (hn472 19 3 (by decide)).trans f459
  have f477 := (hn472 19 4 (by decide)).trans f460
  have f478 := (hn472 19 5 (by decide)).trans f461
  have f479 := (hn472 19 6 (by decide)).trans f462
  have f480 := (hn472 19 7 (by decide)).trans f463
  have f481 := (hn472 19 8 (by decide)).trans f464
  have f482 := (hn472 19 9 (by decide)).trans f465
  have f483 := (hn472 19 10 (by decide)).trans f466
  have f484 := (hn472 7 0 (by decide)).trans f467
  have f485 := (hn472 0 3 (by decide)).trans f468
  clear hn472 f456 f457 f458 f459 f460 f461 f462 f463 f464 f465 f466 f467 f468 hv454 hU453 M452
  refine w_lo dX6_begin_61 rfl rfl rfl rfl ?_
  refine w_gf dX6_begin_62 rfl hU470.1 rfl ((hU470).2 49 7 rfl |>.trans zq_49_7) ?_
  refine w_lo dX6_begin_65 rfl rfl rfl rfl ?_
  refine w_ic dX6_begin_66 zi_0 ?_
  refine w_is dX6_begin_67 hU470 rfl (k := 0) zt_0 (Nat.le_of_ble_eq_true rfl) ?_
  intro M486 hU487 hv488 hn489
  have f490 := (hn489 19 0 (by decide)).trans f473
  have f491 := (hn489 19 1 (by decide)).trans f474
  have f492 := (hn489 19 2 (by decide)).trans f475
  have f493 := (hn489 19 3 (by decide)).trans f476
  have f494 := (hn489 19 4 (by decide)).trans f477
  have f495 := (hn489 19 5 (by decide)).trans f478
  have f496 := (hn489 19 6 (by decide)).trans f479
  have f497 := (hn489 19 7 (by decide)).trans f480
  have f498 := (hn489 19 8 (by decide)).trans f481
  have f499 := (hn489 19 9 (by decide)).trans f482
  have f500 := (hn489 19 10 (by decide)).trans f483
  have f501 := (hn489 7 0 (by decide)).trans f484
  have f502 := (hn489 0 3 (by decide)).trans f485
  clear hn489 f473 f474 f475 f476 f477 f478 f479 f480 f481 f482 f483 f484 f485 hv471 hU470 M469
  refine w_lo dX6_begin_68 rfl rfl rfl rfl ?_
  refine w_gf dX6_begin_69 rfl hU487.1 rfl ((hU487).2 49 8 rfl |>.trans zq_49_8) ?_
  refine w_lo dX6_begin_72 rfl rfl rfl rfl ?_
  refine w_ic dX6_begin_73 zi_m1 ?_
  refine w_is dX6_begin_74 hU487 rfl (k := 0) zt_0 (Nat.le_of_ble_eq_true rfl) ?_
  intro M503 hU504 hv505 hn506
  have f507 := (hn506 19 0 (by decide)).trans f490
  have f508 := (hn506 19 1 (by decide)).trans f491
  have f509 := (hn506 19 2 (by decide)).trans f492
  have f510 := (hn506 19 3 (by decide)).trans f493
  have f511 := (hn506 19 4 (by decide)).trans f494
  have f512 := (hn506 19 5 (by decide)).trans f495
  have f513 := (hn506 19 6 (by decide)).trans f496
  have f514 := (hn506 19 7 (by decide)).trans f497
  have f515 := (hn506 19 8 (by decide)).trans f498
  have f516 := (hn506 19 9 (by decide)).trans f499
  have f517 := (hn506 19 10 (by decide)).trans f500
  have f518 := (hn506 7 0 (by decide)).trans f501
  have f519 := (hn506 0 3 (by decide)).trans f502
  clear hn506 f490 f491 f492 f493 f494 f495 f496 f497 f498 f499 f500 f501 f502 hv488 hU487 M486
  refine w_lo dX6_begin_75 rfl rfl rfl rfl ?_
  refine w_gf dX6_begin_76 rfl hU504.1 rfl ((hU504).2 49 9 rfl |>.trans zq_49_9) ?_
  refine w_lo dX6_begin_79 rfl rfl rfl rfl ?_
  refine w_ic dX6_begin_80 zi_0 ?_
  refine w_is dX6_begin_81 hU504 rfl (k := 0) zt_0 (Nat.le_of_ble_eq_true rfl) ?_
  intro M520 hU521 hv522 hn523
  have f524 := (hn523 19 0 (by decide)).trans f507
  have f525 := (hn523 19 1 (by decide)).trans f508
  have f526 := (hn523 19 2 (by decide)).trans f509
  have f527 := (hn523 19 3 (by decide)).trans f510
  have f528 := (hn523 19 4 (by decide)).trans f511
  have f529 := (hn523 19 5 (by decide)).trans f512
  have f530 := (hn523 19 6 (by decide)).trans f513
  have f531 := (hn523 19 7 (by decide)).trans f514
  have f532 := (hn523 19 8 (by decide)).trans f515
  have f533 := (hn523 19 9 (by decide)).trans f516
  have f534 := (hn523 19 10 (by decide)).trans f517
  have f535 := (hn523 7 0 (by decide)).trans f518
  have f536 := (hn523 0 3 (by decide)).trans f519
  clear hn523 f507 f508 f509 f510 f511 f512 f513 f514 f515 f516 f517 f518 f519 hv505 hU504 M503
  refine w_lo dX6_begin_82 rfl rfl rfl rfl ?_
  refine w_gf dX6_begin_83 rfl hU521.1 rfl ((hU521).2 49 10 rfl |>.trans zq_49_10) ?_
  refine w_lo dX6_begin_86 rfl rfl rfl rfl ?_
  refine w_ic dX6_begin_87 zi_0 ?_
  refine w_is dX6_begin_88 hU521 rfl (k := 0) zt_0 (Nat.le_of_ble_eq_true rfl) ?_
  intro M537 hU538 hv539 hn540
  have f541 := (hn540 19 0 (by decide)).trans f524
  have f542 := (hn540 19 1 (by decide)).trans f525
  have f543 := (hn540 19 2 (by decide)).trans f526
  have f544 := (hn540 19 3 (by decide)).trans f527
  have f545 := (hn540 19 4 (by decide)).trans f528
  have f546 := (hn540 19 5 (by decide)).trans f529
  have f547 := (hn540 19 6 (by decide)).trans f530
  have f548 := (hn540 19 7 (by decide)).trans f531
  have f549 := (hn540 19 8 (by decide)).trans f532
  have f550 := (hn540 19 9 (by decide)).trans f533
  have f551 := (hn540 19 10 (by decide)).trans f534
  have f552 := (hn540 7 0 (by decide)).trans f535
  have f553 := (hn540 0 3 (by decide)).trans f536
  clear hn540 f524 f525 f526 f527 f528 f529 f530 f531 f532 f533 f534 f535 f536 hv522 hU521 M520
  refine w_lo dX6_begin_89 rfl rfl rfl rfl ?_
  refine w_gf dX6_begin_90 rfl hU538.1 rfl ((hU538).2 49 11 rfl |>.trans zq_49_11) ?_
  refine w_lo dX6_begin_93 rfl rfl rfl rfl ?_
  refine w_ic dX6_begin_94 zi_0 ?_
  refine w_is dX6_begin_95 hU538 rfl (k := 0) zt_0 (Nat.le_of_ble_eq_true rfl) ?_
  intro M554 hU555 hv556 hn557
  have f558 := (hn557 19 0 (by decide)).trans f541
  have f559 := (hn557 19 1 (by decide)).trans f542
  have f560 := (hn557 19 2 (by decide)).trans f543
  have f561 := (hn557 19 3 (by decide)).trans f544
  have f562 := (hn557 19 4 (by decide)).trans f545
  have f563 := (hn557 19 5 (by decide)).trans f546
  have f564 := (hn557 19 6 (by decide)).trans f547
  have f565 := (hn557 19 7 (by decide)).trans f548
  have f566 := (hn557 19 8 (by decide)).trans f549
  have f567 := (hn557 19 9 (by decide)).trans f550
  have f568 := (hn557 19 10 (by decide)).trans f551
  have f569 := (hn557 7 0 (by decide)).trans f552
  have f570 := (hn557 0 3 (by decide)).trans f553
  clear hn557 f541 f542 f543 f544 f545 f546 f547 f548 f549 f550 f551 f552 f553 hv539 hU538 M537
  refine w_lo (ml' := [some (.ref 49), some (.ref 7), some (.int 1)]) dX6_begin_96 rfl rfl rfl rfl ?_
  refine w_gt dX6_begin_99 (t := 20) rfl ?_
  refine w_lo dX6_begin_20 rfl rfl rfl rfl ?_
  refine w_bi dX6_begin_21 (c := 12) (by decide) ?_
  refine w_cge_f dX6_begin_23 (t := 102) rfl (by decide) ?_
  refine w_lo dX6_begin_26 rfl rfl rfl rfl ?_
  refine w_gf dX6_begin_27 rfl hU555.1 rfl ((hU555).2 49 2 rfl |>.trans zq_49_2) ?_
  refine w_lo dX6_begin_30 rfl rfl rfl rfl ?_
  refine w_lo dX6_begin_31 rfl rfl rfl rfl ?_
  refine w_is dX6_begin_32 hU555 rfl (k := 1) zt_1 (Nat.le_of_ble_eq_true rfl) ?_
  intro M571 hU572 hv573 hn574
  have f575 := (hn574 19 0 (by decide)).trans f558
  have f576 := (hn574 19 1 (by decide)).trans f559
  have f577 := (hn574 19 2 (by decide)).trans f560
  have f578 := (hn574 19 3 (by decide)).trans f561
  have f579 := (hn574 19 4 (by decide)).trans f562
  have f580 := (hn574 19 5 (by decide)).trans f563
  have f581 := (hn574 19 6 (by decide)).trans f564
  have f582 := (hn574 19 7 (by decide)).trans f565
  have f583 := (hn574 19 8 (by decide)).trans f566
  have f584 := (hn574 19 9 (by decide)).trans f567
  have f585 := (hn574 19 10 (by decide)).trans f568
  have f586 := (hn574 7 0 (by decide)).trans f569
  have f587 := (hn574 0 3 (by decide)).trans f570
  clear hn574 f558 f559 f560 f561 f562 f563 f564 f565 f566 f567 f568 f569 f570 hv556 hU555 M554
  refine w_lo dX6_begin_33 rfl rfl rfl rfl ?_
  refine w_gf dX6_begin_34 rfl hU572.1 rfl ((hU572).2 49 3 rfl |>.trans zq_49_3) ?_
  refine w_lo dX6_begin_37 rfl rfl rfl rfl ?_
  refine w_ic dX6_begin_38 zi_1 ?_
  refine w_bs dX6_begin_39 hU572 rfl (k := 1) zt_1 (Nat.le_of_ble_eq_true rfl) rfl ?_
  intro M588 hU589 hv590 hn591
  have f592 := (hn591 19 0 (by decide)).trans f575
  have f593 := (hn591 19 1 (by decide)).trans f576
  have f594 := (hn591 19 2 (by decide)).trans f577
  have f595 := (hn591 19 3 (by decide)).trans f578
  have f596 := (hn591 19 4 (by decide)).trans f579
  have f597 := (hn591 19 5 (by decide)).trans f580
  have f598 := (hn591 19 6 (by decide)).trans f581
  have f599 := (hn591 19 7 (by decide)).trans f582
  have f600 := (hn591 19 8 (by decide)).trans f583
  have f601 := (hn591 19 9 (by decide)).trans f584
  have f602 := (hn591 19 10 (by decide)).trans f585
  have f603 := (hn591 7 0 (by decide)).trans f586
  have f604 := (hn591 0 3 (by decide)).trans f587
  clear hn591 f575 f576 f577 f578 f579 f580 f581 f582 f583 f584 f585 f586 f587 hv573 hU572 M571
  refine w_lo dX6_begin_40 rfl rfl rfl rfl ?_
  refine w_gf dX6_begin_41 rfl hU589.1 rfl ((hU589).2 49 4 rfl |>.trans zq_49_4) ?_
  refine w_lo dX6_begin_44 rfl rfl rfl rfl ?_
  refine w_ic dX6_begin_45 zi_m1 ?_
  refine w_is dX6_begin_46 hU589 rfl (k := 1) zt_1 (Nat.le_of_ble_eq_true rfl) ?_
  intro M605 hU606 hv607 hn608
  have f609 := (hn608 19 0 (by decide)).trans f592
  have f610 := (hn608 19 1 (by decide)).trans f593
  have f611 := (hn608 19 2 (by decide)).trans f594
  have f612 := (hn608 19 3 (by decide)).trans f595
  have f613 := (hn608 19 4 (by decide)).trans f596
  have f614 := (hn608 19 5 (by decide)).trans f597
  have f615 := (hn608 19 6 (by decide)).trans f598
  have f616 := (hn608 19 7 (by decide)).trans f599
  have f617 := (hn608 19 8 (by decide)).trans f600
  have f618 := (hn608 19 9 (by decide)).trans f601
  have f619 := (hn608 19 10 (by decide)).trans f602
  have f620 := (hn608 7 0 (by decide)).trans f603
  have f621 := (hn608 0 3 (by decide)).trans f604
  clear hn608 f592 f593 f594 f595 f596 f597 f598 f599 f600 f601 f602 f603 f604 hv590 hU589 M588
  refine w_lo dX6_begin_47 rfl rfl rfl rfl ?_
  refine w_gf dX6_begin_48 rfl hU606.1 rfl ((hU606).2 49 5 rfl |>.trans zq_49_5) ?_
  refine w_lo dX6_begin_51 rfl rfl rfl rfl ?_
  refine w_ic dX6_begin_52 zi_0 ?_
  refine w_is dX6_begin_53 hU606 rfl (k := 1) zt_1 (Nat.le_of_ble_eq_true rfl) ?_
  intro M622 hU623 hv624 hn625
  have f626 := (hn625 19 0 (by decide)).trans f609
  have f627 := (hn625 19 1 (by decide)).trans f610
  have f628 := (hn625 19 2 (by decide)).trans f611
  have f629 := (hn625 19 3 (by decide)).trans f612
  have f630 := (hn625 19 4 (by decide)).trans f613
  have f631 := (hn625 19 5 (by decide)).trans f614
  have f632 := (hn625 19 6 (by decide)).trans f615
  have f633 := (hn625 19 7 (by decide)).trans f616
  have f634 := (hn625 19 8 (by decide)).trans f617
  have f635 := (hn625 19 9 (by decide)).trans f618
  have f636 := (hn625 19 10 (by decide)).trans f619
  have f637 := (hn625 7 0 (by decide)).trans f620
  have f638 := (hn625 0 3 (by decide)).trans f621
  clear hn625 f609 f610 f611 f612 f613 f614 f615 f616 f617 f618 f619 f620 f621 hv607 hU606 M605
  refine w_lo dX6_begin_54 rfl rfl rfl rfl ?_
  refine w_gf dX6_begin_55 rfl hU623.1 rfl ((hU623).2 49 6 rfl |>.trans zq_49_6) ?_
  refine w_lo dX6_begin_58 rfl rfl rfl rfl ?_
  refine w_ic dX6_begin_59 zi_m1 ?_
  refine w_is dX6_begin_60 hU623 rfl (k := 1) zt_1 (Nat.le_of_ble_eq_true rfl) ?_
  intro M639 hU640 hv641 hn642
  have f643 := (hn642 19 0 (by decide)).trans f626
  have f644 := (hn642 19 1 (by decide)).trans f627
  have f645 := (hn642 19 2 (by decide)).trans f628
  have f646 := (hn642 19 3 (by decide)).trans f629
  have f647 := (hn642 19 4 (by decide)).trans f630
  have f648 := (hn642 19 5 (by decide)).trans f631
  have f649 := (hn642 19 6 (by decide)).trans f632
  have f650 := (hn642 19 7 (by decide)).trans f633
  have f651 := (hn642 19 8 (by decide)).trans f634
  have f652 := (hn642 19 9 (by decide)).trans f635
  have f653 := (hn642 19 10 (by decide)).trans f636
  have f654 := (hn642 7 0 (by decide)).trans f637
  have f655 := (hn642 0 3 (by decide)).trans f638
  clear hn642 f626 f627 f628 f629 f630 f631 f632 f633 f634 f635 f636 f637 f638 hv624 hU623 M622
  refine w_lo dX6_begin_61 rfl rfl rfl rfl ?_
  refine w_gf dX6_begin_62 rfl hU640.1 rfl ((hU640).2 49 7 rfl |>.trans zq_49_7) ?_
  refine w_lo dX6_begin_65 rfl rfl rfl rfl ?_
  refine w_ic dX6_begin_66 zi_0 ?_
  refine w_is dX6_begin_67 hU640 rfl (k := 1) zt_1 (Nat.le_of_ble_eq_true rfl) ?_
  intro M656 hU657 hv658 hn659
  have f660 := (hn659 19 0 (by decide)).trans f643
  have f661 := (hn659 19 1 (by decide)).trans f644
  have f662 := (hn659 19 2 (by decide)).trans f645
  have f663 := (hn659 19 3 (by decide)).trans f646
  have f664 := (hn659 19 4 (by decide)).trans f647
  have f665 := (hn659 19 5 (by decide)).trans f648
  have f666 := (hn659 19 6 (by decide)).trans f649
  have f667 := (hn659 19 7 (by decide)).trans f650
  have f668 := (hn659 19 8 (by decide)).trans f651
  have f669 := (hn659 19 9 (by decide)).trans f652
  have f670 := (hn659 19 10 (by decide)).trans f653
  have f671 := (hn659 7 0 (by decide)).trans f654
  have f672 := (hn659 0 3 (by decide)).trans f655
  clear hn659 f643 f644 f645 f646 f647 f648 f649 f650 f651 f652 f653 f654 f655 hv641 hU640 M639
  refine w_lo dX6_begin_68 rfl rfl rfl rfl ?_
  refine w_gf dX6_begin_69 rfl hU657.1 rfl ((hU657).2 49 8 rfl |>.trans zq_49_8) ?_
  refine w_lo dX6_begin_72 rfl rfl rfl rfl ?_
  refine w_ic dX6_begin_73 zi_m1 ?_
  refine w_is dX6_begin_74 hU657 rfl (k := 1) zt_1 (Nat.le_of_ble_eq_true rfl) ?_
  intro M673 hU674 hv675 hn676
  have f677 := (hn676 19 0 (by decide)).trans f660
  have f678 := (hn676 19 1 (by decide)).trans f661
  have f679 := (hn676 19 2 (by decide)).trans f662
  have f680 := (hn676 19 3 (by decide)).trans f663
  have f681 := (hn676 19 4 (by decide)).trans f664
  have f682 := (hn676 19 5 (by decide)).trans f665
  have f683 := (hn676 19 6 (by decide)).trans f666
  have f684 := (hn676 19 7 (by decide)).trans f667
  have f685 := (hn676 19 8 (by decide)).trans f668
  have f686 := (hn676 19 9 (by decide)).trans f669
  have f687 := (hn676 19 10 (by decide)).trans f670
  have f688 := (hn676 7 0 (by decide)).trans f671
  have f689 := (hn676 0 3 (by decide)).trans f672
  clear hn676 f660 f661 f662 f663 f664 f665 f666 f667 f668 f669 f670 f671 f672 hv658 hU657 M656
  refine w_lo dX6_begin_75 rfl rfl rfl rfl ?_
  refine w_gf dX6_begin_76 rfl hU674.1 rfl ((hU674).2 49 9 rfl |>.trans zq_49_9) ?_
  refine w_lo dX6_begin_79 rfl rfl rfl rfl ?_
  refine w_ic dX6_begin_80 zi_0 ?_
  refine w_is dX6_begin_81 hU674 rfl (k := 1) zt_1 (Nat.le_of_ble_eq_true rfl) ?_
  intro M690 hU691 hv692 hn693
  have f694 := (hn693 19 0 (by decide)).trans f677
  have f695 := (hn693 19 1 (by decide)).trans f678
  have f696 := (hn693 19 2 (by decide)).trans f679
  have f697 := (hn693 19 3 (by decide)).trans f680
  have f698 := (hn693 19 4 (by decide)).trans f681
  have f699 := (hn693 19 5 (by decide)).trans f682
  have f700 := (hn693 19 6 (by decide)).trans f683
  have f701 := (hn693 19 7 (by decide)).trans f684
  have f702 := (hn693 19 8 (by decide)).trans f685
  have f703 := (hn693 19 9 (by decide)).trans f686
  have f704 := (hn693 19 10 (by decide)).trans f687
  have f705 := (hn693 7 0 (by decide)).trans f688
  have f706 := (hn693 0 3 (by decide)).trans f689
  clear hn693 f677 f678 f679 f680 f681 f682 f683 f684 f685 f686 f687 f688 f689 hv675 hU674 M673
  refine w_lo dX6_begin_82 rfl rfl rfl rfl ?_
  refine w_gf dX6_begin_83 rfl hU691.1 rfl ((hU691).2 49 10 rfl |>.trans zq_49_10) ?_
  refine w_lo dX6_begin_86 rfl rfl rfl rfl ?_
  refine w_ic dX6_begin_87 zi_0 ?_
  refine w_is dX6_begin_88 hU691 rfl (k := 1) zt_1 (Nat.le_of_ble_eq_true rfl) ?_
  intro M707 hU708 hv709 hn710
  have f711 := (hn710 19 0 (by decide)).trans f694
  have f712 := (hn710 19 1 (by decide)).trans f695
  have f713 := (hn710 19 2 (by decide)).trans f696
  have f714 := (hn710 19 3 (by decide)).trans f697
  have f715 := (hn710 19 4 (by decide)).trans f698
  have f716 := (hn710 19 5 (by decide)).trans f699
  have f717 := (hn710 19 6 (by decide)).trans f700
  have f718 := (hn710 19 7 (by decide)).trans f701
  have f719 := (hn710 19 8 (by decide)).trans f702
  have f720 := (hn710 19 9 (by decide)).trans f703
  have f721 := (hn710 19 10 (by decide)).trans f704
  have f722 := (hn710 7 0 (by decide)).trans f705
  have f723 := (hn710 0 3 (by decide)).trans f706
  clear hn710 f694 f695 f696 f697 f698 f699 f700 f701 f702 f703 f704 f705 f706 hv692 hU691 M690
  refine w_lo dX6_begin_89 rfl rfl rfl rfl ?_
  refine w_gf dX6_begin_90 rfl hU708.1 rfl ((hU708).2 49 11 rfl |>.trans zq_49_11) ?_
  refine w_lo dX6_begin_93 rfl rfl rfl rfl ?_
  refine w_ic dX6_begin_94 zi_0 ?_
  refine w_is dX6_begin_95 hU708 rfl (k := 1) zt_1 (Nat.le_of_ble_eq_true rfl) ?_
  intro M724 hU725 hv726 hn727
  have f728 := (hn727 19 0 (by decide)).trans f711
  have f729 := (hn727 19 1 (by decide)).trans f712
  have f730 := (hn727 19 2 (by decide)).trans f713
  have f731 := (hn727 19 3 (by decide)).trans f714
  have f732 := (hn727 19 4 (by decide)).trans f715
  have f733 := (hn727 19 5 (by decide)).trans f716
  have f734 := (hn727 19 6 (by decide)).trans f717
  have f735 := (hn727 19 7 (by decide)).trans f718
  have f736 := (hn727 19 8 (by decide)).trans f719
  have f737 := (hn727 19 9 (by decide)).trans f720
  have f738 := (hn727 19 10 (by decide)).trans f721
  have f739 := (hn727 7 0 (by decide)).trans f722
  have f740 := (hn727 0 3 (by decide)).trans f723
  clear hn727 f711 f712 f713 f714 f715 f716 f717 f718 f719 f720 f721 f722 f723 hv709 hU708 M707
  refine w_lo (ml' := [some (.ref 49), some (.ref 7), some (.int 2)]) dX6_begin_96 rfl rfl rfl rfl ?_
  refine w_gt dX6_begin_99 (t := 20) rfl ?_
  refine w_lo dX6_begin_20 rfl rfl rfl rfl ?_
  refine w_bi dX6_begin_21 (c := 12) (by decide) ?_
  refine w_cge_f dX6_begin_23 (t := 102) rfl (by decide) ?_
  refine w_lo dX6_begin_26 rfl rfl rfl rfl ?_
  refine w_gf dX6_begin_27 rfl hU725.1 rfl ((hU725).2 49 2 rfl |>.trans zq_49_2) ?_
  refine w_lo dX6_begin_30 rfl rfl rfl rfl ?_
  refine w_lo dX6_begin_31 rfl rfl rfl rfl ?_
  refine w_is dX6_begin_32 hU725 rfl (k := 2) zt_2 (Nat.le_of_ble_eq_true rfl) ?_
  intro M741 hU742 hv743 hn744
  have f745 := (hn744 19 0 (by decide)).trans f728
  have f746 := (hn744 19 1 (by decide)).trans f729
  have f747 := (hn744 19 2 (by decide)).trans f730
  have f748 := (hn744 19 3 (by decide)).trans f731
  have f749 := (hn744 19 4 (by decide)).trans f732
  have f750 := (hn744 19 5 (by decide)).trans f733
  have f751 := (hn744 19 6 (by decide)).trans f734
  have f752 := (hn744 19 7 (by decide)).trans f735
  have f753 := (hn744 19 8 (by decide)).trans f736
  have f754 := (hn744 19 9 (by decide)).trans f737
  have f755 := (hn744 19 10 (by decide)).trans f738
  have f756 := (hn744 7 0 (by decide)).trans f739
  have f757 := (hn744 0 3 (by decide)).trans f740
  clear hn744 f728 f729 f730 f731 f732 f733 f734 f735 f736 f737 f738 f739 f740 hv726 hU725 M724
  refine w_lo dX6_begin_33 rfl rfl rfl rfl ?_
  refine w_gf dX6_begin_34 rfl hU742.1 rfl ((hU742).2 49 3 rfl |>.trans zq_49_3) ?_
  refine w_lo dX6_begin_37 rfl rfl rfl rfl ?_
  refine w_ic dX6_begin_38 zi_1 ?_
  refine w_bs dX6_begin_39 hU742 rfl (k := 2) zt_2 (Nat.le_of_ble_eq_true rfl) rfl ?_
  intro M758 hU759 hv760 hn761
  have f762 := (hn761 19 0 (by decide)).trans f745
  have f763 := (hn761 19 1 (by decide)).trans f746
  have f764 := (hn761 19 2 (by decide)).trans f747
  have f765 := (hn761 19 3 (by decide)).trans f748
  have f766 := (hn761 19 4 (by decide)).trans f749
  have f767 := (hn761 19 5 (by decide)).trans f750
  have f768 := (hn761 19 6 (by decide)).trans f751
  have f769 := (hn761 19 7 (by decide)).trans f752
  have f770 := (hn761 19 8 (by decide)).trans f753
  have f771 := (hn761 19 9 (by decide)).trans f754
  have f772 := (hn761 19 10 (by decide)).trans f755
  have f773 := (hn761 7 0 (by decide)).trans f756
  have f774 := (hn761 0 3 (by decide)).trans f757
  clear hn761 f745 f746 f747 f748 f749 f750 f751 f752 f753 f754 f755 f756 f757 hv743 hU742 M741
  refine w_lo dX6_begin_40 rfl rfl rfl rfl ?_
  refine w_gf dX6_begin_41 rfl hU759.1 rfl ((hU759).2 49 4 rfl |>.trans zq_49_4) ?_
  refine w_lo dX6_begin_44 rfl rfl rfl rfl ?_
  refine w_ic dX6_begin_45 zi_m1 ?_
  refine w_is dX6_begin_46 hU759 rfl (k := 2) zt_2 (Nat.le_of_ble_eq_true rfl) ?_
  intro M775 hU776 hv777 hn778
  have f779 := (hn778 19 0 (by decide)).trans f762
  have f780 := (hn778 19 1 (by decide)).trans f763
  have f781 := (hn778 19 2 (by decide)).trans f764
  have f782 := (hn778 19 3 (by decide)).trans f765
  have f783 := (hn778 19 4 (by decide)).trans f766
  have f784 := (hn778 19 5 (by decide)).trans f767
  have f785 := (hn778 19 6 (by decide)).trans f768
  have f786 := (hn778 19 7 (by decide)).trans f769
  have f787 := (hn778 19 8 (by decide)).trans f770
  have f788 := (hn778 19 9 (by decide)).trans f771
  have f789 := (hn778 19 10 (by decide)).trans f772
  have f790 := (hn778 7 0 (by decide)).trans f773
  have f791 := (hn778 0 3 (by decide)).trans f774
  clear hn778 f762 f763 f764 f765 f766 f767 f768 f769 f770 f771 f772 f773 f774 hv760 hU759 M758
  refine w_lo dX6_begin_47 rfl rfl rfl rfl ?_
  refine w_gf dX6_begin_48 rfl hU776.1 rfl ((hU776).2 49 5 rfl |>.trans zq_49_5) ?_
  refine w_lo dX6_begin_51 rfl rfl rfl rfl ?_
  refine w_ic dX6_begin_52 zi_0 ?_
  refine w_is dX6_begin_53 hU776 rfl (k := 2) zt_2 (Nat.le_of_ble_eq_true rfl) ?_
  intro M792 hU793 hv794 hn795
  have f796 := (hn795 19 0 (by decide)).trans f779
  have f797 := (hn795 19 1 (by decide)).trans f780
  have f798 := (hn795 19 2 (by decide)).trans f781
  have f799 := (hn795 19 3 (by decide)).trans f782
  have f800 := (hn795 19 4 (by decide)).trans f783
  have f801 := (hn795 19 5 (by decide)).trans f784
  have f802 := (hn795 19 6 (by decide)).trans f785
  have f803 := (hn795 19 7 (by decide)).trans f786
  have f804 := (hn795 19 8 (by decide)).trans f787
  have f805 := (hn795 19 9 (by decide)).trans f788
  have f806 := (hn795 19 10 (by decide)).trans f789
  have f807 := (hn795 7 0 (by decide)).trans f790
  have f808 := (hn795 0 3 (by decide)).trans f791
  clear hn795 f779 f780 f781 f782 f783 f784 f785 f786 f787 f788 f789 f790 f791 hv777 hU776 M775
  refine w_lo dX6_begin_54 rfl rfl rfl rfl ?_
  refine w_gf dX6_begin_55 rfl hU793.1 rfl ((hU793).2 49 6 rfl |>.trans zq_49_6) ?_
  refine w_lo dX6_begin_58 rfl rfl rfl rfl ?_
  refine w_ic dX6_begin_59 zi_m1 ?_
  refine w_is dX6_begin_60 hU793 rfl (k := 2) zt_2 (Nat.le_of_ble_eq_true rfl) ?_
  intro M809 hU810 hv811 hn812
  have f813 := (hn812 19 0 (by decide)).trans f796
  have f814 := (hn812 19 1 (by decide)).trans f797
  have f815 := (hn812 19 2 (by decide)).trans f798
  have f816 := (hn812 19 3 (by decide)).trans f799
  have f817 := (hn812 19 4 (by decide)).trans f800
  have f818 := (hn812 19 5 (by decide)).trans f801
  have f819 := (hn812 19 6 (by decide)).trans f802
  have f820 := (hn812 19 7 (by decide)).trans f803
  have f821 := (hn812 19 8 (by decide)).trans f804
  have f822 := (hn812 19 9 (by decide)).trans f805
  have f823 := (hn812 19 10 (by decide)).trans f806
  have f824 := (hn812 7 0 (by decide)).trans f807
  have f825 := (hn812 0 3 (by decide)).trans f808
  clear hn812 f796 f797 f798 f799 f800 f801 f802 f803 f804 f805 f806 f807 f808 hv794 hU793 M792
  refine w_lo dX6_begin_61 rfl rfl rfl rfl ?_
  refine w_gf dX6_begin_62 rfl hU810.1 rfl ((hU810).2 49 7 rfl |>.trans zq_49_7) ?_
  refine w_lo dX6_begin_65 rfl rfl rfl rfl ?_
  refine w_ic dX6_begin_66 zi_0 ?_
  refine w_is dX6_begin_67 hU810 rfl (k := 2) zt_2 (Nat.le_of_ble_eq_true rfl) ?_
  intro M826 hU827 hv828 hn829
  have f830 := (hn829 19 0 (by decide)).trans f813
  have f831 := (hn829 19 1 (by decide)).trans f814
  have f832 := (hn829 19 2 (by decide)).trans f815
  have f833 := (hn829 19 3 (by decide)).trans f816
  have f834 := (hn829 19 4 (by decide)).trans f817
  have f835 := (hn829 19 5 (by decide)).trans f818
  have f836 := (hn829 19 6 (by decide)).trans f819
  have f837 := (hn829 19 7 (by decide)).trans f820
  have f838 := (hn829 19 8 (by decide)).trans f821
  have f839 := (hn829 19 9 (by decide)).trans f822
  have f840 := (hn829 19 10 (by decide)).trans f823
  have f841 := (hn829 7 0 (by decide)).trans f824
  have f842 := (hn829 0 3 (by decide)).trans f825
  clear hn829 f813 f814 f815 f816 f817 f818 f819 f820 f821 f822 f823 f824 f825 hv811 hU810 M809
  refine w_lo dX6_begin_68 rfl rfl rfl rfl ?_
  refine w_gf dX6_begin_69 rfl hU827.1 rfl ((hU827).2 49 8 rfl |>.trans zq_49_8) ?_
  refine w_lo dX6_begin_72 rfl rfl rfl rfl ?_
  refine w_ic dX6_begin_73 zi_m1 ?_
  refine w_is dX6_begin_74 hU827 rfl (k := 2) zt_2 (Nat.le_of_ble_eq_true rfl) ?_
  intro M843 hU844 hv845 hn846
  have f847 := (hn846 19 0 (by decide)).trans f830
  have f848 := (hn846 19 1 (by decide)).trans f831
  have f849 := (hn846 19 2 (by decide)).trans f832
  have f850 := (hn846 19 3 (by decide)).trans f833
  have f851 := (hn846 19 4 (by decide)).trans f834
  have f852 := (hn846 19 5 (by decide)).trans f835
  have f853 := (hn846 19 6 (by decide)).trans f836
  have f854 := (hn846 19 7 (by decide)).trans f837
  have f855 := (hn846 19 8 (by decide)).trans f838
  have f856 := (hn846 19 9 (by decide)).trans f839
  have f857 := (hn846 19 10 (by decide)).trans f840
  have f858 := (hn846 7 0 (by decide)).trans f841
  have f859 := (hn846 0 3 (by decide)).trans f842
  clear hn846 f830 f831 f832 f833 f834 f835 f836 f837 f838 f839 f840 f841 f842 hv828 hU827 M826
  refine w_lo dX6_begin_75 rfl rfl rfl rfl ?_
  refine w_gf dX6_begin_76 rfl hU844.1 rfl ((hU844).2 49 9 rfl |>.trans zq_49_9) ?_
  refine w_lo dX6_begin_79 rfl rfl rfl rfl ?_
  refine w_ic dX6_begin_80 zi_0 ?_
  refine w_is dX6_begin_81 hU844 rfl (k := 2) zt_2 (Nat.le_of_ble_eq_true rfl) ?_
  intro M860 hU861 hv862 hn863
  have f864 := (hn863 19 0 (by decide)).trans f847
  have f865 := (hn863 19 1 (by decide)).trans f848
  have f866 := (hn863 19 2 (by decide)).trans f849
  have f867 := (hn863 19 3 (by decide)).trans f850
  have f868 := (hn863 19 4 (by decide)).trans f851
  have f869 := (hn863 19 5 (by decide)).trans f852
  have f870 := (hn863 19 6 (by decide)).trans f853
  have f871 := (hn863 19 7 (by decide)).trans f854
  have f872 := (hn863 19 8 (by decide)).trans f855
  have f873 := (hn863 19 9 (by decide)).trans f856
  have f874 := (hn863 19 10 (by decide)).trans f857
  have f875 := (hn863 7 0 (by decide)).trans f858
  have f876 := (hn863 0 3 (by decide)).trans f859
  clear hn863 f847 f848 f849 f850 f851 f852 f853 f854 f855 f856 f857 f858 f859 hv845 hU844 M843
  refine w_lo dX6_begin_82 rfl rfl rfl rfl ?_
  refine w_gf dX6_begin_83 rfl hU861.1 rfl ((hU861).2 49 10 rfl |>.trans zq_49_10) ?_
  refine w_lo dX6_begin_86 rfl rfl rfl rfl ?_
  refine w_ic dX6_begin_87 zi_0 ?_
  refine w_is dX6_begin_88 hU861 rfl (k := 2) zt_2 (Nat.le_of_ble_eq_true rfl) ?_
  intro M877 hU878 hv879 hn880
  have f881 := (hn880 19 0 (by decide)).trans f864
  have f882 := (hn880 19 1 (by decide)).trans f865
  have f883 := (hn880 19 2 (by decide)).trans f866
  have f884 := (hn880 19 3 (by decide)).trans f867
  have f885 := (hn880 19 4 (by decide)).trans f868
  have f886 := (hn880 19 5 (by decide)).trans f869
  have f887 := (hn880 19 6 (by decide)).trans f870
  have f888 := (hn880 19 7 (by decide)).trans f871
  have f889 := (hn880 19 8 (by decide)).trans f872
  have f890 := (hn880 19 9 (by decide)).trans f873
  have f891 := (hn880 19 10 (by decide)).trans f874
  have f892 := (hn880 7 0 (by decide)).trans f875
  have f893 := (hn880 0 3 (by decide)).trans f876
  clear hn880 f864 f865 f866 f867 f868 f869 f870 f871 f872 f873 f874 f875 f876 hv862 hU861 M860
  refine w_lo dX6_begin_89 rfl rfl rfl rfl ?_
  refine w_gf dX6_begin_90 rfl hU878.1 rfl ((hU878).2 49 11 rfl |>.trans zq_49_11) ?_
  refine w_lo dX6_begin_93 rfl rfl rfl rfl ?_
  refine w_ic dX6_begin_94 zi_0 ?_
  refine w_is dX6_begin_95 hU878 rfl (k := 2) zt_2 (Nat.le_of_ble_eq_true rfl) ?_
  intro M894 hU895 hv896 hn897
  have f898 := (hn897 19 0 (by decide)).trans f881
  have f899 := (hn897 19 1 (by decide)).trans f882
  have f900 := (hn897 19 2 (by decide)).trans f883
  have f901 := (hn897 19 3 (by decide)).trans f884
  have f902 := (hn897 19 4 (by decide)).trans f885
  have f903 := (hn897 19 5 (by decide)).trans f886
  have f904 := (hn897 19 6 (by decide)).trans f887
  have f905 := (hn897 19 7 (by decide)).trans f888
  have f906 := (hn897 19 8 (by decide)).trans f889
  have f907 := (hn897 19 9 (by decide)).trans f890
  have f908 := (hn897 19 10 (by decide)).trans f891
  have f909 := (hn897 7 0 (by decide)).trans f892
  have f910 := (hn897 0 3 (by decide)).trans f893
  clear hn897 f881 f882 f883 f884 f885 f886 f887 f888 f889 f890 f891 f892 f893 hv879 hU878 M877
  refine w_lo (ml' := [some (.ref 49), some (.ref 7), some (.int 3)]) dX6_begin_96 rfl rfl rfl rfl ?_
  refine w_gt dX6_begin_99 (t := 20) rfl ?_
  refine w_lo dX6_begin_20 rfl rfl rfl rfl ?_
  refine w_bi dX6_begin_21 (c := 12) (by decide) ?_
  refine w_cge_f dX6_begin_23 (t := 102) rfl (by decide) ?_
  refine w_lo dX6_begin_26 rfl rfl rfl rfl ?_
  refine w_gf dX6_begin_27 rfl hU895.1 rfl ((hU895).2 49 2 rfl |>.trans zq_49_2) ?_
  refine w_lo dX6_begin_30 rfl rfl rfl rfl ?_
  refine w_lo dX6_begin_31 rfl rfl rfl rfl ?_
  refine w_is dX6_begin_32 hU895 rfl (k := 3) zt_3 (Nat.le_of_ble_eq_true rfl) ?_
  intro M911 hU912 hv913 hn914
  have f915 := (hn914 19 0 (by decide)).trans f898
  have f916 := (hn914 19 1 (by decide)).trans f899
  have f917 := (hn914 19 2 (by decide)).trans f900
  have f918 := (hn914 19 3 (by decide)).trans f901
  have f919 := (hn914 19 4 (by decide)).trans f902
  have f920 := (hn914 19 5 (by decide)).trans f903
  have f921 := (hn914 19 6 (by decide)).trans f904
  have f922 := (hn914 19 7 (by decide)).trans f905
  have f923 := (hn914 19 8 (by decide)).trans f906
  have f924 := (hn914 19 9 (by decide)).trans f907
  have f925 := (hn914 19 10 (by decide)).trans f908
  have f926 := (hn914 7 0 (by decide)).trans f909
  have f927 := (hn914 0 3 (by decide)).trans f910
  clear hn914 f898 f899 f900 f901 f902 f903 f904 f905 f906 f907 f908 f909 f910 hv896 hU895 M894
  refine w_lo dX6_begin_33 rfl rfl rfl rfl ?_
  refine w_gf dX6_begin_34 rfl hU912.1 rfl ((hU912).2 49 3 rfl |>.trans zq_49_3) ?_
  refine w_lo dX6_begin_37 rfl rfl rfl rfl ?_
  refine w_ic dX6_begin_38 zi_1 ?_
  refine w_bs dX6_begin_39 hU912 rfl (k := 3) zt_3 (Nat.le_of_ble_eq_true rfl) rfl ?_
  intro M928 hU929 hv930 hn931
  have f932 := (hn931 19 0 (by decide)).trans f915
  have f933 := (hn931 19 1 (by decide)).trans f916
  have f934 := (hn931 19 2 (by decide)).trans f917
  have f935 := (hn931 19 3 (by decide)).trans f918
  have f936 := (hn931 19 4 (by decide)).trans f919
  have f937 := (hn931 19 5 (by decide)).trans f920
  have f938 := (hn931 19 6 (by decide)).trans f921
  have f939 := (hn931 19 7 (by decide)).trans f922
  have f940 := (hn931 19 8 (by decide)).trans f923
  have f941 := (hn931 19 9 (by decide)).trans f924
  have f942 := (hn931 19 10 (by decide)).trans f925
  have f943 := (hn931 7 0 (by decide)).trans f926
  have f944 := (hn931 0 3 (by decide)).trans f927
  clear hn931 f915 f916 f917 f918 f919 f920 f921 f922 f923 f924 f925 f926 f927 hv913 hU912 M911
  refine w_lo dX6_begin_40 rfl rfl rfl rfl ?_
  refine w_gf dX6_begin_41 rfl hU929.1 rfl ((hU929).2 49 4 rfl |>.trans zq_49_4) ?_
  refine w_lo dX6_begin_44 rfl rfl rfl rfl ?_
  refine w_ic dX6_begin_45 zi_m1 ?_
  refine w_is dX6_begin_46 hU929 rfl (k := 3) zt_3 (Nat.le_of_ble_eq_true rfl) ?_
  intro M945 hU946 hv947 hn948
  have f949 := (hn948 19 0 (by decide)).trans f932
  have f950 := (hn948 19 1 (by decide)).trans f933
  have f951 := (hn948 19 2 (by decide)).trans f934
  have f952 := (hn948 19 3 (by decide)).trans f935
  have f953 := (hn948 19 4 (by decide)).trans f936
  have f954 := (hn948 19 5 (by decide)).trans f937
  have f955 := (hn948 19 6 (by decide)).trans f938
  have f956 := (hn948 19 7 (by decide)).trans f939
  have f957 := (hn948 19 8 (by decide)).trans f940
  have f958 := (hn948 19 9 (by decide)).trans f941
  have f959 := (hn948 19 10 (by decide)).trans f942
  have f960 := (hn948 7 0 (by decide)).trans f943
  have f961 := (hn948 0 3 (by decide)).trans f944
  clear hn948 f932 f933 f934 f935 f936 f937 f938 f939 f940 f941 f942 f943 f944 hv930 hU929 M928
  refine w_lo dX6_begin_47 rfl rfl rfl rfl ?_
  refine w_gf dX6_begin_48 rfl hU946.1 rfl ((hU946).2 49 5 rfl |>.trans zq_49_5) ?_
  refine w_lo dX6_begin_51 rfl rfl rfl rfl ?_
  refine w_ic dX6_begin_52 zi_0 ?_
  refine w_is dX6_begin_53 hU946 rfl (k := 3) zt_3 (Nat.le_of_ble_eq_true rfl) ?_
  intro M962 hU963 hv964 hn965
  have f966 := (hn965 19 0 (by decide)).trans f949
  have f967 := (hn965 19 1 (by decide)).trans f950
  have f968 := (hn965 19 2 (by decide)).trans f951
  have f969 := (hn965 19 3 (by decide)).trans f952
  have f970 := (hn965 19 4 (by decide)).trans f953
  have f971 := (hn965 19 5 (by decide)).trans f954
  have f972 := (hn965 19 6 (by decide)).trans f955
  have f973 := (hn965 19 7 (by decide)).trans f956
  have f974 := (hn965 19 8 (by decide)).trans f957
  have f975 := (hn965 19 9 (by decide)).trans f958
  have f976 := (hn965 19 10 (by decide)).trans f959
  have f977 := (hn965 7 0 (by decide)).trans f960
  have f978 := (hn965 0 3 (by decide)).trans f961
  clear hn965 f949 f950 f951 f952 f953 f954 f955 f956 f957 f958 f959 f960 f961 hv947 hU946 M945
  refine w_lo dX6_begin_54 rfl rfl rfl rfl ?_
  refine w_gf dX6_begin_55 rfl hU963.1 rfl ((hU963).2 49 6 rfl |>.trans zq_49_6) ?_
  refine w_lo dX6_begin_58 rfl rfl rfl rfl ?_
  refine w_ic dX6_begin_59 zi_m1 ?_
  refine w_is dX6_begin_60 hU963 rfl (k := 3) zt_3 (Nat.le_of_ble_eq_true rfl) ?_
  intro M979 hU980 hv981 hn982
  have f983 := (hn982 19 0 (by decide)).trans f966
  have f984 := (hn982 19 1 (by decide)).trans f967
  have f985 := (hn982 19 2 (by decide)).trans f968
  have f986 := (hn982 19 3 (by decide)).trans f969
  have f987 := (hn982 19 4 (by decide)).trans f970
  have f988 := (hn982 19 5 (by decide)).trans f971
  have f989 := (hn982 19 6 (by decide)).trans f972
  have f990 := (hn982 19 7 (by decide)).trans f973
  have f991 := (hn982 19 8 (by decide)).trans f974
  have f992 := (hn982 19 9 (by decide)).trans f975
  have f993 := (hn982 19 10 (by decide)).trans f976
  have f994 := (hn982 7 0 (by decide)).trans f977
  have f995 := (hn982 0 3 (by decide)).trans f978
  clear hn982 f966 f967 f968 f969 f970 f971 f972 f973 f974 f975 f976 f977 f978 hv964 hU963 M962
  refine w_lo dX6_begin_61 rfl rfl rfl rfl ?_
  refine w_gf dX6_begin_62 rfl hU980.1 rfl ((hU980).2 49 7 rfl |>.trans zq_49_7) ?_
  refine w_lo dX6_begin_65 rfl rfl rfl rfl ?_
  refine w_ic dX6_begin_66 zi_0 ?_
  refine w_is dX6_begin_67 hU980 rfl (k := 3) zt_3 (Nat.le_of_ble_eq_true rfl) ?_
  intro M996 hU997 hv998 hn999
  have f1000 := (hn999 19 0 (by decide)).trans f983
  have f1001 := (hn999 19 1 (by decide)).trans f984
  have f1002 := (hn999 19 2 (by decide)).trans f985
  have f1003 := (hn999 19 3 (by decide)).trans f986
  have f1004 := (hn999 19 4 (by decide)).trans f987
  have f1005 := (hn999 19 5 (by decide)).trans f988
  have f1006 := (hn999 19 6 (by decide)).trans f989
  have f1007 := (hn999 19 7 (by decide)).trans f990
  have f1008 := (hn999 19 8 (by decide)).trans f991
  have f1009 := (hn999 19 9 (by decide)).trans f992
  have f1010 := (hn999 19 10 (by decide)).trans f993
  have f1011 := (hn999 7 0 (by decide)).trans f994
  have f1012 := (hn999 0 3 (by decide)).trans f995
  clear hn999 f983 f984 f985 f986 f987 f988 f989 f990 f991 f992 f993 f994 f995 hv981 hU980 M979
  refine w_lo dX6_begin_68 rfl rfl rfl rfl ?_
  refine w_gf dX6_begin_69 rfl hU997.1 rfl ((hU997).2 49 8 rfl |>.trans zq_49_8) ?_
  refine w_lo dX6_begin_72 rfl rfl rfl rfl ?_
  refine w_ic dX6_begin_73 zi_m1 ?_
  refine w_is dX6_begin_74 hU997 rfl (k := 3) zt_3 (Nat.le_of_ble_eq_true rfl) ?_
  intro M1013 hU1014 hv1015 hn1016
  have f1017 := (hn1016 19 0 (by decide)).trans f1000
  have f1018 := (hn1016 19 1 (by decide)).trans f1001
  have f1019 := (hn1016 19 2 (by decide)).trans f1002
  have f1020 := (hn1016 19 3 (by decide)).trans f1003
  have f1021 := (hn1016 19 4 (by decide)).trans f1004
  have f1022 := (hn1016 19 5 (by decide)).trans f1005
  have f1023 := (hn1016 19 6 (by decide)).trans f1006
  have f1024 := (hn1016 19 7 (by decide)).trans f1007
  have f1025 := (hn1016 19 8 (by decide)).trans f1008
  have f1026 := (hn1016 19 9 (by decide)).trans f1009
  have f1027 := (hn1016 19 10 (by decide)).trans f1010
  have f1028 := (hn1016 7 0 (by decide)).trans f1011
  have f1029 := (hn1016 0 3 (by decide)).trans f1012
  clear hn1016 f1000 f1001 f1002 f1003 f1004 f1005 f1006 f1007 f1008 f1009 f1010 f1011 f1012 hv998 hU997 M996
  refine w_lo dX6_begin_75 rfl rfl rfl rfl ?_
  refine w_gf dX6_begin_76 rfl hU1014.1 rfl ((hU1014).2 49 9 rfl |>.trans zq_49_9) ?_
  refine w_lo dX6_begin_79 rfl rfl rfl rfl ?_
  refine w_ic dX6_begin_80 zi_0 ?_
  refine w_is dX6_begin_81 hU1014 rfl (k := 3) zt_3 (Nat.le_of_ble_eq_true rfl) ?_
  intro M1030 hU1031 hv1032 hn1033
  have f1034 := (hn1033 19 0 (by decide)).trans f1017
  have f1035 := (hn1033 19 1 (by decide)).trans f1018
  have f1036 := (hn1033 19 2 (by decide)).trans f1019
  have f1037 := (hn1033 19 3 (by decide)).trans f1020
  have f1038 := (hn1033 19 4 (by decide)).trans f1021
  have f1039 := (hn1033 19 5 (by decide)).trans f1022
  have f1040 := (hn1033 19 6 (by decide)).trans f1023
  have f1041 := (hn1033 19 7 (by decide)).trans f1024
  have f1042 := (hn1033 19 8 (by decide)).trans f1025
  have f1043 := (hn1033 19 9 (by decide)).trans f1026
  have f1044 := (hn1033 19 10 (by decide)).trans f1027
  have f1045 := (hn1033 7 0 (by decide)).trans f1028
  have f1046 := (hn1033 0 3 (by decide)).trans f1029
  clear hn1033 f1017 f1018 f1019 f1020 f1021 f1022 f1023 f1024 f1025 f1026 f1027 f1028 f1029 hv1015 hU1014 M1013
  refine w_lo dX6_begin_82 rfl rfl rfl rfl ?_
  refine w_gf dX6_begin_83 rfl hU1031.1 rfl ((hU1031).2 49 10 rfl |>.trans zq_49_10) ?_
  refine w_lo dX6_begin_86 rfl rfl rfl rfl ?_
  refine w_ic dX6_begin_87 zi_0 ?_
  refine w_is dX6_begin_88 hU1031 rfl (k := 3) zt_3 (Nat.le_of_ble_eq_true rfl) ?_
  intro M1047 hU1048 hv1049 hn1050
  have f1051 := (hn1050 19 0 (by decide)).trans f1034
  have f1052 := (hn1050 19 1 (by decide)).trans f1035
  have f1053 := (hn1050 19 2 (by decide)).trans f1036
  have f1054 := (hn1050 19 3 (by decide)).trans f1037
  have f1055 := (hn1050 19 4 (by decide)).trans f1038
  have f1056 := (hn1050 19 5 (by decide)).trans f1039
  have f1057 := (hn1050 19 6 (by decide)).trans f1040
  have f1058 := (hn1050 19 7 (by decide)).trans f1041
  have f1059 := (hn1050 19 8 (by decide)).trans f1042
  have f1060 := (hn1050 19 9 (by decide)).trans f1043
  have f1061 := (hn1050 19 10 (by decide)).trans f1044
  have f1062 := (hn1050 7 0 (by decide)).trans f1045
  have f1063 := (hn1050 0 3 (by decide)).trans f1046
  clear hn1050 f1034 f1035 f1036 f1037 f1038 f1039 f1040 f1041 f1042 f1043 f1044 f1045 f1046 hv1032 hU1031 M1030
  refine w_lo dX6_begin_89 rfl rfl rfl rfl ?_
  refine w_gf dX6_begin_90 rfl hU1048.1 rfl ((hU1048).2 49 11 rfl |>.trans zq_49_11) ?_
  refine w_lo dX6_begin_93 rfl rfl rfl rfl ?_
  refine w_ic dX6_begin_94 zi_0 ?_
  refine w_is dX6_begin_95 hU1048 rfl (k := 3) zt_3 (Nat.le_of_ble_eq_true rfl) ?_
  intro M1064 hU1065 hv1066 hn1067
  have f1068 := (hn1067 19 0 (by decide)).trans f1051
  have f1069 := (hn1067 19 1 (by decide)).trans f1052
  have f1070 := (hn1067 19 2 (by decide)).trans f1053
  have f1071 := (hn1067 19 3 (by decide)).trans f1054
  have f1072 := (hn1067 19 4 (by decide)).trans f1055
  have f1073 := (hn1067 19 5 (by decide)).trans f1056
  have f1074 := (hn1067 19 6 (by decide)).trans f1057
  have f1075 := (hn1067 19 7 (by decide)).trans f1058
  have f1076 := (hn1067 19 8 (by decide)).trans f1059
  have f1077 := (hn1067 19 9 (by decide)).trans f1060
  have f1078 := (hn1067 19 10 (by decide)).trans f1061
  have f1079 := (hn1067 7 0 (by decide)).trans f1062
  have f1080 := (hn1067 0 3 (by decide)).trans f1063
  clear hn1067 f1051 f1052 f1053 f1054 f1055 f1056 f1057 f1058 f1059 f1060 f1061 f1062 f1063 hv1049 hU1048 M1047
  refine w_lo (ml' := [some (.ref 49), some (.ref 7), some (.int 4)]) dX6_begin_96 rfl rfl rfl rfl ?_
  refine w_gt dX6_begin_99 (t := 20) rfl ?_
  refine w_lo dX6_begin_20 rfl rfl rfl rfl ?_
  refine w_bi dX6_begin_21 (c := 12) (by decide) ?_
  refine w_cge_f dX6_begin_23 (t := 102) rfl (by decide) ?_
  refine w_lo dX6_begin_26 rfl rfl rfl rfl ?_
  refine w_gf dX6_begin_27 rfl hU1065.1 rfl ((hU1065).2 49 2 rfl |>.trans zq_49_2) ?_
  refine w_lo dX6_begin_30 rfl rfl rfl rfl ?_
  refine w_lo dX6_begin_31 rfl rfl rfl rfl ?_
  refine w_is dX6_begin_32 hU1065 rfl (k := 4) zt_4 (Nat.le_of_ble_eq_true rfl) ?_
  intro M1081 hU1082 hv1083 hn1084
  have f1085 := (hn1084 19 0 (by decide)).trans f1068
  have f1086 := (hn1084 19 1 (by decide)).trans f1069
  have f1087 := (hn1084 19 2 (by decide)).trans f1070
  have f1088 := (hn1084 19 3 (by decide)).trans f1071
  have f1089 := (hn1084 19 4 (by decide)).trans f1072
  have f1090 := (hn1084 19 5 (by decide)).trans f1073
  have f1091 := (hn1084 19 6 (by decide)).trans f1074
  have f1092 := (hn1084 19 7 (by decide)).trans f1075
  have f1093 := (hn1084 19 8 (by decide)).trans f1076
  have f1094 := (hn1084 19 9 (by decide)).trans f1077
  have f1095 := (hn1084 19 10 (by decide)).trans f1078
  have f1096 := (hn1084 7 0 (by decide)).trans f1079
  have f1097 := (hn1084 0 3 (by decide)).trans f1080
  clear hn1084 f1068 f1069 f1070 f1071 f1072 f1073 f1074 f1075 f1076 f1077 f1078 f1079 f1080 hv1066 hU1065 M1064
  refine w_lo dX6_begin_33 rfl rfl rfl rfl ?_
  refine w_gf dX6_begin_34 rfl hU1082.1 rfl ((hU1082).2 49 3 rfl |>.trans zq_49_3) ?_
  refine w_lo dX6_begin_37 rfl rfl rfl rfl ?_
  refine w_ic dX6_begin_38 zi_1 ?_
  refine w_bs dX6_begin_39 hU1082 rfl (k := 4) zt_4 (Nat.le_of_ble_eq_true rfl) rfl ?_
  intro M1098 hU1099 hv1100 hn1101
  have f1102 := (hn1101 19 0 (by decide)).trans f1085
  have f1103 := (hn1101 19 1 (by decide)).trans f1086
  have f1104 := (hn1101 19 2 (by decide)).trans f1087
  have f1105 := (hn1101 19 3 (by decide)).trans f1088
  have f1106 := (hn1101 19 4 (by decide)).trans f1089
  have f1107 := (hn1101 19 5 (by decide)).trans f1090
  have f1108 := (hn1101 19 6 (by decide)).trans f1091
  have f1109 := (hn1101 19 7 (by decide)).trans f1092
  have f1110 := (hn1101 19 8 (by decide)).trans f1093
  have f1111 := (hn1101 19 9 (by decide)).trans f1094
  have f1112 := (hn1101 19 10 (by decide)).trans f1095
  have f1113 := (hn1101 7 0 (by decide)).trans f1096
  have f1114 := (hn1101 0 3 (by decide)).trans f1097
  clear hn1101 f1085 f1086 f1087 f1088 f1089 f1090 f1091 f1092 f1093 f1094 f1095 f1096 f1097 hv1083 hU1082 M1081
  refine w_lo dX6_begin_40 rfl rfl rfl rfl ?_
  refine w_gf dX6_begin_41 rfl hU1099.1 rfl ((hU1099).2 49 4 rfl |>.trans zq_49_4) ?_
  refine w_lo dX6_begin_44 rfl rfl rfl rfl ?_
  refine w_ic dX6_begin_45 zi_m1 ?_
  refine w_is dX6_begin_46 hU1099 rfl (k := 4) zt_4 (Nat.le_of_ble_eq_true rfl) ?_
  intro M1115 hU1116 hv1117 hn1118
  have f1119 := (hn1118 19 0 (by decide)).trans f1102
  have f1120 := (hn1118 19 1 (by decide)).trans f1103
  have f1121 := (hn1118 19 2 (by decide)).trans f1104
  have f1122 := (hn1118 19 3 (by decide)).trans f1105
  have f1123 := (hn1118 19 4 (by decide)).trans f1106
  have f1124 := (hn1118 19 5 (by decide)).trans f1107
  have f1125 := (hn1118 19 6 (by decide)).trans f1108
  have f1126 := (hn1118 19 7 (by decide)).trans f1109
  have f1127 := (hn1118 19 8 (by decide)).trans f1110
  have f1128 := (hn1118 19 9 (by decide)).trans f1111
  have f1129 := (hn1118 19 10 (by decide)).trans f1112
  have f1130 := (hn1118 7 0 (by decide)).trans f1113
  have f1131 := (hn1118 0 3 (by decide)).trans f1114
  clear hn1118 f1102 f1103 f1104 f1105 f1106 f1107 f1108 f1109 f1110 f1111 f1112 f1113 f1114 hv1100 hU1099 M1098
  refine w_lo dX6_begin_47 rfl rfl rfl rfl ?_
  refine w_gf dX6_begin_48 rfl hU1116.1 rfl ((hU1116).2 49 5 rfl |>.trans zq_49_5) ?_
  refine w_lo dX6_begin_51 rfl rfl rfl rfl ?_
  refine w_ic dX6_begin_52 zi_0 ?_
  refine w_is dX6_begin_53 hU1116 rfl (k := 4) zt_4 (Nat.le_of_ble_eq_true rfl) ?_
  intro M1132 hU1133 hv1134 hn1135
  have f1136 := (hn1135 19 0 (by decide)).trans f1119
  have f1137 := (hn1135 19 1 (by decide)).trans f1120
  have f1138 := (hn1135 19 2 (by decide)).trans f1121
  have f1139 := (hn1135 19 3 (by decide)).trans f1122
  have f1140 := (hn1135 19 4 (by decide)).trans f1123
  have f1141 := (hn1135 19 5 (by decide)).trans f1124
  have f1142 := (hn1135 19 6 (by decide)).trans f1125
  have f1143 := (hn1135 19 7 (by decide)).trans f1126
  have f1144 := (hn1135 19 8 (by decide)).trans f1127
  have f1145 := (hn1135 19 9 (by decide)).trans f1128
  have f1146 := (hn1135 19 10 (by decide)).trans f1129
  have f1147 := (hn1135 7 0 (by decide)).trans f1130
  have f1148 := (hn1135 0 3 (by decide)).trans f1131
  clear hn1135 f1119 f1120 f1121 f1122 f1123 f1124 f1125 f1126 f1127 f1128 f1129 f1130 f1131 hv1117 hU1116 M1115
  refine w_lo dX6_begin_54 rfl rfl rfl rfl ?_
  refine w_gf dX6_begin_55 rfl hU1133.1 rfl ((hU1133).2 49 6 rfl |>.trans zq_49_6) ?_
  refine w_lo dX6_begin_58 rfl rfl rfl rfl ?_
  refine w_ic dX6_begin_59 zi_m1 ?_
  refine w_is dX6_begin_60 hU1133 rfl (k := 4) zt_4 (Nat.le_of_ble_eq_true rfl) ?_
  intro M1149 hU1150 hv1151 hn1152
  have f1153 := (hn1152 19 0 (by decide)).trans f1136
  have f1154 := (hn1152 19 1 (by decide)).trans f1137
  have f1155 := (hn1152 19 2 (by decide)).trans f1138
  have f1156 := (hn1152 19 3 (by decide)).trans f1139
  have f1157 := (hn1152 19 4 (by decide)).trans f1140
  have f1158 := (hn1152 19 5 (by decide)).trans f1141
  have f1159 := (hn1152 19 6 (by decide)).trans f1142
  have f1160 := (hn1152 19 7 (by decide)).trans f1143
  have f1161 := (hn1152 19 8 (by decide)).trans f1144
  have f1162 := (hn1152 19 9 (by decide)).trans f1145
  have f1163 := (hn1152 19 10 (by decide)).trans f1146
  have f1164 := (hn1152 7 0 (by decide)).trans f1147
  have f1165 := (hn1152 0 3 (by decide)).trans f1148
  clear hn1152 f1136 f1137 f1138 f1139 f1140 f1141 f1142 f1143 f1144 f1145 f1146 f1147 f1148 hv1134 hU1133 M1132
  refine w_lo dX6_begin_61 rfl rfl rfl rfl ?_
  refine w_gf dX6_begin_62 rfl hU1150.1 rfl ((hU1150).2 49 7 rfl |>.trans zq_49_7) ?_
  refine w_lo dX6_begin_65 rfl rfl rfl rfl ?_
  refine w_ic dX6_begin_66 zi_0 ?_
  refine w_is dX6_begin_67 hU1150 rfl (k := 4) zt_4 (Nat.le_of_ble_eq_true rfl) ?_
  intro M1166 hU1167 hv1168 hn1169
  have f1170 := (hn1169 19 0 (by decide)).trans f1153
  have f1171 := (hn1169 19 1 (by decide)).trans f1154
  have f1172 := (hn1169 19 2 (by decide)).trans f1155
  have f1173 := (hn1169 19 3 (by decide)).trans f1156
  have f1174 := (hn1169 19 4 (by decide)).trans f1157
  have f1175 := (hn1169 19 5 (by decide)).trans f1158
  have f1176 := (hn1169 19 6 (by decide)).trans f1159
  have f1177 := (hn1169 19 7 (by decide)).trans f1160
  have f1178 := (hn1169 19 8 (by decide)).trans f1161
  have f1179 := (hn1169 19 9 (by decide)).trans f1162
  have f1180 := (hn1169 19 10 (by decide)).trans f1163
  have f1181 := (hn1169 7 0 (by decide)).trans f1164
  have f1182 := (hn1169 0 3 (by decide)).trans f1165
  clear hn1169 f1153 f1154 f1155 f1156 f1157 f1158 f1159 f1160 f1161 f1162 f1163 f1164 f1165 hv1151 hU1150 M1149
  refine w_lo dX6_begin_68 rfl rfl rfl rfl ?_
  refine w_gf dX6_begin_69 rfl hU1167.1 rfl ((hU1167).2 49 8 rfl |>.trans zq_49_8) ?_
  refine w_lo dX6_begin_72 rfl rfl rfl rfl ?_
  refine w_ic dX6_begin_73 zi_m1 ?_
  refine w_is dX6_begin_74 hU1167 rfl (k := 4) zt_4 (Nat.le_of_ble_eq_true rfl) ?_
  intro M1183 hU1184 hv1185 hn1186
  have f1187 := (hn1186 19 0 (by decide)).trans f1170
  have f1188 := (hn1186 19 1 (by decide)).trans f1171
  have f1189 := (hn1186 19 2 (by decide)).trans f1172
  have f1190 := (hn1186 19 3 (by decide)).trans f1173
  have f1191 := (hn1186 19 4 (by decide)).trans f1174
  have f1192 := (hn1186 19 5 (by decide)).trans f1175
  have f1193 := (hn1186 19 6 (by decide)).trans f1176
  have f1194 := (hn1186 19 7 (by decide)).trans f1177
  have f1195 := (hn1186 19 8 (by decide)).trans f1178
  have f1196 := (hn1186 19 9 (by decide)).trans f1179
  have f1197 := (hn1186 19 10 (by decide)).trans f1180
  have f1198 := (hn1186 7 0 (by decide)).trans f1181
  have f1199 := (hn1186 0 3 (by decide)).trans f1182
  clear hn1186 f1170 f1171 f1172 f1173 f1174 f1175 f1176 f1177 f1178 f1179 f1180 f1181 f1182 hv1168 hU1167 M1166
  refine w_lo dX6_begin_75 rfl rfl rfl rfl ?_
  refine w_gf dX6_begin_76 rfl hU1184.1 rfl ((hU1184).2 49 9 rfl |>.trans zq_49_9) ?_
  refine w_lo dX6_begin_79 rfl rfl rfl rfl ?_
  refine w_ic dX6_begin_80 zi_0 ?_
  refine w_is dX6_begin_81 hU1184 rfl (k := 4) zt_4 (Nat.le_of_ble_eq_true rfl) ?_
  intro M1200 hU1201 hv1202 hn1203
  have f1204 := (hn1203 19 0 (by decide)).trans f1187
  have f1205 := (hn1203 19 1 (by decide)).trans f1188
  have f1206 := (hn1203 19 2 (by decide)).trans f1189
  have f1207 := (hn1203 19 3 (by decide)).trans f1190
  have f1208 := (hn1203 19 4 (by decide)).trans f1191
  have f1209 := (hn1203 19 5 (by decide)).trans f1192
  have f1210 := (hn1203 19 6 (by decide)).trans f1193
  have f1211 := (hn1203 19 7 (by decide)).trans f1194
  have f1212 := (hn1203 19 8 (by decide)).trans f1195
  have f1213 := (hn1203 19 9 (by decide)).trans f1196
  have f1214 := (hn1203 19 10 (by decide)).trans f1197
  have f1215 := (hn1203 7 0 (by decide)).trans f1198
  have f1216 := (hn1203 0 3 (by decide)).trans f1199
  clear hn1203 f1187 f1188 f1189 f1190 f1191 f1192 f1193 f1194 f1195 f1196 f1197 f1198 f1199 hv1185 hU1184 M1183
  refine w_lo dX6_begin_82 rfl rfl rfl rfl ?_
  refine w_gf dX6_begin_83 rfl hU1201.1 rfl ((hU1201).2 49 10 rfl |>.trans zq_49_10) ?_
  refine w_lo dX6_begin_86 rfl rfl rfl rfl ?_
  refine w_ic dX6_begin_87 zi_0 ?_
  refine w_is dX6_begin_88 hU1201 rfl (k := 4) zt_4 (Nat.le_of_ble_eq_true rfl) ?_
  intro M1217 hU1218 hv1219 hn1220
  have f1221 := (hn1220 19 0 (by decide)).trans f1204
  have f1222 := (hn1220 19 1 (by decide)).trans f1205
  have f1223 := (hn1220 19 2 (by decide)).trans f1206
  have f1224 := (hn1220 19 3 (by decide)).trans f1207
  have f1225 := (hn1220 19 4 (by decide)).trans f1208
  have f1226 := (hn1220 19 5 (by decide)).trans f1209
  have f1227 := (hn1220 19 6 (by decide)).trans f1210
  have f1228 := (hn1220 19 7 (by decide)).trans f1211
  have f1229 := (hn1220 19 8 (by decide)).trans f1212
  have f1230 := (hn1220 19 9 (by decide)).trans f1213
  have f1231 := (hn1220 19 10 (by decide)).trans f1214
  have f1232 := (hn1220 7 0 (by decide)).trans f1215
  have f1233 := (hn1220 0 3 (by decide)).trans f1216
  clear hn1220 f1204 f1205 f1206 f1207 f1208 f1209 f1210 f1211 f1212 f1213 f1214 f1215 f1216 hv1202 hU1201 M1200
  refine w_lo dX6_begin_89 rfl rfl rfl rfl ?_
  refine w_gf dX6_begin_90 rfl hU1218.1 rfl ((hU1218).2 49 11 rfl |>.trans zq_49_11) ?_
  refine w_lo dX6_begin_93 rfl rfl rfl rfl ?_
  refine w_ic dX6_begin_94 zi_0 ?_
  refine w_is dX6_begin_95 hU1218 rfl (k := 4) zt_4 (Nat.le_of_ble_eq_true rfl) ?_
  intro M1234 hU1235 hv1236 hn1237
  have f1238 := (hn1237 19 0 (by decide)).trans f1221
  have f1239 := (hn1237 19 1 (by decide)).trans f1222
  have f1240 := (hn1237 19 2 (by decide)).trans f1223
  have f1241 := (hn1237 19 3 (by decide)).trans f1224
  have f1242 := (hn1237 19 4 (by decide)).trans f1225
  have f1243 := (hn1237 19 5 (by decide)).trans f1226
  have f1244 := (hn1237 19 6 (by decide)).trans f1227
  have f1245 := (hn1237 19 7 (by decide)).trans f1228
  have f1246 := (hn1237 19 8 (by decide)).trans f1229
  have f1247 := (hn1237 19 9 (by decide)).trans f1230
  have f1248 := (hn1237 19 10 (by decide)).trans f1231
  have f1249 := (hn1237 7 0 (by decide)).trans f1232
  have f1250 := (hn1237 0 3 (by decide)).trans f1233
  clear hn1237 f1221 f1222 f1223 f1224 f1225 f1226 f1227 f1228 f1229 f1230 f1231 f1232 f1233 hv1219 hU1218 M1217
  refine w_lo (ml' := [some (.ref 49), some (.ref 7), some (.int 5)]) dX6_begin_96 rfl rfl rfl rfl ?_
  refine w_gt dX6_begin_99 (t := 20) rfl ?_
  refine w_lo dX6_begin_20 rfl rfl rfl rfl ?_
  refine w_bi dX6_begin_21 (c := 12) (by decide) ?_
  refine w_cge_f dX6_begin_23 (t := 102) rfl (by decide) ?_
  refine w_lo dX6_begin_26 rfl rfl rfl rfl ?_
  refine w_gf dX6_begin_27 rfl hU1235.1 rfl ((hU1235).2 49 2 rfl |>.trans zq_49_2) ?_
  refine w_lo dX6_begin_30 rfl rfl rfl rfl ?_
  refine w_lo dX6_begin_31 rfl rfl rfl rfl ?_
  refine w_is dX6_begin_32 hU1235 rfl (k := 5) zt_5 (Nat.le_of_ble_eq_true rfl) ?_
  intro M1251 hU1252 hv1253 hn1254
  have f1255 := (hn1254 19 0 (by decide)).trans f1238
  have f1256 := (hn1254 19 1 (by decide)).trans f1239
  have f1257 := (hn1254 19 2 (by decide)).trans f1240
  have f1258 := (hn1254 19 3 (by decide)).trans f1241
  have f1259 := (hn1254 19 4 (by decide)).trans f1242
  have f1260 := (hn1254 19 5 (by decide)).trans f1243
  have f1261 := (hn1254 19 6 (by decide)).trans f1244
  have f1262 := (hn1254 19 7 (by decide)).trans f1245
  have f1263 := (hn1254 19 8 (by decide)).trans f1246
  have f1264 := (hn1254 19 9 (by decide)).trans f1247
  have f1265 := (hn1254 19 10 (by decide)).trans f1248
  have f1266 := (hn1254 7 0 (by decide)).trans f1249
  have f1267 := (hn1254 0 3 (by decide)).trans f1250
  clear hn1254 f1238 f1239 f1240 f1241 f1242 f1243 f1244 f1245 f1246 f1247 f1248 f1249 f1250 hv1236 hU1235 M1234
  refine w_lo dX6_begin_33 rfl rfl rfl rfl ?_
  refine w_gf dX6_begin_34 rfl hU1252.1 rfl ((hU1252).2 49 3 rfl |>.trans zq_49_3) ?_
  refine w_lo dX6_begin_37 rfl rfl rfl rfl ?_
  refine w_ic dX6_begin_38 zi_1 ?_
  refine w_bs dX6_begin_39 hU1252 rfl (k := 5) zt_5 (Nat.le_of_ble_eq_true rfl) rfl ?_
  intro M1268 hU1269 hv1270 hn1271
  have f1272 := (hn1271 19 0 (by decide)).trans f1255
  have f1273 := (hn1271 19 1 (by decide)).trans f1256
  have f1274 := (hn1271 19 2 (by decide)).trans f1257
  have f1275 := (hn1271 19 3 (by decide)).trans f1258
  have f1276 := (hn1271 19 4 (by decide)).trans f1259
  have f1277 := (hn1271 19 5 (by decide)).trans f1260
  have f1278 := (hn1271 19 6 (by decide)).trans f1261
  have f1279 := (hn1271 19 7 (by decide)).trans f1262
  have f1280 := (hn1271 19 8 (by decide)).trans f1263
  have f1281 := (hn1271 19 9 (by decide)).trans f1264
  have f1282 := (hn1271 19 10 (by decide)).trans f1265
  have f1283 := (hn1271 7 0 (by decide)).trans f1266
  have f1284 := (hn1271 0 3 (by decide)).trans f1267
  clear hn1271 f1255 f1256 f1257 f1258 f1259 f1260 f1261 f1262 f1263 f1264 f1265 f1266 f1267 hv1253 hU1252 M1251
  refine w_lo dX6_begin_40 rfl rfl rfl rfl ?_
  refine w_gf dX6_begin_41 rfl hU1269.1 rfl ((hU1269).2 49 4 rfl |>.trans zq_49_4) ?_
  refine w_lo dX6_begin_44 rfl rfl rfl rfl ?_
  refine w_ic dX6_begin_45 zi_m1 ?_
  refine w_is dX6_begin_46 hU1269 rfl (k := 5) zt_5 (Nat.le_of_ble_eq_true rfl) ?_
  intro M1285 hU1286 hv1287 hn1288
  have f1289 := (hn1288 19 0 (by decide)).trans f1272
  have f1290 := (hn1288 19 1 (by decide)).trans f1273
  have f1291 := (hn1288 19 2 (by decide)).trans f1274
  have f1292 := (hn1288 19 3 (by decide)).trans f1275
  have f1293 := (hn1288 19 4 (by decide)).trans f1276
  have f1294 := (hn1288 19 5 (by decide)).trans f1277
  have f1295 := (hn1288 19 6 (by decide)).trans f1278
  have f1296 := (hn1288 19 7 (by decide)).trans f1279
  have f1297 := (hn1288 19 8 (by decide)).trans f1280
  have f1298 := (hn1288 19 9 (by decide)).trans f1281
  have f1299 := (hn1288 19 10 (by decide)).trans f1282
  have f1300 := (hn1288 7 0 (by decide)).trans f1283
  have f1301 := (hn1288 0 3 (by decide)).trans f1284
  clear hn1288 f1272 f1273 f1274 f1275 f1276 f1277 f1278 f1279 f1280 f1281 f1282 f1283 f1284 hv1270 hU1269 M1268
  refine w_lo dX6_begin_47 rfl rfl rfl rfl ?_
  refine w_gf dX6_begin_48 rfl hU1286.1 rfl ((hU1286).2 49 5 rfl |>.trans zq_49_5) ?_
  refine w_lo dX6_begin_51 rfl rfl rfl rfl ?_
  refine w_ic dX6_begin_52 zi_0 ?_
  refine w_is dX6_begin_53 hU1286 rfl (k := 5) zt_5 (Nat.le_of_ble_eq_true rfl) ?_
  intro M1302 hU1303 hv1304 hn1305
  have f1306 := (hn1305 19 0 (by decide)).trans f1289
  have f1307 := (hn1305 19 1 (by decide)).trans f1290
  have f1308 := (hn1305 19 2 (by decide)).trans f1291
  have f1309 := (hn1305 19 3 (by decide)).trans f1292
  have f1310 := (hn1305 19 4 (by decide)).trans f1293
  have f1311 := (hn1305 19 5 (by decide)).trans f1294
  have f1312 := (hn1305 19 6 (by decide)).trans f1295
  have f1313 := (hn1305 19 7 (by decide)).trans f1296
  have f1314 := (hn1305 19 8 (by decide)).trans f1297
  have f1315 := (hn1305 19 9 (by decide)).trans f1298
  have f1316 := (hn1305 19 10 (by decide)).trans f1299
  have f1317 := (hn1305 7 0 (by decide)).trans f1300
  have f1318 := (hn1305 0 3 (by decide)).trans f1301
  clear hn1305 f1289 f1290 f1291 f1292 f1293 f1294 f1295 f1296 f1297 f1298 f1299 f1300 f1301 hv1287 hU1286 M1285
  refine w_lo dX6_begin_54 rfl rfl rfl rfl ?_
  refine w_gf dX6_begin_55 rfl hU1303.1 rfl ((hU1303).2 49 6 rfl |>.trans zq_49_6) ?_
  refine w_lo dX6_begin_58 rfl rfl rfl rfl ?_
  refine w_ic dX6_begin_59 zi_m1 ?_
  refine w_is dX6_begin_60 hU1303 rfl (k := 5) zt_5 (Nat.le_of_ble_eq_true rfl) ?_
  intro M1319 hU1320 hv1321 hn1322
  have f1323 := (hn1322 19 0 (by decide)).trans f1306
  have f1324 := (hn1322 19 1 (by decide)).trans f1307
  have f1325 := (hn1322 19 2 (by decide)).trans f1308
  have f1326 := (hn1322 19 3 (by decide)).trans f1309
  have f1327 := (hn1322 19 4 (by decide)).trans f1310
  have f1328 := (hn1322 19 5 (by decide)).trans f1311
  have f1329 := (hn1322 19 6 (by decide)).trans f1312
  have f1330 := (hn1322 19 7 (by decide)).trans f1313
  have f1331 := (hn1322 19 8 (by decide)).trans f1314
  have f1332 := (hn1322 19 9 (by decide)).trans f1315
  have f1333 := (hn1322 19 10 (by decide)).trans f1316
  have f1334 := (hn1322 7 0 (by decide)).trans f1317
  have f1335 := (hn1322 0 3 (by decide)).trans f1318
  clear hn1322 f1306 f1307 f1308 f1309 f1310 f1311 f1312 f1313 f1314 f1315 f1316 f1317 f1318 hv1304 hU1303 M1302
  refine w_lo dX6_begin_61 rfl rfl rfl rfl ?_
  refine w_gf dX6_begin_62 rfl hU1320.1 rfl ((hU1320).2 49 7 rfl |>.trans zq_49_7) ?_
  refine w_lo dX6_begin_65 rfl rfl rfl rfl ?_
  refine w_ic dX6_begin_66 zi_0 ?_
  refine w_is dX6_begin_67 hU1320 rfl (k := 5) zt_5 (Nat.le_of_ble_eq_true rfl) ?_
  intro M1336 hU1337 hv1338 hn1339
  have f1340 := (hn1339 19 0 (by decide)).trans f1323
  have f1341 := (hn1339 19 1 (by decide)).trans f1324
  have f1342 := (hn1339 19 2 (by decide)).trans f1325
  have f1343 := (hn1339 19 3 (by decide)).trans f1326
  have f1344 := (hn1339 19 4 (by decide)).trans f1327
  have f1345 := (hn1339 19 5 (by decide)).trans f1328
  have f1346 := (hn1339 19 6 (by decide)).trans f1329
  have f1347 := (hn1339 19 7 (by decide)).trans f1330
  have f1348 := (hn1339 19 8 (by decide)).trans f1331
  have f1349 := (hn1339 19 9 (by decide)).trans f1332
  have f1350 := (hn1339 19 10 (by decide)).trans f1333
  have f1351 := (hn1339 7 0 (by decide)).trans f1334
  have f1352 := (hn1339 0 3 (by decide)).trans f1335
  clear hn1339 f1323 f1324 f1325 f1326 f1327 f1328 f1329 f1330 f1331 f1332 f1333 f1334 f1335 hv1321 hU1320 M1319
  refine w_lo dX6_begin_68 rfl rfl rfl rfl ?_
  refine w_gf dX6_begin_69 rfl hU1337.1 rfl ((hU1337).2 49 8 rfl |>.trans zq_49_8) ?_
  refine w_lo dX6_begin_72 rfl rfl rfl rfl ?_
  refine w_ic dX6_begin_73 zi_m1 ?_
  refine w_is dX6_begin_74 hU1337 rfl (k := 5) zt_5 (Nat.le_of_ble_eq_true rfl) ?_
  intro M1353 hU1354 hv1355 hn1356
  have f1357 := (hn1356 19 0 (by decide)).trans f1340
  have f1358 := (hn1356 19 1 (by decide)).trans f1341
  have f1359 := (hn1356 19 2 (by decide)).trans f1342
  have f1360 := (hn1356 19 3 (by decide)).trans f1343
  have f1361 := (hn1356 19 4 (by decide)).trans f1344
  have f1362 := (hn1356 19 5 (by decide)).trans f1345
  have f1363 := (hn1356 19 6 (by decide)).trans f1346
  have f1364 := (hn1356 19 7 (by decide)).trans f1347
  have f1365 := (hn1356 19 8 (by decide)).trans f1348
  have f1366 := (hn1356 19 9 (by decide)).trans f1349
  have f1367 := (hn1356 19 10 (by decide)).trans f1350
  have f1368 := (hn1356 7 0 (by decide)).trans f1351
  have f1369 := (hn1356 0 3 (by decide)).trans f1352
  clear hn1356 f1340 f1341 f1342 f1343 f1344 f1345 f1346 f1347 f1348 f1349 f1350 f1351 f1352 hv1338 hU1337 M1336
  refine w_lo dX6_begin_75 rfl rfl rfl rfl ?_
  refine w_gf dX6_begin_76 rfl hU1354.1 rfl ((hU1354).2 49 9 rfl |>.trans zq_49_9) ?_
  refine w_lo dX6_begin_79 rfl rfl rfl rfl ?_
  refine w_ic dX6_begin_80 zi_0 ?_
  refine w_is dX6_begin_81 hU1354 rfl (k := 5) zt_5 (Nat.le_of_ble_eq_true rfl) ?_
  intro M1370 hU1371 hv1372 hn1373
  have f1374 := (hn1373 19 0 (by decide)).trans f1357
  have f1375 := (hn1373 19 1 (by decide)).trans f1358
  have f1376 := (hn1373 19 2 (by decide)).trans f1359
  have f1377 := (hn1373 19 3 (by decide)).trans f1360
  have f1378 := (hn1373 19 4 (by decide)).trans f1361
  have f1379 := (hn1373 19 5 (by decide)).trans f1362
  have f1380 := (hn1373 19 6 (by decide)).trans f1363
  have f1381 := (hn1373 19 7 (by decide)).trans f1364
  have f1382 := (hn1373 19 8 (by decide)).trans f1365
  have f1383 := (hn1373 19 9 (by decide)).trans f1366
  have f1384 := (hn1373 19 10 (by decide)).trans f1367
  have f1385 := (hn1373 7 0 (by decide)).trans f1368
  have f1386 := (hn1373 0 3 (by decide)).trans f1369
  clear hn1373 f1357 f1358 f1359 f1360 f1361 f1362 f1363 f1364 f1365 f1366 f1367 f1368 f1369 hv1355 hU1354 M1353
  refine w_lo dX6_begin_82 rfl rfl rfl rfl ?_
  refine w_gf dX6_begin_83 rfl hU1371.1 rfl ((hU1371).2 49 10 rfl |>.trans zq_49_10) ?_
  refine w_lo dX6_begin_86 rfl rfl rfl rfl ?_
  refine w_ic dX6_begin_87 zi_0 ?_
  refine w_is dX6_begin_88 hU1371 rfl (k := 5) zt_5 (Nat.le_of_ble_eq_true rfl) ?_
  intro M1387 hU1388 hv1389 hn1390
  have f1391 := (hn1390 19 0 (by decide)).trans f1374
  have f1392 := (hn1390 19 1 (by decide)).trans f1375
  have f1393 := (hn1390 19 2 (by decide)).trans f1376
  have f1394 := (hn1390 19 3 (by decide)).trans f1377
  have f1395 := (hn1390 19 4 (by decide)).trans f1378
  have f1396 := (hn1390 19 5 (by decide)).trans f1379
  have f1397 := (hn1390 19 6 (by decide)).trans f1380
  have f1398 := (hn1390 19 7 (by decide)).trans f1381
  have f1399 := (hn1390 19 8 (by decide)).trans f1382
  have f1400 := (hn1390 19 9 (by decide)).trans f1383
  have f1401 := (hn1390 19 10 (by decide)).trans f1384
  have f1402 := (hn1390 7 0 (by decide)).trans f1385
  have f1403 := (hn1390 0 3 (by decide)).trans f1386
  clear hn1390 f1374 f1375 f1376 f1377 f1378 f1379 f1380 f1381 f1382 f1383 f1384 f1385 f1386 hv1372 hU1371 M1370
  refine w_lo dX6_begin_89 rfl rfl rfl rfl ?_
  refine w_gf dX6_begin_90 rfl hU1388.1 rfl ((hU1388).2 49 11 rfl |>.trans zq_49_11) ?_
  refine w_lo dX6_begin_93 rfl rfl rfl rfl ?_
  refine w_ic dX6_begin_94 zi_0 ?_
  refine w_is dX6_begin_95 hU1388 rfl (k := 5) zt_5 (Nat.le_of_ble_eq_true rfl) ?_
  intro M1404 hU1405 hv1406 hn1407
  have f1408 := (hn1407 19 0 (by decide)).trans f1391
  have f1409 := (hn1407 19 1 (by decide)).trans f1392
  have f1410 := (hn1407 19 2 (by decide)).trans f1393
  have f1411 := (hn1407 19 3 (by decide)).trans f1394
  have f1412 := (hn1407 19 4 (by decide)).trans f1395
  have f1413 := (hn1407 19 5 (by decide)).trans f1396
  have f1414 := (hn1407 19 6 (by decide)).trans f1397
  have f1415 := (hn1407 19 7 (by decide)).trans f1398
  have f1416 := (hn1407 19 8 (by decide)).trans f1399
  have f1417 := (hn1407 19 9 (by decide)).trans f1400
  have f1418 := (hn1407 19 10 (by decide)).trans f1401
  have f1419 := (hn1407 7 0 (by decide)).trans f1402
  have f1420 := (hn1407 0 3 (by decide)).trans f1403
  clear hn1407 f1391 f1392 f1393 f1394 f1395 f1396 f1397 f1398 f1399 f1400 f1401 f1402 f1403 hv1389 hU1388 M1387
  refine w_lo (ml' := [some (.ref 49), some (.ref 7), some (.int 6)]) dX6_begin_96 rfl rfl rfl rfl ?_
  refine w_gt dX6_begin_99 (t := 20) rfl ?_
  refine w_lo dX6_begin_20 rfl rfl rfl rfl ?_
  refine w_bi dX6_begin_21 (c := 12) (by decide) ?_
  refine w_cge_f dX6_begin_23 (t := 102) rfl (by decide) ?_
  refine w_lo dX6_begin_26 rfl rfl rfl rfl ?_
  refine w_gf dX6_begin_27 rfl hU1405.1 rfl ((hU1405).2 49 2 rfl |>.trans zq_49_2) ?_
  refine w_lo dX6_begin_30 rfl rfl rfl rfl ?_
  refine w_lo dX6_begin_31 rfl rfl rfl rfl ?_
  refine w_is dX6_begin_32 hU1405 rfl (k := 6) zt_6 (Nat.le_of_ble_eq_true rfl) ?_
  intro M1421 hU1422 hv1423 hn1424
  have f1425 := (hn1424 19 0 (by decide)).trans f1408
  have f1426 := (hn1424 19 1 (by decide)).trans f1409
  have f1427 := (hn1424 19 2 (by decide)).trans f1410
  have f1428 := (hn1424 19 3 (by decide)).trans f1411
  have f1429 := (hn1424 19 4 (by decide)).trans f1412
  have f1430 := (hn1424 19 5 (by decide)).trans f1413
  have f1431 := (hn1424 19 6 (by decide)).trans f1414
  have f1432 := (hn1424 19 7 (by decide)).trans f1415
  have f1433 := (hn1424 19 8 (by decide)).trans f1416
  have f1434 := (hn1424 19 9 (by decide)).trans f1417
  have f1435 := (hn1424 19 10 (by decide)).trans f1418
  have f1436 := (hn1424 7 0 (by decide)).trans f1419
  have f1437 := (hn1424 0 3 (by decide)).trans f1420
  clear hn1424 f1408 f1409 f1410 f1411 f1412 f1413 f1414 f1415 f1416 f1417 f1418 f1419 f1420 hv1406 hU1405 M1404
  refine w_lo dX6_begin_33 rfl rfl rfl rfl ?_
  refine w_gf dX6_begin_34 rfl hU1422.1 rfl ((hU1422).2 49 3 rfl |>.trans zq_49_3) ?_
  refine w_lo dX6_begin_37 rfl rfl rfl rfl ?_
  refine w_ic dX6_begin_38 zi_1 ?_
  refine w_bs dX6_begin_39 hU1422 rfl (k := 6) zt_6 (Nat.le_of_ble_eq_true rfl) rfl ?_
  intro M1438 hU1439 hv1440 hn1441
  have f1442 := (hn1441 19 0 (by decide)).trans f1425
  have f1443 := (hn1441 19 1 (by decide)).trans f1426
  have f1444 := (hn1441 19 2 (by decide)).trans f1427
  have f1445 := (hn1441 19 3 (by decide)).trans f1428
  have f1446 := (hn1441 19 4 (by decide)).trans f1429
  have f1447 := (hn1441 19 5 (by decide)).trans f1430
  have f1448 := (hn1441 19 6 (by decide)).trans f1431
  have f1449 := (hn1441 19 7 (by decide)).trans f1432
  have f1450 := (hn1441 19 8 (by decide)).trans f1433
  have f1451 := (hn1441 19 9 (by decide)).trans f1434
  have f1452 := (hn1441 19 10 (by decide)).trans f1435
  have f1453 := (hn1441 7 0 (by decide)).trans f1436
  have f1454 := (hn1441 0 3 (by decide)).trans f1437
  clear hn1441 f1425 f1426 f1427 f1428 f1429 f1430 f1431 f1432 f1433 f1434 f1435 f1436 f1437 hv1423 hU1422 M1421
  refine w_lo dX6_begin_40 rfl rfl rfl rfl ?_
  refine w_gf dX6_begin_41 rfl hU1439.1 rfl ((hU1439).2 49 4 rfl |>.trans zq_49_4) ?_
  refine w_lo dX6_begin_44 rfl rfl rfl rfl ?_
  refine w_ic dX6_begin_45 zi_m1 ?_
  refine w_is dX6_begin_46 hU1439 rfl (k := 6) zt_6 (Nat.le_of_ble_eq_true rfl) ?_
  intro M1455 hU1456 hv1457 hn1458
  have f1459 := (hn1458 19 0 (by decide)).trans f1442
  have f1460 := (hn1458 19 1 (by decide)).trans f1443
  have f1461 := (hn1458 19 2 (by decide)).trans f1444
  have f1462 := (hn1458 19 3 (by decide)).trans f1445
  have f1463 := (hn1458 19 4 (by decide)).trans f1446
  have f1464 := (hn1458 19 5 (by decide)).trans f1447
  have f1465 := (hn1458 19 6 (by decide)).trans f1448
  have f1466 := (hn1458 19 7 (by decide)).trans f1449
  have f1467 := (hn1458 19 8 (by decide)).trans f1450
  have f1468 := (hn1458 19 9 (by decide)).trans f1451
  have f1469 := (hn1458 19 10 (by decide)).trans f1452
  have f1470 := (hn1458 7 0 (by decide)).trans f1453
  have f1471 := (hn1458 0 3 (by decide)).trans f1454
  clear hn1458 f1442 f1443 f1444 f1445 f1446 f1447 f1448 f1449 f1450 f1451 f1452 f1453 f1454 hv1440 hU1439 M1438
  refine w_lo dX6_begin_47 rfl rfl rfl rfl ?_
  refine w_gf dX6_begin_48 rfl hU1456.1 rfl ((hU1456).2 49 5 rfl |>.trans zq_49_5) ?_
  refine w_lo dX6_begin_51 rfl rfl rfl rfl ?_
  refine w_ic dX6_begin_52 zi_0 ?_
  refine w_is dX6_begin_53 hU1456 rfl (k := 6) zt_6 (Nat.le_of_ble_eq_true rfl) ?_
  intro M1472 hU1473 hv1474 hn1475
  have f1476 := (hn1475 19 0 (by decide)).trans f1459
  have f1477 := (hn1475 19 1 (by decide)).trans f1460
  have f1478 := (hn1475 19 2 (by decide)).trans f1461
  have f1479 := (hn1475 19 3 (by decide)).trans f1462
  have f1480 := (hn1475 19 4 (by decide)).trans f1463
  have f1481 := (hn1475 19 5 (by decide)).trans f1464
  have f1482 := (hn1475 19 6 (by decide)).trans f1465
  have f1483 := (hn1475 19 7 (by decide)).trans f1466
  have f1484 := (hn1475 19 8 (by decide)).trans f1467
  have f1485 := (hn1475 19 9 (by decide)).trans f1468
  have f1486 := (hn1475 19 10 (by decide)).trans f1469
  have f1487 := (hn1475 7 0 (by decide)).trans f1470
  have f1488 := (hn1475 0 3 (by decide)).trans f1471
  clear hn1475 f1459 f1460 f1461 f1462 f1463 f1464 f1465 f1466 f1467 f1468 f1469 f1470 f1471 hv1457 hU1456 M1455
  refine w_lo dX6_begin_54 rfl rfl rfl rfl ?_
  refine w_gf dX6_begin_55 rfl hU1473.1 rfl ((hU1473).2 49 6 rfl |>.trans zq_49_6) ?_
  refine w_lo dX6_begin_58 rfl rfl rfl rfl ?_
  refine w_ic dX6_begin_59 zi_m1 ?_
  refine w_is dX6_begin_60 hU1473 rfl (k := 6) zt_6 (Nat.le_of_ble_eq_true rfl) ?_
  intro M1489 hU1490 hv1491 hn1492
  have f1493 := (hn1492 19 0 (by decide)).trans f1476
  have f1494 := (hn1492 19 1 (by decide)).trans f1477
  have f1495 := (hn1492 19 2 (by decide)).trans f1478
  have f1496 := (hn1492 19 3 (by decide)).trans f1479
  have f1497 := (hn1492 19 4 (by decide)).trans f1480
  have f1498 := (hn1492 19 5 (by decide)).trans f1481
  have f1499 := (hn1492 19 6 (by decide)).trans f1482
  have f1500 := (hn1492 19 7 (by decide)).trans f1483
  have f1501 := (hn1492 19 8 (by decide)).trans f1484
  have f1502 := (hn1492 19 9 (by decide)).trans f1485
  have f1503 := (hn1492 19 10 (by decide)).trans f1486
  have f1504 := (hn1492 7 0 (by decide)).trans f1487
  have f1505 := (hn1492 0 3 (by decide)).trans f1488
  clear hn1492 f1476 f1477 f1478 f1479 f1480 f1481 f1482 f1483 f1484 f1485 f1486 f1487 f1488 hv1474 hU1473 M1472
  refine w_lo dX6_begin_61 rfl rfl rfl rfl ?_
  refine w_gf dX6_begin_62 rfl hU1490.1 rfl ((hU1490).2 49 7 rfl |>.trans zq_49_7) ?_
  refine w_lo dX6_begin_65 rfl rfl rfl rfl ?_
  refine w_ic dX6_begin_66 zi_0 ?_
  refine w_is dX6_begin_67 hU1490 rfl (k := 6) zt_6 (Nat.le_of_ble_eq_true rfl) ?_
  intro M1506 hU1507 hv1508 hn1509
  have f1510 := (hn1509 19 0 (by decide)).trans f1493
  have f1511 := (hn1509 19 1 (by decide)).trans f1494
  have f1512 := (hn1509 19 2 (by decide)).trans f1495
  have f1513 := (hn1509 19 3 (by decide)).trans f1496
  have f1514 := (hn1509 19 4 (by decide)).trans f1497
  have f1515 := (hn1509 19 5 (by decide)).trans f1498
  have f1516 := (hn1509 19 6 (by decide)).trans f1499
  have f1517 := (hn1509 19 7 (by decide)).trans f1500
  have f1518 := (hn1509 19 8 (by decide)).trans f1501
  have f1519 := (hn1509 19 9 (by decide)).trans f1502
  have f1520 := (hn1509 19 10 (by decide)).trans f1503
  have f1521 := (hn1509 7 0 (by decide)).trans f1504
  have f1522 := (hn1509 0 3 (by decide)).trans f1505
  clear hn1509 f1493 f1494 f1495 f1496 f1497 f1498 f1499 f1500 f1501 f1502 f1503 f1504 f1505 hv1491 hU1490 M1489
  refine w_lo dX6_begin_68 rfl rfl rfl rfl ?_
  refine w_gf dX6_begin_69 rfl hU1507.1 rfl ((hU1507).2 49 8 rfl |>.trans zq_49_8) ?_
  refine w_lo dX6_begin_72 rfl rfl rfl rfl ?_
  refine w_ic dX6_begin_73 zi_m1 ?_
  refine w_is dX6_begin_74 hU1507 rfl (k := 6) zt_6 (Nat.le_of_ble_eq_true rfl) ?_
  intro M1523 hU1524 hv1525 hn1526
  have f1527 := (hn1526 19 0 (by decide)).trans f1510
  have f1528 := (hn1526 19 1 (by decide)).trans f1511
  have f1529 := (hn1526 19 2 (by decide)).trans f1512
  have f1530 := (hn1526 19 3 (by decide)).trans f1513
  have f1531 := (hn1526 19 4 (by decide)).trans f1514
  have f1532 := (hn1526 19 5 (by decide)).trans f1515
  have f1533 := (hn1526 19 6 (by decide)).trans f1516
  have f1534 := (hn1526 19 7 (by decide)).trans f1517
  have f1535 := (hn1526 19 8 (by decide)).trans f1518
  have f1536 := (hn1526 19 9 (by decide)).trans f1519
  have f1537 := (hn1526 19 10 (by decide)).trans f1520
  have f1538 := (hn1526 7 0 (by decide)).trans f1521
  have f1539 := (hn1526 0 3 (by decide)).trans f1522
  clear hn1526 f1510 f1511 f1512 f1513 f1514 f1515 f1516 f1517 f1518 f1519 f1520 f1521 f1522 hv1508 hU1507 M1506
  refine w_lo dX6_begin_75 rfl rfl rfl rfl ?_
  refine w_gf dX6_begin_76 rfl hU1524.1 rfl ((hU1524).2 49 9 rfl |>.trans zq_49_9) ?_
  refine w_lo dX6_begin_79 rfl rfl rfl rfl ?_
  refine w_ic dX6_begin_80 zi_0 ?_
  refine w_is dX6_begin_81 hU1524 rfl (k := 6) zt_6 (Nat.le_of_ble_eq_true rfl) ?_
  intro M1540 hU1541 hv1542 hn1543
  have f1544 := (hn1543 19 0 (by decide)).trans f1527
  have f1545 := (hn1543 19 1 (by decide)).trans f1528
  have f1546 := (hn1543 19 2 (by decide)).trans f1529
  have f1547 := (hn1543 19 3 (by decide)).trans f1530
  have f1548 := (hn1543 19 4 (by decide)).trans f1531
  have f1549 := (hn1543 19 5 (by decide)).trans f1532
  have f1550 := (hn1543 19 6 (by decide)).trans f1533
  have f1551 := (hn1543 19 7 (by decide)).trans f1534
  have f1552 := (hn1543 19 8 (by decide)).trans f1535
  have f1553 := (hn1543 19 9 (by decide)).trans f1536
  have f1554 := (hn1543 19 10 (by decide)).trans f1537
  have f1555 := (hn1543 7 0 (by decide)).trans f1538
  have f1556 := (hn1543 0 3 (by decide)).trans f1539
  clear hn1543 f1527 f1528 f1529 f1530 f1531 f1532 f1533 f1534 f1535 f1536 f1537 f1538 f1539 hv1525 hU1524 M1523
  refine w_lo dX6_begin_82 rfl rfl rfl rfl ?_
  refine w_gf dX6_begin_83 rfl hU1541.1 rfl ((hU1541).2 49 10 rfl |>.trans zq_49_10) ?_
  refine w_lo dX6_begin_86 rfl rfl rfl rfl ?_
  refine w_ic dX6_begin_87 zi_0 ?_
  refine w_is dX6_begin_88 hU1541 rfl (k := 6) zt_6 (Nat.le_of_ble_eq_true rfl) ?_
  intro M1557 hU1558 hv1559 hn1560
  have f1561 := (hn1560 19 0 (by decide)).trans f1544
  have f1562 := (hn1560 19 1 (by decide)).trans f1545
  have f1563 := (hn1560 19 2 (by decide)).trans f1546
  have f1564 := (hn1560 19 3 (by decide)).trans f1547
  have f1565 := (hn1560 19 4 (by decide)).trans f1548
  have f1566 := (hn1560 19 5 (by decide)).trans f1549
  have f1567 := (hn1560 19 6 (by decide)).trans f1550
  have f1568 := (hn1560 19 7 (by decide)).trans f1551
  have f1569 := (hn1560 19 8 (by decide)).trans f1552
  have f1570 := (hn1560 19 9 (by decide)).trans f1553
  have f1571 := (hn1560 19 10 (by decide)).trans f1554
  have f1572 := (hn1560 7 0 (by decide)).trans f1555
  have f1573 := (hn1560 0 3 (by decide)).trans f1556
  clear hn1560 f1544 f1545 f1546 f1547 f1548 f1549 f1550 f1551 f1552 f1553 f1554 f1555 f1556 hv1542 hU1541 M1540
  refine w_lo dX6_begin_89 rfl rfl rfl rfl ?_
  refine w_gf dX6_begin_90 rfl hU1558.1 rfl ((hU1558).2 49 11 rfl |>.trans zq_49_11) ?_
  refine w_lo dX6_begin_93 rfl rfl rfl rfl ?_
  refine w_ic dX6_begin_94 zi_0 ?_
  refine w_is dX6_begin_95 hU1558 rfl (k := 6) zt_6 (Nat.le_of_ble_eq_true rfl) ?_
  intro M1574 hU1575 hv1576 hn1577
  have f1578 := (hn1577 19 0 (by decide)).trans f1561
  have f1579 := (hn1577 19 1 (by decide)).trans f1562
  have f1580 := (hn1577 19 2 (by decide)).trans f1563
  have f1581 := (hn1577 19 3 (by decide)).trans f1564
  have f1582 := (hn1577 19 4 (by decide)).trans f1565
  have f1583 := (hn1577 19 5 (by decide)).trans f1566
  have f1584 := (hn1577 19 6 (by decide)).trans f1567
  have f1585 := (hn1577 19 7 (by decide)).trans f1568
  have f1586 := (hn1577 19 8 (by decide)).trans f1569
  have f1587 := (hn1577 19 9 (by decide)).trans f1570
  have f1588 := (hn1577 19 10 (by decide)).trans f1571
  have f1589 := (hn1577 7 0 (by decide)).trans f1572
  have f1590 := (hn1577 0 3 (by decide)).trans f1573
  clear hn1577 f1561 f1562 f1563 f1564 f1565 f1566 f1567 f1568 f1569 f1570 f1571 f1572 f1573 hv1559 hU1558 M1557
  refine w_lo (ml' := [some (.ref 49), some (.ref 7), some (.int 7)]) dX6_begin_96 rfl rfl rfl rfl ?_
  refine w_gt dX6_begin_99 (t := 20) rfl ?_
  refine w_lo dX6_begin_20 rfl rfl rfl rfl ?_
  refine w_bi dX6_begin_21 (c := 12) (by decide) ?_
  refine w_cge_f dX6_begin_23 (t := 102) rfl (by decide) ?_
  refine w_lo dX6_begin_26 rfl rfl rfl rfl ?_
  refine w_gf dX6_begin_27 rfl hU1575.1 rfl ((hU1575).2 49 2 rfl |>.trans zq_49_2) ?_
  refine w_lo dX6_begin_30 rfl rfl rfl rfl ?_
  refine w_lo dX6_begin_31 rfl rfl rfl rfl ?_
  refine w_is dX6_begin_32 hU1575 rfl (k := 7) zt_7 (Nat.le_of_ble_eq_true rfl) ?_
  intro M1591 hU1592 hv1593 hn1594
  have f1595 := (hn1594 19 0 (by decide)).trans f1578
  have f1596 := (hn1594 19 1 (by decide)).trans f1579
  have f1597 := (hn1594 19 2 (by decide)).trans f1580
  have f1598 := (hn1594 19 3 (by decide)).trans f1581
  have f1599 := (hn1594 19 4 (by decide)).trans f1582
  have f1600 := (hn1594 19 5 (by decide)).trans f1583
  have f1601 := (hn1594 19 6 (by decide)).trans f1584
  have f1602 := (hn1594 19 7 (by decide)).trans f1585
  have f1603 := (hn1594 19 8 (by decide)).trans f1586
  have f1604 := (hn1594 19 9 (by decide)).trans f1587
  have f1605 := (hn1594 19 10 (by decide)).trans f1588
  have f1606 := (hn1594 7 0 (by decide)).trans f1589
  have f1607 := (hn1594 0 3 (by decide)).trans f1590
  clear hn1594 f1578 f1579 f1580 f1581 f1582 f1583 f1584 f1585 f1586 f1587 f1588 f1589 f1590 hv1576 hU1575 M1574
  refine w_lo dX6_begin_33 rfl rfl rfl rfl ?_
  refine w_gf dX6_begin_34 rfl hU1592.1 rfl ((hU1592).2 49 3 rfl |>.trans zq_49_3) ?_
  refine w_lo dX6_begin_37 rfl rfl rfl rfl ?_
  refine w_ic dX6_begin_38 zi_1 ?_
  refine w_bs dX6_begin_39 hU1592 rfl (k := 7) zt_7 (Nat.le_of_ble_eq_true rfl) rfl ?_
  intro M1608 hU1609 hv1610 hn1611
  have f1612 := (hn1611 19 0 (by decide)).trans f1595
  have f1613 := (hn1611 19 1 (by decide)).trans f1596
  have f1614 := (hn1611 19 2 (by decide)).trans f1597
  have f1615 := (hn1611 19 3 (by decide)).trans f1598
  have f1616 := (hn1611 19 4 (by decide)).trans f1599
  have f1617 := (hn1611 19 5 (by decide)).trans f1600
  have f1618 := (hn1611 19 6 (by decide)).trans f1601
  have f1619 := (hn1611 19 7 (by decide)).trans f1602
  have f1620 := (hn1611 19 8 (by decide)).trans f1603
  have f1621 := (hn1611 19 9 (by decide)).trans f1604
  have f1622 := (hn1611 19 10 (by decide)).trans f1605
  have f1623 := (hn1611 7 0 (by decide)).trans f1606
  have f1624 := (hn1611 0 3 (by decide)).trans f1607
  clear hn1611 f1595 f1596 f1597 f1598 f1599 f1600 f1601 f1602 f1603 f1604 f1605 f1606 f1607 hv1593 hU1592 M1591
  refine w_lo dX6_begin_40 rfl rfl rfl rfl ?_
  refine w_gf dX6_begin_41 rfl hU1609.1 rfl ((hU1609).2 49 4 rfl |>.trans zq_49_4) ?_
  refine w_lo dX6_begin_44 rfl rfl rfl rfl ?_
  refine w_ic dX6_begin_45 zi_m1 ?_
  refine w_is dX6_begin_46 hU1609 rfl (k := 7) zt_7 (Nat.le_of_ble_eq_true rfl) ?_
  intro M1625 hU1626 hv1627 hn1628
  have f1629 := (hn1628 19 0 (by decide)).trans f1612
  have f1630 := (hn1628 19 1 (by decide)).trans f1613
  have f1631 := (hn1628 19 2 (by decide)).trans f1614
  have f1632 := (hn1628 19 3 (by decide)).trans f1615
  have f1633 := (hn1628 19 4 (by decide)).trans f1616
  have f1634 := (hn1628 19 5 (by decide)).trans f1617
  have f1635 := (hn1628 19 6 (by decide)).trans f1618
  have f1636 := (hn1628 19 7 (by decide)).trans f1619
  have f1637 := (hn1628 19 8 (by decide)).trans f1620
  have f1638 := (hn1628 19 9 (by decide)).trans f1621
  have f1639 := (hn1628 19 10 (by decide)).trans f1622
  have f1640 := (hn1628 7 0 (by decide)).trans f1623
  have f1641 := (hn1628 0 3 (by decide)).trans f1624
  clear hn1628 f1612 f1613 f1614 f1615 f1616 f1617 f1618 f1619 f1620 f1621 f1622 f1623 f1624 hv1610 hU1609 M1608
  refine w_lo dX6_begin_47 rfl rfl rfl rfl ?_
  refine w_gf dX6_begin_48 rfl hU1626.1 rfl ((hU1626).2 49 5 rfl |>.trans zq_49_5) ?_
  refine w_lo dX6_begin_51 rfl rfl rfl rfl ?_
  refine w_ic dX6_begin_52 zi_0 ?_
  refine w_is dX6_begin_53 hU1626 rfl (k := 7) zt_7 (Nat.le_of_ble_eq_true rfl) ?_
  intro M1642 hU1643 hv1644 hn1645
  have f1646 := (hn1645 19 0 (by decide)).trans f1629
  have f1647 := (hn1645 19 1 (by decide)).trans f1630
  have f1648 := (hn1645 19 2 (by decide)).trans f1631
  have f1649 := (hn1645 19 3 (by decide)).trans f1632
  have f1650 := (hn1645 19 4 (by decide)).trans f1633
  have f1651 := (hn1645 19 5 (by decide)).trans f1634
  have f1652 := (hn1645 19 6 (by decide)).trans f1635
  have f1653 := (hn1645 19 7 (by decide)).trans f1636
  have f1654 := (hn1645 19 8 (by decide)).trans f1637
  have f1655 := (hn1645 19 9 (by decide)).trans f1638
  have f1656 := (hn1645 19 10 (by decide)).trans f1639
  have f1657 := (hn1645 7 0 (by decide)).trans f1640
  have f1658 := (hn1645 0 3 (by decide)).trans f1641
  clear hn1645 f1629 f1630 f1631 f1632 f1633 f1634 f1635 f1636 f1637 f1638 f1639 f1640 f1641 hv1627 hU1626 M1625
  refine w_lo dX6_begin_54 rfl rfl rfl rfl ?_
  refine w_gf dX6_begin_55 rfl hU1643.1 rfl ((hU1643).2 49 6 rfl |>.trans zq_49_6) ?_
  refine w_lo dX6_begin_58 rfl rfl rfl rfl ?_
  refine w_ic dX6_begin_59 zi_m1 ?_
  refine w_is dX6_begin_60 hU1643 rfl (k := 7) zt_7 (Nat.le_of_ble_eq_true rfl) ?_
  intro M1659 hU1660 hv1661 hn1662
  have f1663 := (hn1662 19 0 (by decide)).trans f1646
  have f1664 := (hn1662 19 1 (by decide)).trans f1647
  have f1665 := (hn1662 19 2 (by decide)).trans f1648
  have f1666 := (hn1662 19 3 (by decide)).trans f1649
  have f1667 := (hn1662 19 4 (by decide)).trans f1650
  have f1668 := (hn1662 19 5 (by decide)).trans f1651
  have f1669 := (hn1662 19 6 (by decide)).trans f1652
  have f1670 := (hn1662 19 7 (by decide)).trans f1653
  have f1671 := (hn1662 19 8 (by decide)).trans f1654
  have f1672 := (hn1662 19 9 (by decide)).trans f1655
  have f1673 := (hn1662 19 10 (by decide)).trans f1656
  have f1674 := (hn1662 7 0 (by decide)).trans f1657
  have f1675 := (hn1662 0 3 (by decide)).trans f1658
  clear hn1662 f1646 f1647 f1648 f1649 f1650 f1651 f1652 f1653 f1654 f1655 f1656 f1657 f1658 hv1644 hU1643 M1642
  refine w_lo dX6_begin_61 rfl rfl rfl rfl ?_
  refine w_gf dX6_begin_62 rfl hU1660.1 rfl ((hU1660).2 49 7 rfl |>.trans zq_49_7) ?_
  refine w_lo dX6_begin_65 rfl rfl rfl rfl ?_
  refine w_ic dX6_begin_66 zi_0 ?_
  refine w_is dX6_begin_67 hU1660 rfl (k := 7) zt_7 (Nat.le_of_ble_eq_true rfl) ?_
  intro M1676 hU1677 hv1678 hn1679
  have f1680 := (hn1679 19 0 (by decide)).trans f1663
  have f1681 := (hn1679 19 1 (by decide)).trans f1664
  have f1682 := (hn1679 19 2 (by decide)).trans f1665
  have f1683 := (hn1679 19 3 (by decide)).trans f1666
  have f1684 := (hn1679 19 4 (by decide)).trans f1667
  have f1685 := (hn1679 19 5 (by decide)).trans f1668
  have f1686 := (hn1679 19 6 (by decide)).trans f1669
  have f1687 := (hn1679 19 7 (by decide)).trans f1670
  have f1688 := (hn1679 19 8 (by decide)).trans f1671
  have f1689 := (hn1679 19 9 (by decide)).trans f1672
  have f1690 := (hn1679 19 10 (by decide)).trans f1673
  have f1691 := (hn1679 7 0 (by decide)).trans f1674
  have f1692 := (hn1679 0 3 (by decide)).trans f1675
  clear hn1679 f1663 f1664 f1665 f1666 f1667 f1668 f1669 f1670 f1671 f1672 f1673 f1674 f1675 hv1661 hU1660 M1659
  refine w_lo dX6_begin_68 rfl rfl rfl rfl ?_
  refine w_gf dX6_begin_69 rfl hU1677.1 rfl ((hU1677).2 49 8 rfl |>.trans zq_49_8) ?_
  refine w_lo dX6_begin_72 rfl rfl rfl rfl ?_
  refine w_ic dX6_begin_73 zi_m1 ?_
  refine w_is dX6_begin_74 hU1677 rfl (k := 7) zt_7 (Nat.le_of_ble_eq_true rfl) ?_
  intro M1693 hU1694 hv1695 hn1696
  have f1697 := (hn1696 19 0 (by decide)).trans f1680
  have f1698 := (hn1696 19 1 (by decide)).trans f1681
  have f1699 := (hn1696 19 2 (by decide)).trans f1682
  have f1700 := (hn1696 19 3 (by decide)).trans f1683
  have f1701 := (hn1696 19 4 (by decide)).trans f1684
  have f1702 := (hn1696 19 5 (by decide)).trans f1685
  have f1703 := (hn1696 19 6 (by decide)).trans f1686
  have f1704 := (hn1696 19 7 (by decide)).trans f1687
  have f1705 := (hn1696 19 8 (by decide)).trans f1688
  have f1706 := (hn1696 19 9 (by decide)).trans f1689
  have f1707 := (hn1696 19 10 (by decide)).trans f1690
  have f1708 := (hn1696 7 0 (by decide)).trans f1691
  have f1709 := (hn1696 0 3 (by decide)).trans f1692
  clear hn1696 f1680 f1681 f1682 f1683 f1684 f1685 f1686 f1687 f1688 f1689 f1690 f1691 f1692 hv1678 hU1677 M1676
  refine w_lo dX6_begin_75 rfl rfl rfl rfl ?_
  refine w_gf dX6_begin_76 rfl hU1694.1 rfl ((hU1694).2 49 9 rfl |>.trans zq_49_9) ?_
  refine w_lo dX6_begin_79 rfl rfl rfl rfl ?_
  refine w_ic dX6_begin_80 zi_0 ?_
  refine w_is dX6_begin_81 hU1694 rfl (k := 7) zt_7 (Nat.le_of_ble_eq_true rfl) ?_
  intro M1710 hU1711 hv1712 hn1713
  have f1714 := (hn1713 19 0 (by decide)).trans f1697
  have f1715 := (hn1713 19 1 (by decide)).trans f1698
  have f1716 := (hn1713 19 2 (by decide)).trans f1699
  have f1717 := (hn1713 19 3 (by decide)).trans f1700
  have f1718 := (hn1713 19 4 (by decide)).trans f1701
  have f1719 := (hn1713 19 5 (by decide)).trans f1702
  have f1720 := (hn1713 19 6 (by decide)).trans f1703
  have f1721 := (hn1713 19 7 (by decide)).trans f1704
  have f1722 := (hn1713 19 8 (by decide)).trans f1705
  have f1723 := (hn1713 19 9 (by decide)).trans f1706
  have f1724 := (hn1713 19 10 (by decide)).trans f1707
  have f1725 := (hn1713 7 0 (by decide)).trans f1708
  have f1726 := (hn1713 0 3 (by decide)).trans f1709
  clear hn1713 f1697 f1698 f1699 f1700 f1701 f1702 f1703 f1704 f1705 f1706 f1707 f1708 f1709 hv1695 hU1694 M1693
  refine w_lo dX6_begin_82 rfl rfl rfl rfl ?_
  refine w_gf dX6_begin_83 rfl hU1711.1 rfl ((hU1711).2 49 10 rfl |>.trans zq_49_10) ?_
  refine w_lo dX6_begin_86 rfl rfl rfl rfl ?_
  refine w_ic dX6_begin_87 zi_0 ?_
  refine w_is dX6_begin_88 hU1711 rfl (k := 7) zt_7 (Nat.le_of_ble_eq_true rfl) ?_
  intro M1727 hU1728 hv1729 hn1730
  have f1731 := (hn1730 19 0 (by decide)).trans f1714
  have f1732 := (hn1730 19 1 (by decide)).trans f1715
  have f1733 := (hn1730 19 2 (by decide)).trans f1716
  have f1734 := (hn1730 19 3 (by decide)).trans f1717
  have f1735 := (hn1730 19 4 (by decide)).trans f1718
  have f1736 := (hn1730 19 5 (by decide)).trans f1719
  have f1737 := (hn1730 19 6 (by decide)).trans f1720
  have f1738 := (hn1730 19 7 (by decide)).trans f1721
  have f1739 := (hn1730 19 8 (by decide)).trans f1722
  have f1740 := (hn1730 19 9 (by decide)).trans f1723
  have f1741 := (hn1730 19 10 (by decide)).trans f1724
  have f1742 := (hn1730 7 0 (by decide)).trans f1725
  have f1743 := (hn1730 0 3 (by decide)).trans f1726
  clear hn1730 f1714 f1715 f1716 f1717 f1718 f1719 f1720 f1721 f1722 f1723 f1724 f1725 f1726 hv1712 hU1711 M1710
  refine w_lo dX6_begin_89 rfl rfl rfl rfl ?_
  refine w_gf dX6_begin_90 rfl hU1728.1 rfl ((hU1728).2 49 11 rfl |>.trans zq_49_11) ?_
  refine w_lo dX6_begin_93 rfl rfl rfl rfl ?_
  refine w_ic dX6_begin_94 zi_0 ?_
  refine w_is dX6_begin_95 hU1728 rfl (k := 7) zt_7 (Nat.le_of_ble_eq_true rfl) ?_
  intro M1744 hU1745 hv1746 hn1747
  have f1748 := (hn1747 19 0 (by decide)).trans f1731
  have f1749 := (hn1747 19 1 (by decide)).trans f1732
  have f1750 := (hn1747 19 2 (by decide)).trans f1733
  have f1751 := (hn1747 19 3 (by decide)).trans f1734
  have f1752 := (hn1747 19 4 (by decide)).trans f1735
  have f1753 := (hn1747 19 5 (by decide)).trans f1736
  have f1754 := (hn1747 19 6 (by decide)).trans f1737
  have f1755 := (hn1747 19 7 (by decide)).trans f1738
  have f1756 := (hn1747 19 8 (by decide)).trans f1739
  have f1757 := (hn1747 19 9 (by decide)).trans f1740
  have f1758 := (hn1747 19 10 (by decide)).trans f1741
  have f1759 := (hn1747 7 0 (by decide)).trans f1742
  have f1760 := (hn1747 0 3 (by decide)).trans f1743
  clear hn1747 f1731 f1732 f1733 f1734 f1735 f1736 f1737 f1738 f1739 f1740 f1741 f1742 f1743 hv1729 hU1728 M1727
  refine w_lo (ml' := [some (.ref 49), some (.ref 7), some (.int 8)]) dX6_begin_96 rfl rfl rfl rfl ?_
  refine w_gt dX6_begin_99 (t := 20) rfl ?_
  refine w_lo dX6_begin_20 rfl rfl rfl rfl ?_
  refine w_bi dX6_begin_21 (c := 12) (by decide) ?_
  refine w_cge_f dX6_begin_23 (t := 102) rfl (by decide) ?_
  refine w_lo dX6_begin_26 rfl rfl rfl rfl ?_
  refine w_gf dX6_begin_27 rfl hU1745.1 rfl ((hU1745).2 49 2 rfl |>.trans zq_49_2) ?_
  refine w_lo dX6_begin_30 rfl rfl rfl rfl ?_
  refine w_lo dX6_begin_31 rfl rfl rfl rfl ?_
  refine w_is dX6_begin_32 hU1745 rfl (k := 8) zt_8 (Nat.le_of_ble_eq_true rfl) ?_
  intro M1761 hU1762 hv1763 hn1764
  have f1765 := (hn1764 19 0 (by decide)).trans f1748
  have f1766 := (hn1764 19 1 (by decide)).trans f1749
  have f1767 := (hn1764 19 2 (by decide)).trans f1750
  have f1768 := (hn1764 19 3 (by decide)).trans f1751
  have f1769 := (hn1764 19 4 (by decide)).trans f1752
  have f1770 := (hn1764 19 5 (by decide)).trans f1753
  have f1771 := (hn1764 19 6 (by decide)).trans f1754
  have f1772 := (hn1764 19 7 (by decide)).trans f1755
  have f1773 := (hn1764 19 8 (by decide)).trans f1756
  have f1774 := (hn1764 19 9 (by decide)).trans f1757
  have f1775 := (hn1764 19 10 (by decide)).trans f1758
  have f1776 := (hn1764 7 0 (by decide)).trans f1759
  have f1777 := (hn1764 0 3 (by decide)).trans f1760
  clear hn1764 f1748 f1749 f1750 f1751 f1752 f1753 f1754 f1755 f1756 f1757 f1758 f1759 f1760 hv1746 hU1745 M1744
  refine w_lo dX6_begin_33 rfl rfl rfl rfl ?_
  refine w_gf dX6_begin_34 rfl hU1762.1 rfl ((hU1762).2 49 3 rfl |>.trans zq_49_3) ?_
  refine w_lo dX6_begin_37 rfl rfl rfl rfl ?_
  refine w_ic dX6_begin_38 zi_1 ?_
  refine w_bs dX6_begin_39 hU1762 rfl (k := 8) zt_8 (Nat.le_of_ble_eq_true rfl) rfl ?_
  intro M1778 hU1779 hv1780 hn1781
  have f1782 := (hn1781 19 0 (by decide)).trans f1765
  have f1783 := (hn1781 19 1 (by decide)).trans f1766
  have f1784 := (hn1781 19 2 (by decide)).trans f1767
  have f1785 := (hn1781 19 3 (by decide)).trans f1768
  have f1786 := (hn1781 19 4 (by decide)).trans f1769
  have f1787 := (hn1781 19 5 (by decide)).trans f1770
  have f1788 := (hn1781 19 6 (by decide)).trans f1771
  have f1789 := (hn1781 19 7 (by decide)).trans f1772
  have f1790 := (hn1781 19 8 (by decide)).trans f1773
  have f1791 := (hn1781 19 9 (by decide)).trans f1774
  have f1792 := (hn1781 19 10 (by decide)).trans f1775
  have f1793 := (hn1781 7 0 (by decide)).trans f1776
  have f1794 := (hn1781 0 3 (by decide)).trans f1777
  clear hn1781 f1765 f1766 f1767 f1768 f1769 f1770 f1771 f1772 f1773 f1774 f1775 f1776 f1777 hv1763 hU1762 M1761
  refine w_lo dX6_begin_40 rfl rfl rfl rfl ?_
  refine w_gf dX6_begin_41 rfl hU1779.1 rfl ((hU1779).2 49 4 rfl |>.trans zq_49_4) ?_
  refine w_lo dX6_begin_44 rfl rfl rfl rfl ?_
  refine w_ic dX6_begin_45 zi_m1 ?_
  refine w_is dX6_begin_46 hU1779 rfl (k := 8) zt_8 (Nat.le_of_ble_eq_true rfl) ?_
  intro M1795 hU1796 hv1797 hn1798
  have f1799 := (hn1798 19 0 (by decide)).trans f1782
  have f1800 := (hn1798 19 1 (by decide)).trans f1783
  have f1801 := (hn1798 19 2 (by decide)).trans f1784
  have f1802 := (hn1798 19 3 (by decide)).trans f1785
  have f1803 := (hn1798 19 4 (by decide)).trans f1786
  have f1804 := (hn1798 19 5 (by decide)).trans f1787
  have f1805 := (hn1798 19 6 (by decide)).trans f1788
  have f1806 := (hn1798 19 7 (by decide)).trans f1789
  have f1807 := (hn1798 19 8 (by decide)).trans f1790
  have f1808 := (hn1798 19 9 (by decide)).trans f1791
  have f1809 := (hn1798 19 10 (by decide)).trans f1792
  have f1810 := (hn1798 7 0 (by decide)).trans f1793
  have f1811 := (hn1798 0 3 (by decide)).trans f1794
  clear hn1798 f1782 f1783 f1784 f1785 f1786 f1787 f1788 f1789 f1790 f1791 f1792 f1793 f1794 hv1780 hU1779 M1778
  refine w_lo dX6_begin_47 rfl rfl rfl rfl ?_
  refine w_gf dX6_begin_48 rfl hU1796.1 rfl ((hU1796).2 49 5 rfl |>.trans zq_49_5) ?_
  refine w_lo dX6_begin_51 rfl rfl rfl rfl ?_
  refine w_ic dX6_begin_52 zi_0 ?_
  refine w_is dX6_begin_53 hU1796 rfl (k := 8) zt_8 (Nat.le_of_ble_eq_true rfl) ?_
  intro M1812 hU1813 hv1814 hn1815
  have f1816 := (hn1815 19 0 (by decide)).trans f1799
  have f1817 := (hn1815 19 1 (by decide)).trans f1800
  have f1818 := (hn1815 19 2 (by decide)).trans f1801
  have f1819 := (hn1815 19 3 (by decide)).trans f1802
  have f1820 := (hn1815 19 4 (by decide)).trans f1803
  have f1821 := (hn1815 19 5 (by decide)).trans f1804
  have f1822 := (hn1815 19 6 (by decide)).trans f1805
  have f1823 := (hn1815 19 7 (by decide)).trans f1806
  have f1824 := (hn1815 19 8 (by decide)).trans f1807
  have f1825 := (hn1815 19 9 (by decide)).trans f1808
  have f1826 := (hn1815 19 10 (by decide)).trans f1809
  have f1827 := (hn1815 7 0 (by decide)).trans f1810
  have f1828 := (hn1815 0 3 (by decide)).trans f1811
  clear hn1815 f1799 f1800 f1801 f1802 f1803 f1804 f1805 f1806 f1807 f1808 f1809 f1810 f1811 hv1797 hU1796 M1795
  refine w_lo dX6_begin_54 rfl rfl rfl rfl ?_
  refine w_gf dX6_begin_55 rfl hU1813.1 rfl ((hU1813).2 49 6 rfl |>.trans zq_49_6) ?_
  refine w_lo dX6_begin_58 rfl rfl rfl rfl ?_
  refine w_ic dX6_begin_59 zi_m1 ?_
  refine w_is dX6_begin_60 hU1813 rfl (k := 8) zt_8 (Nat.le_of_ble_eq_true rfl) ?_
  intro M1829 hU1830 hv1831 hn1832
  have f1833 := (hn1832 19 0 (by decide)).trans f1816
  have f1834 := (hn1832 19 1 (by decide)).trans f1817
  have f1835 := (hn1832 19 2 (by decide)).trans f1818
  have f1836 := (hn1832 19 3 (by decide)).trans f1819
  have f1837 := (hn1832 19 4 (by decide)).trans f1820
  have f1838 := (hn1832 19 5 (by decide)).trans f1821
  have f1839 := (hn1832 19 6 (by decide)).trans f1822
  have f1840 := (hn1832 19 7 (by decide)).trans f1823
  have f1841 := (hn1832 19 8 (by decide)).trans f1824
  have f1842 := (hn1832 19 9 (by decide)).trans f1825
  have f1843 := (hn1832 19 10 (by decide)).trans f1826
  have f1844 := (hn1832 7 0 (by decide)).trans f1827
  have f1845 := (hn1832 0 3 (by decide)).trans f1828
  clear hn1832 f1816 f1817 f1818 f1819 f1820 f1821 f1822 f1823 f1824 f1825 f1826 f1827 f1828 hv1814 hU1813 M1812
  refine w_lo dX6_begin_61 rfl rfl rfl rfl ?_
  refine w_gf dX6_begin_62 rfl hU1830.1 rfl ((hU1830).2 49 7 rfl |>.trans zq_49_7) ?_
  refine w_lo dX6_begin_65 rfl rfl rfl rfl ?_
  refine w_ic dX6_begin_66 zi_0 ?_
  refine w_is dX6_begin_67 hU1830 rfl (k := 8) zt_8 (Nat.le_of_ble_eq_true rfl) ?_
  intro M1846 hU1847 hv1848 hn1849
  have f1850 := (hn1849 19 0 (by decide)).trans f1833
  have f1851 := (hn1849 19 1 (by decide)).trans f1834
  have f1852 := (hn1849 19 2 (by decide)).trans f1835
  have f1853 := (hn1849 19 3 (by decide)).trans f1836
  have f1854 := (hn1849 19 4 (by decide)).trans f1837
  have f1855 := (hn1849 19 5 (by decide)).trans f1838
  have f1856 := (hn1849 19 6 (by decide)).trans f1839
  have f1857 := (hn1849 19 7 (by decide)).trans f1840
  have f1858 := (hn1849 19 8 (by decide)).trans f1841
  have f1859 := (hn1849 19 9 (by decide)).trans f1842
  have f1860 := (hn1849 19 10 (by decide)).trans f1843
  have f1861 := (hn1849 7 0 (by decide)).trans f1844
  have f1862 := (hn1849 0 3 (by decide)).trans f1845
  clear hn1849 f1833 f1834 f1835 f1836 f1837 f1838 f1839 f1840 f1841 f1842 f1843 f1844 f1845 hv1831 hU1830 M1829
  refine w_lo dX6_begin_68 rfl rfl rfl rfl ?_
  refine w_gf dX6_begin_69 rfl hU1847.1 rfl ((hU1847).2 49 8 rfl |>.trans zq_49_8) ?_
  refine w_lo dX6_begin_72 rfl rfl rfl rfl ?_
  refine w_ic dX6_begin_73 zi_m1 ?_
  refine w_is dX6_begin_74 hU1847 rfl (k := 8) zt_8 (Nat.le_of_ble_eq_true rfl) ?_
  intro M1863 hU1864 hv1865 hn1866
  have f1867 := (hn1866 19 0 (by decide)).trans f1850
  have f1868 := (hn1866 19 1 (by decide)).trans f1851
  have f1869 := (hn1866 19 2 (by decide)).trans f1852
  have f1870 := (hn1866 19 3 (by decide)).trans f1853
  have f1871 := (hn1866 19 4 (by decide)).trans f1854
  have f1872 := (hn1866 19 5 (by decide)).trans f1855
  have f1873 := (hn1866 19 6 (by decide)).trans f1856
  have f1874 := (hn1866 19 7 (by decide)).trans f1857
  have f1875 := (hn1866 19 8 (by decide)).trans f1858
  have f1876 := (hn1866 19 9 (by decide)).trans f1859
  have f1877 := (hn1866 19 10 (by decide)).trans f1860
  have f1878 := (hn1866 7 0 (by decide)).trans f1861
  have f1879 := (hn1866 0 3 (by decide)).trans f1862
  clear hn1866 f1850 f1851 f1852 f1853 f1854 f1855 f1856 f1857 f1858 f1859 f1860 f1861 f1862 hv1848 hU1847 M1846
  refine w_lo dX6_begin_75 rfl rfl rfl rfl ?_
  refine w_gf dX6_begin_76 rfl hU1864.1 rfl ((hU1864).2 49 9 rfl |>.trans zq_49_9) ?_
  refine w_lo dX6_begin_79 rfl rfl rfl rfl ?_
  refine w_ic dX6_begin_80 zi_0 ?_
  refine w_is dX6_begin_81 hU1864 rfl (k := 8) zt_8 (Nat.le_of_ble_eq_true rfl) ?_
  intro M1880 hU1881 hv1882 hn1883
  have f1884 := (hn1883 19 0 (by decide)).trans f1867
  have f1885 := (hn1883 19 1 (by decide)).trans f1868
  have f1886 := (hn1883 19 2 (by decide)).trans f1869
  have f1887 := (hn1883 19 3 (by decide)).trans f1870
  have f1888 := (hn1883 19 4 (by decide)).trans f1871
  have f1889 := (hn1883 19 5 (by decide)).trans f1872
  have f1890 := (hn1883 19 6 (by decide)).trans f1873
  have f1891 := (hn1883 19 7 (by decide)).trans f1874
  have f1892 := (hn1883 19 8 (by decide)).trans f1875
  have f1893 := (hn1883 19 9 (by decide)).trans f1876
  have f1894 := (hn1883 19 10 (by decide)).trans f1877
  have f1895 := (hn1883 7 0 (by decide)).trans f1878
  have f1896 := (hn1883 0 3 (by decide)).trans f1879
  clear hn1883 f1867 f1868 f1869 f1870 f1871 f1872 f1873 f1874 f1875 f1876 f1877 f1878 f1879 hv1865 hU1864 M1863
  refine w_lo dX6_begin_82 rfl rfl rfl rfl ?_
  refine w_gf dX6_begin_83 rfl hU1881.1 rfl ((hU1881).2 49 10 rfl |>.trans zq_49_10) ?_
  refine w_lo dX6_begin_86 rfl rfl rfl rfl ?_
  refine w_ic dX6_begin_87 zi_0 ?_
  refine w_is dX6_begin_88 hU1881 rfl (k := 8) zt_8 (Nat.le_of_ble_eq_true rfl) ?_
  intro M1897 hU1898 hv1899 hn1900
  have f1901 := (hn1900 19 0 (by decide)).trans f1884
  have f1902 := (hn1900 19 1 (by decide)).trans f1885
  have f1903 := (hn1900 19 2 (by decide)).trans f1886
  have f1904 := (hn1900 19 3 (by decide)).trans f1887
  have f1905 := (hn1900 19 4 (by decide)).trans f1888
  have f1906 := (hn1900 19 5 (by decide)).trans f1889
  have f1907 := (hn1900 19 6 (by decide)).trans f1890
  have f1908 := (hn1900 19 7 (by decide)).trans f1891
  have f1909 := (hn1900 19 8 (by decide)).trans f1892
  have f1910 := (hn1900 19 9 (by decide)).trans f1893
  have f1911 := (hn1900 19 10 (by decide)).trans f1894
  have f1912 := (hn1900 7 0 (by decide)).trans f1895
  have f1913 := (hn1900 0 3 (by decide)).trans f1896
  clear hn1900 f1884 f1885 f1886 f1887 f1888 f1889 f1890 f1891 f1892 f1893 f1894 f1895 f1896 hv1882 hU1881 M1880
  refine w_lo dX6_begin_89 rfl rfl rfl rfl ?_
  refine w_gf dX6_begin_90 rfl hU1898.1 rfl ((hU1898).2 49 11 rfl |>.trans zq_49_11) ?_
  refine w_lo dX6_begin_93 rfl rfl rfl rfl ?_
  refine w_ic dX6_begin_94 zi_0 ?_
  refine w_is dX6_begin_95 hU1898 rfl (k := 8) zt_8 (Nat.le_of_ble_eq_true rfl) ?_
  intro M1914 hU1915 hv1916 hn1917
  have f1918 := (hn1917 19 0 (by decide)).trans f1901
  have f1919 := (hn1917 19 1 (by decide)).trans f1902
  have f1920 := (hn1917 19 2 (by decide)).trans f1903
  have f1921 := (hn1917 19 3 (by decide)).trans f1904
  have f1922 := (hn1917 19 4 (by decide)).trans f1905
  have f1923 := (hn1917 19 5 (by decide)).trans f1906
  have f1924 := (hn1917 19 6 (by decide)).trans f1907
  have f1925 := (hn1917 19 7 (by decide)).trans f1908
  have f1926 := (hn1917 19 8 (by decide)).trans f1909
  have f1927 := (hn1917 19 9 (by decide)).trans f1910
  have f1928 := (hn1917 19 10 (by decide)).trans f1911
  have f1929 := (hn1917 7 0 (by decide)).trans f1912
  have f1930 := (hn1917 0 3 (by decide)).trans f1913
  clear hn1917 f1901 f1902 f1903 f1904 f1905 f1906 f1907 f1908 f1909 f1910 f1911 f1912 f1913 hv1899 hU1898 M1897
  refine w_lo (ml' := [some (.ref 49), some (.ref 7), some (.int 9)]) dX6_begin_96 rfl rfl rfl rfl ?_
  refine w_gt dX6_begin_99 (t := 20) rfl ?_
  refine w_lo dX6_begin_20 rfl rfl rfl rfl ?_
  refine w_bi dX6_begin_21 (c := 12) (by decide) ?_
  refine w_cge_f dX6_begin_23 (t := 102) rfl (by decide) ?_
  refine w_lo dX6_begin_26 rfl rfl rfl rfl ?_
  refine w_gf dX6_begin_27 rfl hU1915.1 rfl ((hU1915).2 49 2 rfl |>.trans zq_49_2) ?_
  refine w_lo dX6_begin_30 rfl rfl rfl rfl ?_
  refine w_lo dX6_begin_31 rfl rfl rfl rfl ?_
  refine w_is dX6_begin_32 hU1915 rfl (k := 9) zt_9 (Nat.le_of_ble_eq_true rfl) ?_
  intro M1931 hU1932 hv1933 hn1934
  have f1935 := (hn1934 19 0 (by decide)).trans f1918
  have f1936 := (hn1934 19 1 (by decide)).trans f1919
  have f1937 := (hn1934 19 2 (by decide)).trans f1920
  have f1938 := (hn1934 19 3 (by decide)).trans f1921
  have f1939 := (hn1934 19 4 (by decide)).trans f1922
  have f1940 := (hn1934 19 5 (by decide)).trans f1923
  have f1941 := (hn1934 19 6 (by decide)).trans f1924
  have f1942 := (hn1934 19 7 (by decide)).trans f1925
  have f1943 := (hn1934 19 8 (by decide)).trans f1926
  have f1944 := (hn1934 19 9 (by decide)).trans f1927
  have f1945 := (hn1934 19 10 (by decide)).trans f1928
  have f1946 := (hn1934 7 0 (by decide)).trans f1929
  have f1947 := (hn1934 0 3 (by decide)).trans f1930
  clear hn1934 f1918 f1919 f1920 f1921 f1922 f1923 f1924 f1925 f1926 f1927 f1928 f1929 f1930 hv1916 hU1915 M1914
  refine w_lo dX6_begin_33 rfl rfl rfl rfl ?_
  refine w_gf dX6_begin_34 rfl hU1932.1 rfl ((hU1932).2 49 3 rfl |>.trans zq_49_3) ?_
  refine w_lo dX6_begin_37 rfl rfl rfl rfl ?_
  refine w_ic dX6_begin_38 zi_1 ?_
  refine w_bs dX6_begin_39 hU1932 rfl (k := 9) zt_9 (Nat.le_of_ble_eq_true rfl) rfl ?_
  intro M1948 hU1949 hv1950 hn1951
  have f1952 := (hn1951 19 0 (by decide)).trans f1935
  have f1953 := (hn1951 19 1 (by decide)).trans f1936
  have f1954 := (hn1951 19 2 (by decide)).trans f1937
  have f1955 := (hn1951 19 3 (by decide)).trans f1938
  have f1956 := (hn1951 19 4 (by decide)).trans f1939
  have f1957 := (hn1951 19 5 (by decide)).trans f1940
  have f1958 := (hn1951 19 6 (by decide)).trans f1941
  have f1959 := (hn1951 19 7 (by decide)).trans f1942
  have f1960 := (hn1951 19 8 (by decide)).trans f1943
  have f1961 := (hn1951 19 9 (by decide)).trans f1944
  have f1962 := (hn1951 19 10 (by decide)).trans f1945
  have f1963 := (hn1951 7 0 (by decide)).trans f1946
  have f1964 := (hn1951 0 3 (by decide)).trans f1947
  clear hn1951 f1935 f1936 f1937 f1938 f1939 f1940 f1941 f1942 f1943 f1944 f1945 f1946 f1947 hv1933 hU1932 M1931
  refine w_lo dX6_begin_40 rfl rfl rfl rfl ?_
  refine w_gf dX6_begin_41 rfl hU1949.1 rfl ((hU1949).2 49 4 rfl |>.trans zq_49_4) ?_
  refine w_lo dX6_begin_44 rfl rfl rfl rfl ?_
  refine w_ic dX6_begin_45 zi_m1 ?_
  refine w_is dX6_begin_46 hU1949 rfl (k := 9) zt_9 (Nat.le_of_ble_eq_true rfl) ?_
  intro M1965 hU1966 hv1967 hn1968
  have f1969 := (hn1968 19 0 (by decide)).trans f1952
  have f1970 := (hn1968 19 1 (by decide)).trans f1953
  have f1971 := (hn1968 19 2 (by decide)).trans f1954
  have f1972 := (hn1968 19 3 (by decide)).trans f1955
  have f1973 := (hn1968 19 4 (by decide)).trans f1956
  have f1974 := (hn1968 19 5 (by decide)).trans f1957
  have f1975 := (hn1968 19 6 (by decide)).trans f1958
  have f1976 := (hn1968 19 7 (by decide)).trans f1959
  have f1977 := (hn1968 19 8 (by decide)).trans f1960
  have f1978 := (hn1968 19 9 (by decide)).trans f1961
  have f1979 := (hn1968 19 10 (by decide)).trans f1962
  have f1980 := (hn1968 7 0 (by decide)).trans f1963
  have f1981 := (hn1968 0 3 (by decide)).trans f1964
  clear hn1968 f1952 f1953 f1954 f1955 f1956 f1957 f1958 f1959 f1960 f1961 f1962 f1963 f1964 hv1950 hU1949 M1948
  refine w_lo dX6_begin_47 rfl rfl rfl rfl ?_
  refine w_gf dX6_begin_48 rfl hU1966.1 rfl ((hU1966).2 49 5 rfl |>.trans zq_49_5) ?_
  refine w_lo dX6_begin_51 rfl rfl rfl rfl ?_
  refine w_ic dX6_begin_52 zi_0 ?_
  refine w_is dX6_begin_53 hU1966 rfl (k := 9) zt_9 (Nat.le_of_ble_eq_true rfl) ?_
  intro M1982 hU1983 hv1984 hn1985
  have f1986 := (hn1985 19 0 (by decide)).trans f1969
  have f1987 := (hn1985 19 1 (by decide)).trans f1970
  have f1988 := (hn1985 19 2 (by decide)).trans f1971
  have f1989 := (hn1985 19 3 (by decide)).trans f1972
  have f1990 := (hn1985 19 4 (by decide)).trans f1973
  have f1991 := (hn1985 19 5 (by decide)).trans f1974
  have f1992 := (hn1985 19 6 (by decide)).trans f1975
  have f1993 := (hn1985 19 7 (by decide)).trans f1976
  have f1994 := (hn1985 19 8 (by decide)).trans f1977
  have f1995 := (hn1985 19 9 (by decide)).trans f1978
  have f1996 := (hn1985 19 10 (by decide)).trans f1979
  have f1997 := (hn1985 7 0 (by decide)).trans f1980
  have f1998 := (hn1985 0 3 (by decide)).trans f1981
  clear hn1985 f1969 f1970 f1971 f1972 f1973 f1974 f1975 f1976 f1977 f1978 f1979 f1980 f1981 hv1967 hU1966 M1965
  refine w_lo dX6_begin_54 rfl rfl rfl rfl ?_
  refine w_gf dX6_begin_55 rfl hU1983.1 rfl ((hU1983).2 49 6 rfl |>.trans zq_49_6) ?_
  refine w_lo dX6_begin_58 rfl rfl rfl rfl ?_
  refine w_ic dX6_begin_59 zi_m1 ?_
  refine w_is dX6_begin_60 hU1983 rfl (k := 9) zt_9 (Nat.le_of_ble_eq_true rfl) ?_
  intro M1999 hU2000 hv2001 hn2002
  have f2003 := (hn2002 19 0 (by decide)).trans f1986
  have f2004 := (hn2002 19 1 (by decide)).trans f1987
  have f2005 := (hn2002 19 2 (by decide)).trans f1988
  have f2006 := (hn2002 19 3 (by decide)).trans f1989
  have f2007 := (hn2002 19 4 (by decide)).trans f1990
  have f2008 := (hn2002 19 5 (by decide)).trans f1991
  have f2009 := (hn2002 19 6 (by decide)).trans f1992
  have f2010 := (hn2002 19 7 (by decide)).trans f1993
  have f2011 := (hn2002 19 8 (by decide)).trans f1994
  have f2012 := (hn2002 19 9 (by decide)).trans f1995
  have f2013 := (hn2002 19 10 (by decide)).trans f1996
  have f2014 := (hn2002 7 0 (by decide)).trans f1997
  have f2015 := (hn2002 0 3 (by decide)).trans f1998
  clear hn2002 f1986 f1987 f1988 f1989 f1990 f1991 f1992 f1993 f1994 f1995 f1996 f1997 f1998 hv1984 hU1983 M1982
  refine w_lo dX6_begin_61 rfl rfl rfl rfl ?_
  refine w_gf dX6_begin_62 rfl hU2000.1 rfl ((hU2000).2 49 7 rfl |>.trans zq_49_7) ?_
  refine w_lo dX6_begin_65 rfl rfl rfl rfl ?_
  refine w_ic dX6_begin_66 zi_0 ?_
  refine w_is dX6_begin_67 hU2000 rfl (k := 9) zt_9 (Nat.le_of_ble_eq_true rfl) ?_
  intro M2016 hU2017 hv2018 hn2019
  have f2020 := (hn2019 19 0 (by decide)).trans f2003
  have f2021 := (hn2019 19 1 (by decide)).trans f2004
  have f2022 := (hn2019 19 2 (by decide)).trans f2005
  have f2023 := (hn2019 19 3 (by decide)).trans f2006
  have f2024 := (hn2019 19 4 (by decide)).trans f2007
  have f2025 := (hn2019 19 5 (by decide)).trans f2008
  have f2026 := (hn2019 19 6 (by decide)).trans f2009
  have f2027 := (hn2019 19 7 (by decide)).trans f2010
  have f2028 := (hn2019 19 8 (by decide)).trans f2011
  have f2029 := (hn2019 19 9 (by decide)).trans f2012
  have f2030 := (hn2019 19 10 (by decide)).trans f2013
  have f2031 := (hn2019 7 0 (by decide)).trans f2014
  have f2032 := (hn2019 0 3 (by decide)).trans f2015
  clear hn2019 f2003 f2004 f2005 f2006 f2007 f2008 f2009 f2010 f2011 f2012 f2013 f2014 f2015 hv2001 hU2000 M1999
  refine w_lo dX6_begin_68 rfl rfl rfl rfl ?_
  refine w_gf dX6_begin_69 rfl hU2017.1 rfl ((hU2017).2 49 8 rfl |>.trans zq_49_8) ?_
  refine w_lo dX6_begin_72 rfl rfl rfl rfl ?_
  refine w_ic dX6_begin_73 zi_m1 ?_
  refine w_is dX6_begin_74 hU2017 rfl (k := 9) zt_9 (Nat.le_of_ble_eq_true rfl) ?_
  intro M2033 hU2034 hv2035 hn2036
  have f2037 := (hn2036 19 0 (by decide)).trans f2020
  have f2038 := (hn2036 19 1 (by decide)).trans f2021
  have f2039 := (hn2036 19 2 (by decide)).trans f2022
  have f2040 := (hn2036 19 3 (by decide)).trans f2023
  have f2041 := (hn2036 19 4 (by decide)).trans f2024
  have f2042 := (hn2036 19 5 (by decide)).trans f2025
  have f2043 := (hn2036 19 6 (by decide)).trans f2026
  have f2044 := (hn2036 19 7 (by decide)).trans f2027
  have f2045 := (hn2036 19 8 (by decide)).trans f2028
  have f2046 := (hn2036 19 9 (by decide)).trans f2029
  have f2047 := (hn2036 19 10 (by decide)).trans f2030
  have f2048 := (hn2036 7 0 (by decide)).trans f2031
  have f2049 := (hn2036 0 3 (by decide)).trans f2032
  clear hn2036 f2020 f2021 f2022 f2023 f2024 f2025 f2026 f2027 f2028 f2029 f2030 f2031 f2032 hv2018 hU2017 M2016
  refine w_lo dX6_begin_75 rfl rfl rfl rfl ?_
  refine w_gf dX6_begin_76 rfl hU2034.1 rfl ((hU2034).2 49 9 rfl |>.trans zq_49_9) ?_
  refine w_lo dX6_begin_79 rfl rfl rfl rfl ?_
  refine w_ic dX6_begin_80 zi_0 ?_
  refine w_is dX6_begin_81 hU2034 rfl (k := 9) zt_9 (Nat.le_of_ble_eq_true rfl) ?_
  intro M2050 hU2051 hv2052 hn2053
  have f2054 := (hn2053 19 0 (by decide)).trans f2037
  have f2055 := (hn2053 19 1 (by decide)).trans f2038
  have f2056 := (hn2053 19 2 (by decide)).trans f2039
  have f2057 := (hn2053 19 3 (by decide)).trans f2040
  have f2058 := (hn2053 19 4 (by decide)).trans f2041
  have f2059 := (hn2053 19 5 (by decide)).trans f2042
  have f2060 := (hn2053 19 6 (by decide)).trans f2043
  have f2061 := (hn2053 19 7 (by decide)).trans f2044
  have f2062 := (hn2053 19 8 (by decide)).trans f2045
  have f2063 := (hn2053 19 9 (by decide)).trans f2046
  have f2064 := (hn2053 19 10 (by decide)).trans f2047
  have f2065 := (hn2053 7 0 (by decide)).trans f2048
  have f2066 := (hn2053 0 3 (by decide)).trans f2049
  clear hn2053 f2037 f2038 f2039 f2040 f2041 f2042 f2043 f2044 f2045 f2046 f2047 f2048 f2049 hv2035 hU2034 M2033
  refine w_lo dX6_begin_82 rfl rfl rfl rfl ?_
  refine w_gf dX6_begin_83 rfl hU2051.1 rfl ((hU2051).2 49 10 rfl |>.trans zq_49_10) ?_
  refine w_lo dX6_begin_86 rfl rfl rfl rfl ?_
  refine w_ic dX6_begin_87 zi_0 ?_
  refine w_is dX6_begin_88 hU2051 rfl (k := 9) zt_9 (Nat.le_of_ble_eq_true rfl) ?_
  intro M2067 hU2068 hv2069 hn2070
  have f2071 := (hn2070 19 0 (by decide)).trans f2054
  have f2072 := (hn2070 19 1 (by decide)).trans f2055
  have f2073 := (hn2070 19 2 (by decide)).trans f2056
  have f2074 := (hn2070 19 3 (by decide)).trans f2057
  have f2075 := (hn2070 19 4 (by decide)).trans f2058
  have f2076 := (hn2070 19 5 (by decide)).trans f2059
  have f2077 := (hn2070 19 6 (by decide)).trans f2060
  have f2078 := (hn2070 19 7 (by decide)).trans f2061
  have f2079 := (hn2070 19 8 (by decide)).trans f2062
  have f2080 := (hn2070 19 9 (by decide)).trans f2063
  have f2081 := (hn2070 19 10 (by decide)).trans f2064
  have f2082 := (hn2070 7 0 (by decide)).trans f2065
  have f2083 := (hn2070 0 3 (by decide)).trans f2066
  clear hn2070 f2054 f2055 f2056 f2057 f2058 f2059 f2060 f2061 f2062 f2063 f2064 f2065 f2066 hv2052 hU2051 M2050
  refine w_lo dX6_begin_89 rfl rfl rfl rfl ?_
  refine w_gf dX6_begin_90 rfl hU2068.1 rfl ((hU2068).2 49 11 rfl |>.trans zq_49_11) ?_
  refine w_lo dX6_begin_93 rfl rfl rfl rfl ?_
  refine w_ic dX6_begin_94 zi_0 ?_
  refine w_is dX6_begin_95 hU2068 rfl (k := 9) zt_9 (Nat.le_of_ble_eq_true rfl) ?_
  intro M2084 hU2085 hv2086 hn2087
  have f2088 := (hn2087 19 0 (by decide)).trans f2071
  have f2089 := (hn2087 19 1 (by decide)).trans f2072
  have f2090 := (hn2087 19 2 (by decide)).trans f2073
  have f2091 := (hn2087 19 3 (by decide)).trans f2074
  have f2092 := (hn2087 19 4 (by decide)).trans f2075
  have f2093 := (hn2087 19 5 (by decide)).trans f2076
  have f2094 := (hn2087 19 6 (by decide)).trans f2077
  have f2095 := (hn2087 19 7 (by decide)).trans f2078
  have f2096 := (hn2087 19 8 (by decide)).trans f2079
  have f2097 := (hn2087 19 9 (by decide)).trans f2080
  have f2098 := (hn2087 19 10 (by decide)).trans f2081
  have f2099 := (hn2087 7 0 (by decide)).trans f2082
  have f2100 := (hn2087 0 3 (by decide)).trans f2083
  clear hn2087 f2071 f2072 f2073 f2074 f2075 f2076 f2077 f2078 f2079 f2080 f2081 f2082 f2083 hv2069 hU2068 M2067
  refine w_lo (ml' := [some (.ref 49), some (.ref 7), some (.int 10)]) dX6_begin_96 rfl rfl rfl rfl ?_
  refine w_gt dX6_begin_99 (t := 20) rfl ?_
  refine w_lo dX6_begin_20 rfl rfl rfl rfl ?_
  refine w_bi dX6_begin_21 (c := 12) (by decide) ?_
  refine w_cge_f dX6_begin_23 (t := 102) rfl (by decide) ?_
  refine w_lo dX6_begin_26 rfl rfl rfl rfl ?_
  refine w_gf dX6_begin_27 rfl hU2085.1 rfl ((hU2085).2 49 2 rfl |>.trans zq_49_2) ?_
  refine w_lo dX6_begin_30 rfl rfl rfl rfl ?_
  refine w_lo dX6_begin_31 rfl rfl rfl rfl ?_
  refine w_is dX6_begin_32 hU2085 rfl (k := 10) zt_10 (Nat.le_of_ble_eq_true rfl) ?_
  intro M2101 hU2102 hv2103 hn2104
  have f2105 := (hn2104 19 0 (by decide)).trans f2088
  have f2106 := (hn2104 19 1 (by decide)).trans f2089
  have f2107 := (hn2104 19 2 (by decide)).trans f2090
  have f2108 := (hn2104 19 3 (by decide)).trans f2091
  have f2109 := (hn2104 19 4 (by decide)).trans f2092
  have f2110 := (hn2104 19 5 (by decide)).trans f2093
  have f2111 := (hn2104 19 6 (by decide)).trans f2094
  have f2112 := (hn2104 19 7 (by decide)).trans f2095
  have f2113 := (hn2104 19 8 (by decide)).trans f2096
  have f2114 := (hn2104 19 9 (by decide)).trans f2097
  have f2115 := (hn2104 19 10 (by decide)).trans f2098
  have f2116 := (hn2104 7 0 (by decide)).trans f2099
  have f2117 := (hn2104 0 3 (by decide)).trans f2100
  clear hn2104 f2088 f2089 f2090 f2091 f2092 f2093 f2094 f2095 f2096 f2097 f2098 f2099 f2100 hv2086 hU2085 M2084
  refine w_lo dX6_begin_33 rfl rfl rfl rfl ?_
  refine w_gf dX6_begin_34 rfl hU2102.1 rfl ((hU2102).2 49 3 rfl |>.trans zq_49_3) ?_
  refine w_lo dX6_begin_37 rfl rfl rfl rfl ?_
  refine w_ic dX6_begin_38 zi_1 ?_
  refine w_bs dX6_begin_39 hU2102 rfl (k := 10) zt_10 (Nat.le_of_ble_eq_true rfl) rfl ?_
  intro M2118 hU2119 hv2120 hn2121
  have f2122 := (hn2121 19 0 (by decide)).trans f2105
  have f2123 := (hn2121 19 1 (by decide)).trans f2106
  have f2124 := (hn2121 19 2 (by decide)).trans f2107
  have f2125 := (hn2121 19 3 (by decide)).trans f2108
  have f2126 := (hn2121 19 4 (by decide)).trans f2109
  have f2127 := (hn2121 19 5 (by decide)).trans f2110
  have f2128 := (hn2121 19 6 (by decide)).trans f2111
  have f2129 := (hn2121 19 7 (by decide)).trans f2112
  have f2130 := (hn2121 19 8 (by decide)).trans f2113
  have f2131 := (hn2121 19 9 (by decide)).trans f2114
  have f2132 := (hn2121 19 10 (by decide)).trans f2115
  have f2133 := (hn2121 7 0 (by decide)).trans f2116
  have f2134 := (hn2121 0 3 (by decide)).trans f2117
  clear hn2121 f2105 f2106 f2107 f2108 f2109 f2110 f2111 f2112 f2113 f2114 f2115 f2116 f2117 hv2103 hU2102 M2101
  refine w_lo dX6_begin_40 rfl rfl rfl rfl ?_
  refine w_gf dX6_begin_41 rfl hU2119.1 rfl ((hU2119).2 49 4 rfl |>.trans zq_49_4) ?_
  refine w_lo dX6_begin_44 rfl rfl rfl rfl ?_
  refine w_ic dX6_begin_45 zi_m1 ?_
  refine w_is dX6_begin_46 hU2119 rfl (k := 10) zt_10 (Nat.le_of_ble_eq_true rfl) ?_
  intro M2135 hU2136 hv2137 hn2138
  have f2139 := (hn2138 19 0 (by decide)).trans f2122
  have f2140 := (hn2138 19 1 (by decide)).trans f2123
  have f2141 := (hn2138 19 2 (by decide)).trans f2124
  have f2142 := (hn2138 19 3 (by decide)).trans f2125
  have f2143 := (hn2138 19 4 (by decide)).trans f2126
  have f2144 := (hn2138 19 5 (by decide)).trans f2127
  have f2145 := (hn2138 19 6 (by decide)).trans f2128
  have f2146 := (hn2138 19 7 (by decide)).trans f2129
  have f2147 := (hn2138 19 8 (by decide)).trans f2130
  have f2148 := (hn2138 19 9 (by decide)).trans f2131
  have f2149 := (hn2138 19 10 (by decide)).trans f2132
  have f2150 := (hn2138 7 0 (by decide)).trans f2133
  have f2151 := (hn2138 0 3 (by decide)).trans f2134
  clear hn2138 f2122 f2123 f2124 f2125 f2126 f2127 f2128 f2129 f2130 f2131 f2132 f2133 f2134 hv2120 hU2119 M2118
  refine w_lo dX6_begin_47 rfl rfl rfl rfl ?_
  refine w_gf dX6_begin_48 rfl hU2136.1 rfl ((hU2136).2 49 5 rfl |>.trans zq_49_5) ?_
  refine w_lo dX6_begin_51 rfl rfl rfl rfl ?_
  refine w_ic dX6_begin_52 zi_0 ?_
  refine w_is dX6_begin_53 hU2136 rfl (k := 10) zt_10 (Nat.le_of_ble_eq_true rfl) ?_
  intro M2152 hU2153 hv2154 hn2155
  have f2156 := (hn2155 19 0 (by decide)).trans f2139
  have f2157 := (hn2155 19 1 (by decide)).trans f2140
  have f2158 := (hn2155 19 2 (by decide)).trans f2141
  have f2159 := (hn2155 19 3 (by decide)).trans f2142
  have f2160 := (hn2155 19 4 (by decide)).trans f2143
  have f2161 := (hn2155 19 5 (by decide)).trans f2144
  have f2162 := (hn2155 19 6 (by decide)).trans f2145
  have f2163 := (hn2155 19 7 (by decide)).trans f2146
  have f2164 := (hn2155 19 8 (by decide)).trans f2147
  have f2165 := (hn2155 19 9 (by decide)).trans f2148
  have f2166 := (hn2155 19 10 (by decide)).trans f2149
  have f2167 := (hn2155 7 0 (by decide)).trans f2150
  have f2168 := (hn2155 0 3 (by decide)).trans f2151
  clear hn2155 f2139 f2140 f2141 f2142 f2143 f2144 f2145 f2146 f2147 f2148 f2149 f2150 f2151 hv2137 hU2136 M2135
  refine w_lo dX6_begin_54 rfl rfl rfl rfl ?_
  refine w_gf dX6_begin_55 rfl hU2153.1 rfl ((hU2153).2 49 6 rfl |>.trans zq_49_6) ?_
  refine w_lo dX6_begin_58 rfl rfl rfl rfl ?_
  refine w_ic dX6_begin_59 zi_m1 ?_
  refine w_is dX6_begin_60 hU2153 rfl (k := 10) zt_10 (Nat.le_of_ble_eq_true rfl) ?_
  intro M2169 hU2170 hv2171 hn2172
  have f2173 := (hn2172 19 0 (by decide)).trans f2156
  have f2174 := (hn2172 19 1 (by decide)).trans f2157
  have f2175 := (hn2172 19 2 (by decide)).trans f2158
  have f2176 := (hn2172 19 3 (by decide)).trans f2159
  have f2177 := (hn2172 19 4 (by decide)).trans f2160
  have f2178 := (hn2172 19 5 (by decide)).trans f2161
  have f2179 := (hn2172 19 6 (by decide)).trans f2162
  have f2180 := (hn2172 19 7 (by decide)).trans f2163
  have f2181 := (hn2172 19 8 (by decide)).trans f2164
  have f2182 := (hn2172 19 9 (by decide)).trans f2165
  have f2183 := (hn2172 19 10 (by decide)).trans f2166
  have f2184 := (hn2172 7 0 (by decide)).trans f2167
  have f2185 := (hn2172 0 3 (by decide)).trans f2168
  clear hn2172 f2156 f2157 f2158 f2159 f2160 f2161 f2162 f2163 f2164 f2165 f2166 f2167 f2168 hv2154 hU2153 M2152
  refine w_lo dX6_begin_61 rfl rfl rfl rfl ?_
  refine w_gf dX6_begin_62 rfl hU2170.1 rfl ((hU2170).2 49 7 rfl |>.trans zq_49_7) ?_
  refine w_lo dX6_begin_65 rfl rfl rfl rfl ?_
  refine w_ic dX6_begin_66 zi_0 ?_
  refine w_is dX6_begin_67 hU2170 rfl (k := 10) zt_10 (Nat.le_of_ble_eq_true rfl) ?_
  intro M2186 hU2187 hv2188 hn2189
  have f2190 := (hn2189 19 0 (by decide)).trans f2173
  have f2191 := (hn2189 19 1 (by decide)).trans f2174
  have f2192 := (hn2189 19 2 (by decide)).trans f2175
  have f2193 := (hn2189 19 3 (by decide)).trans f2176
  have f2194 := (hn2189 19 4 (by decide)).trans f2177
  have f2195 := (hn2189 19 5 (by decide)).trans f2178
  have f2196 := (hn2189 19 6 (by decide)).trans f2179
  have f2197 := (hn2189 19 7 (by decide)).trans f2180
  have f2198 := (hn2189 19 8 (by decide)).trans f2181
  have f2199 := (hn2189 19 9 (by decide)).trans f2182
  have f2200 := (hn2189 19 10 (by decide)).trans f2183
  have f2201 := (hn2189 7 0 (by decide)).trans f2184
  have f2202 := (hn2189 0 3 (by decide)).trans f2185
  clear hn2189 f2173 f2174 f2175 f2176 f2177 f2178 f2179 f2180 f2181 f2182 f2183 f2184 f2185 hv2171 hU2170 M2169
  refine w_lo dX6_begin_68 rfl rfl rfl rfl ?_
  refine w_gf dX6_begin_69 rfl hU2187.1 rfl ((hU2187).2 49 8 rfl |>.trans zq_49_8) ?_
  refine w_lo dX6_begin_72 rfl rfl rfl rfl ?_
  refine w_ic dX6_begin_73 zi_m1 ?_
  refine w_is dX6_begin_74 hU2187 rfl (k := 10) zt_10 (Nat.le_of_ble_eq_true rfl) ?_
  intro M2203 hU2204 hv2205 hn2206
  have f2207 := (hn2206 19 0 (by decide)).trans f2190
  have f2208 := (hn2206 19 1 (by decide)).trans f2191
  have f2209 := (hn2206 19 2 (by decide)).trans f2192
  have f2210 := (hn2206 19 3 (by decide)).trans f2193
  have f2211 := (hn2206 19 4 (by decide)).trans f2194
  have f2212 := (hn2206 19 5 (by decide)).trans f2195
  have f2213 := (hn2206 19 6 (by decide)).trans f2196
  have f2214 := (hn2206 19 7 (by decide)).trans f2197
  have f2215 := (hn2206 19 8 (by decide)).trans f2198
  have f2216 := (hn2206 19 9 (by decide)).trans f2199
  have f2217 := (hn2206 19 10 (by decide)).trans f2200
  have f2218 := (hn2206 7 0 (by decide)).trans f2201
  have f2219 := (hn2206 0 3 (by decide)).trans f2202
  clear hn2206 f2190 f2191 f2192 f2193 f2194 f2195 f2196 f2197 f2198 f2199 f2200 f2201 f2202 hv2188 hU2187 M2186
  refine w_lo dX6_begin_75 rfl rfl rfl rfl ?_
  refine w_gf dX6_begin_76 rfl hU2204.1 rfl ((hU2204).2 49 9 rfl |>.trans zq_49_9) ?_
  refine w_lo dX6_begin_79 rfl rfl rfl rfl ?_
  refine w_ic dX6_begin_80 zi_0 ?_
  refine w_is dX6_begin_81 hU2204 rfl (k := 10) zt_10 (Nat.le_of_ble_eq_true rfl) ?_
  intro M2220 hU2221 hv2222 hn2223
  have f2224 := (hn2223 19 0 (by decide)).trans f2207
  have f2225 := (hn2223 19 1 (by decide)).trans f2208
  have f2226 := (hn2223 19 2 (by decide)).trans f2209
  have f2227 := (hn2223 19 3 (by decide)).trans f2210
  have f2228 := (hn2223 19 4 (by decide)).trans f2211
  have f2229 := (hn2223 19 5 (by decide)).trans f2212
  have f2230 := (hn2223 19 6 (by decide)).trans f2213
  have f2231 := (hn2223 19 7 (by decide)).trans f2214
  have f2232 := (hn2223 19 8 (by decide)).trans f2215
  have f2233 := (hn2223 19 9 (by decide)).trans f2216
  have f2234 := (hn2223 19 10 (by decide)).trans f2217
  have f2235 := (hn2223 7 0 (by decide)).trans f2218
  have f2236 := (hn2223 0 3 (by decide)).trans f2219
  clear hn2223 f2207 f2208 f2209 f2210 f2211 f2212 f2213 f2214 f2215 f2216 f2217 f2218 f2219 hv2205 hU2204 M2203
  refine w_lo dX6_begin_82 rfl rfl rfl rfl ?_
  refine w_gf dX6_begin_83 rfl hU2221.1 rfl ((hU2221).2 49 10 rfl |>.trans zq_49_10) ?_
  refine w_lo dX6_begin_86 rfl rfl rfl rfl ?_
  refine w_ic dX6_begin_87 zi_0 ?_
  refine w_is dX6_begin_88 hU2221 rfl (k := 10) zt_10 (Nat.le_of_ble_eq_true rfl) ?_
  intro M2237 hU2238 hv2239 hn2240
  have f2241 := (hn2240 19 0 (by decide)).trans f2224
  have f2242 := (hn2240 19 1 (by decide)).trans f2225
  have f2243 := (hn2240 19 2 (by decide)).trans f2226
  have f2244 := (hn2240 19 3 (by decide)).trans f2227
  have f2245 := (hn2240 19 4 (by decide)).trans f2228
  have f2246 := (hn2240 19 5 (by decide)).trans f2229
  have f2247 := (hn2240 19 6 (by decide)).trans f2230
  have f2248 := (hn2240 19 7 (by decide)).trans f2231
  have f2249 := (hn2240 19 8 (by decide)).trans f2232
  have f2250 := (hn2240 19 9 (by decide)).trans f2233
  have f2251 := (hn2240 19 10 (by decide)).trans f2234
  have f2252 := (hn2240 7 0 (by decide)).trans f2235
  have f2253 := (hn2240 0 3 (by decide)).trans f2236
  clear hn2240 f2224 f2225 f2226 f2227 f2228 f2229 f2230 f2231 f2232 f2233 f2234 f2235 f2236 hv2222 hU2221 M2220
  refine w_lo dX6_begin_89 rfl rfl rfl rfl ?_
  refine w_gf dX6_begin_90 rfl hU2238.1 rfl ((hU2238).2 49 11 rfl |>.trans zq_49_11) ?_
  refine w_lo dX6_begin_93 rfl rfl rfl rfl ?_
  refine w_ic dX6_begin_94 zi_0 ?_
  refine w_is dX6_begin_95 hU2238 rfl (k := 10) zt_10 (Nat.le_of_ble_eq_true rfl) ?_
  intro M2254 hU2255 hv2256 hn2257
  have f2258 := (hn2257 19 0 (by decide)).trans f2241
  have f2259 := (hn2257 19 1 (by decide)).trans f2242
  have f2260 := (hn2257 19 2 (by decide)).trans f2243
  have f2261 := (hn2257 19 3 (by decide)).trans f2244
  have f2262 := (hn2257 19 4 (by decide)).trans f2245
  have f2263 := (hn2257 19 5 (by decide)).trans f2246
  have f2264 := (hn2257 19 6 (by decide)).trans f2247
  have f2265 := (hn2257 19 7 (by decide)).trans f2248
  have f2266 := (hn2257 19 8 (by decide)).trans f2249
  have f2267 := (hn2257 19 9 (by decide)).trans f2250
  have f2268 := (hn2257 19 10 (by decide)).trans f2251
  have f2269 := (hn2257 7 0 (by decide)).trans f2252
  have f2270 := (hn2257 0 3 (by decide)).trans f2253
  clear hn2257 f2241 f2242 f2243 f2244 f2245 f2246 f2247 f2248 f2249 f2250 f2251 f2252 f2253 hv2239 hU2238 M2237
  refine w_lo (ml' := [some (.ref 49), some (.ref 7), some (.int 11)]) dX6_begin_96 rfl rfl rfl rfl ?_
  refine w_gt dX6_begin_99 (t := 20) rfl ?_
  refine w_lo dX6_begin_20 rfl rfl rfl rfl ?_
  refine w_bi dX6_begin_21 (c := 12) (by decide) ?_
  refine w_cge_f dX6_begin_23 (t := 102) rfl (by decide) ?_
  refine w_lo dX6_begin_26 rfl rfl rfl rfl ?_
  refine w_gf dX6_begin_27 rfl hU2255.1 rfl ((hU2255).2 49 2 rfl |>.trans zq_49_2) ?_
  refine w_lo dX6_begin_30 rfl rfl rfl rfl ?_
  refine w_lo dX6_begin_31 rfl rfl rfl rfl ?_
  refine w_is dX6_begin_32 hU2255 rfl (k := 11) zt_11 (Nat.le_of_ble_eq_true rfl) ?_
  intro M2271 hU2272 hv2273 hn2274
  have f2275 := (hn2274 19 0 (by decide)).trans f2258
  have f2276 := (hn2274 19 1 (by decide)).trans f2259
  have f2277 := (hn2274 19 2 (by decide)).trans f2260
  have f2278 := (hn2274 19 3 (by decide)).trans f2261
  have f2279 := (hn2274 19 4 (by decide)).trans f2262
  have f2280 := (hn2274 19 5 (by decide)).trans f2263
  have f2281 := (hn2274 19 6 (by decide)).trans f2264
  have f2282 := (hn2274 19 7 (by decide)).trans f2265
  have f2283 := (hn2274 19 8 (by decide)).trans f2266
  have f2284 := (hn2274 19 9 (by decide)).trans f2267
  have f2285 := (hn2274 19 10 (by decide)).trans f2268
  have f2286 := (hn2274 7 0 (by decide)).trans f2269
  have f2287 := (hn2274 0 3 (by decide)).trans f2270
  clear hn2274 f2258 f2259 f2260 f2261 f2262 f2263 f2264 f2265 f2266 f2267 f2268 f2269 f2270 hv2256 hU2255 M2254
  refine w_lo dX6_begin_33 rfl rfl rfl rfl ?_
  refine w_gf dX6_begin_34 rfl hU2272.1 rfl ((hU2272).2 49 3 rfl |>.trans zq_49_3) ?_
  refine w_lo dX6_begin_37 rfl rfl rfl rfl ?_
  refine w_ic dX6_begin_38 zi_1 ?_
  refine w_bs dX6_begin_39 hU2272 rfl (k := 11) zt_11 (Nat.le_of_ble_eq_true rfl) rfl ?_
  intro M2288 hU2289 hv2290 hn2291
  have f2292 := (hn2291 19 0 (by decide)).trans f2275
  have f2293 := (hn2291 19 1 (by decide)).trans f2276
  have f2294 := (hn2291 19 2 (by decide)).trans f2277
  have f2295 := (hn2291 19 3 (by decide)).trans f2278
  have f2296 := (hn2291 19 4 (by decide)).trans f2279
  have f2297 := (hn2291 19 5 (by decide)).trans f2280
  have f2298 := (hn2291 19 6 (by decide)).trans f2281
  have f2299 := (hn2291 19 7 (by decide)).trans f2282
  have f2300 := (hn2291 19 8 (by decide)).trans f2283
  have f2301 := (hn2291 19 9 (by decide)).trans f2284
  have f2302 := (hn2291 19 10 (by decide)).trans f2285
  have f2303 := (hn2291 7 0 (by decide)).trans f2286
  have f2304 := (hn2291 0 3 (by decide)).trans f2287
  clear hn2291 f2275 f2276 f2277 f2278 f2279 f2280 f2281 f2282 f2283 f2284 f2285 f2286 f2287 hv2273 hU2272 M2271
  refine w_lo dX6_begin_40 rfl rfl rfl rfl ?_
  refine w_gf dX6_begin_41 rfl hU2289.1 rfl ((hU2289).2 49 4 rfl |>.trans zq_49_4) ?_
  refine w_lo dX6_begin_44 rfl rfl rfl rfl ?_
  refine w_ic dX6_begin_45 zi_m1 ?_
  refine w_is dX6_begin_46 hU2289 rfl (k := 11) zt_11 (Nat.le_of_ble_eq_true rfl) ?_
  intro M2305 hU2306 hv2307 hn2308
  have f2309 := (hn2308 19 0 (by decide)).trans f2292
  have f2310 := (hn2308 19 1 (by decide)).trans f2293
  have f2311 := (hn2308 19 2 (by decide)).trans f2294
  have f2312 := (hn2308 19 3 (by decide)).trans f2295
  have f2313 := (hn2308 19 4 (by decide)).trans f2296
  have f2314 := (hn2308 19 5 (by decide)).trans f2297
  have f2315 := (hn2308 19 6 (by decide)).trans f2298
  have f2316 := (hn2308 19 7 (by decide)).trans f2299
  have f2317 := (hn2308 19 8 (by decide)).trans f2300
  have f2318 := (hn2308 19 9 (by decide)).trans f2301
  have f2319 := (hn2308 19 10 (by decide)).trans f2302
  have f2320 := (hn2308 7 0 (by decide)).trans f2303
  have f2321 := (hn2308 0 3 (by decide)).trans f2304
  clear hn2308 f2292 f2293 f2294 f2295 f2296 f2297 f2298 f2299 f2300 f2301 f2302 f2303 f2304 hv2290 hU2289 M2288
  refine w_lo dX6_begin_47 rfl rfl rfl rfl ?_
  refine w_gf dX6_begin_48 rfl hU2306.1 rfl ((hU2306).2 49 5 rfl |>.trans zq_49_5) ?_
  refine w_lo dX6_begin_51 rfl rfl rfl rfl ?_
  refine w_ic dX6_begin_52 zi_0 ?_
  refine w_is dX6_begin_53 hU2306 rfl (k := 11) zt_11 (Nat.le_of_ble_eq_true rfl) ?_
  intro M2322 hU2323 hv2324 hn2325
  have f2326 := (hn2325 19 0 (by decide)).trans f2309
  have f2327 := (hn2325 19 1 (by decide)).trans f2310
  have f2328 := (hn2325 19 2 (by decide)).trans f2311
  have f2329 := (hn2325 19 3 (by decide)).trans f2312
  have f2330 := (hn2325 19 4 (by decide)).trans f2313
  have f2331 := (hn2325 19 5 (by decide)).trans f2314
  have f2332 := (hn2325 19 6 (by decide)).trans f2315
  have f2333 := (hn2325 19 7 (by decide)).trans f2316
  have f2334 := (hn2325 19 8 (by decide)).trans f2317
  have f2335 := (hn2325 19 9 (by decide)).trans f2318
  have f2336 := (hn2325 19 10 (by decide)).trans f2319
  have f2337 := (hn2325 7 0 (by decide)).trans f2320
  have f2338 := (hn2325 0 3 (by decide)).trans f2321
  clear hn2325 f2309 f2310 f2311 f2312 f2313 f2314 f2315 f2316 f2317 f2318 f2319 f2320 f2321 hv2307 hU2306 M2305
  refine w_lo dX6_begin_54 rfl rfl rfl rfl ?_
  refine w_gf dX6_begin_55 rfl hU2323.1 rfl ((hU2323).2 49 6 rfl |>.trans zq_49_6) ?_
  refine w_lo dX6_begin_58 rfl rfl rfl rfl ?_
  refine w_ic dX6_begin_59 zi_m1 ?_
  refine w_is dX6_begin_60 hU2323 rfl (k := 11) zt_11 (Nat.le_of_ble_eq_true rfl) ?_
  intro M2339 hU2340 hv2341 hn2342
  have f2343 := (hn2342 19 0 (by decide)).trans f2326
  have f2344 := (hn2342 19 1 (by decide)).trans f2327
  have f2345 := (hn2342 19 2 (by decide)).trans f2328
  have f2346 := (hn2342 19 3 (by decide)).trans f2329
  have f2347 := (hn2342 19 4 (by decide)).trans f2330
  have f2348 := (hn2342 19 5 (by decide)).trans f2331
  have f2349 := (hn2342 19 6 (by decide)).trans f2332
  have f2350 := (hn2342 19 7 (by decide)).trans f2333
  have f2351 := (hn2342 19 8 (by decide)).trans f2334
  have f2352 := (hn2342 19 9 (by decide)).trans f2335
  have f2353 := (hn2342 19 10 (by decide)).trans f2336
  have f2354 := (hn2342 7 0 (by decide)).trans f2337
  have f2355 := (hn2342 0 3 (by decide)).trans f2338
  clear hn2342 f2326 f2327 f2328 f2329 f2330 f2331 f2332 f2333 f2334 f2335 f2336 f2337 f2338 hv2324 hU2323 M2322
  refine w_lo dX6_begin_61 rfl rfl rfl rfl ?_
  refine w_gf dX6_begin_62 rfl hU2340.1 rfl ((hU2340).2 49 7 rfl |>.trans zq_49_7) ?_
  refine w_lo dX6_begin_65 rfl rfl rfl rfl ?_
  refine w_ic dX6_begin_66 zi_0 ?_
  refine w_is dX6_begin_67 hU2340 rfl (k := 11) zt_11 (Nat.le_of_ble_eq_true rfl) ?_
  intro M2356 hU2357 hv2358 hn2359
  have f2360 := (hn2359 19 0 (by decide)).trans f2343
  have f2361 := (hn2359 19 1 (by decide)).trans f2344
  have f2362 := (hn2359 19 2 (by decide)).trans f2345
  have f2363 := (hn2359 19 3 (by decide)).trans f2346
  have f2364 := (hn2359 19 4 (by decide)).trans f2347
  have f2365 := (hn2359 19 5 (by decide)).trans f2348
  have f2366 := (hn2359 19 6 (by decide)).trans f2349
  have f2367 := (hn2359 19 7 (by decide)).trans f2350
  have f2368 := (hn2359 19 8 (by decide)).trans f2351
  have f2369 := (hn2359 19 9 (by decide)).trans f2352
  have f2370 := (hn2359 19 10 (by decide)).trans f2353
  have f2371 := (hn2359 7 0 (by decide)).trans f2354
  have f2372 := (hn2359 0 3 (by decide)).trans f2355
  clear hn2359 f2343 f2344 f2345 f2346 f2347 f2348 f2349 f2350 f2351 f2352 f2353 f2354 f2355 hv2341 hU2340 M2339
  refine w_lo dX6_begin_68 rfl rfl rfl rfl ?_
  refine w_gf dX6_begin_69 rfl hU2357.1 rfl ((hU2357).2 49 8 rfl |>.trans zq_49_8) ?_
  refine w_lo dX6_begin_72 rfl rfl rfl rfl ?_
  refine w_ic dX6_begin_73 zi_m1 ?_
  refine w_is dX6_begin_74 hU2357 rfl (k := 11) zt_11 (Nat.le_of_ble_eq_true rfl) ?_
  intro M2373 hU2374 hv2375 hn2376
  have f2377 := (hn2376 19 0 (by decide)).trans f2360
  have f2378 := (hn2376 19 1 (by decide)).trans f2361
  have f2379 := (hn2376 19 2 (by decide)).trans f2362
  have f2380 := (hn2376 19 3 (by decide)).trans f2363
  have f2381 := (hn2376 19 4 (by decide)).trans f2364
  have f2382 := (hn2376 19 5 (by decide)).trans f2365
  have f2383 := (hn2376 19 6 (by decide)).trans f2366
  have f2384 := (hn2376 19 7 (by decide)).trans f2367
  have f2385 := (hn2376 19 8 (by decide)).trans f2368
  have f2386 := (hn2376 19 9 (by decide)).trans f2369
  have f2387 := (hn2376 19 10 (by decide)).trans f2370
  have f2388 := (hn2376 7 0 (by decide)).trans f2371
  have f2389 := (hn2376 0 3 (by decide)).trans f2372
  clear hn2376 f2360 f2361 f2362 f2363 f2364 f2365 f2366 f2367 f2368 f2369 f2370 f2371 f2372 hv2358 hU2357 M2356
  refine w_lo dX6_begin_75 rfl rfl rfl rfl ?_
  refine w_gf dX6_begin_76 rfl hU2374.1 rfl ((hU2374).2 49 9 rfl |>.trans zq_49_9) ?_
  refine w_lo dX6_begin_79 rfl rfl rfl rfl ?_
  refine w_ic dX6_begin_80 zi_0 ?_
  refine w_is dX6_begin_81 hU2374 rfl (k := 11) zt_11 (Nat.le_of_ble_eq_true rfl) ?_
  intro M2390 hU2391 hv2392 hn2393
  have f2394 := (hn2393 19 0 (by decide)).trans f2377
  have f2395 := (hn2393 19 1 (by decide)).trans f2378
  have f2396 := (hn2393 19 2 (by decide)).trans f2379
  have f2397 := (hn2393 19 3 (by decide)).trans f2380
  have f2398 := (hn2393 19 4 (by decide)).trans f2381
  have f2399 := (hn2393 19 5 (by decide)).trans f2382
  have f2400 := (hn2393 19 6 (by decide)).trans f2383
  have f2401 := (hn2393 19 7 (by decide)).trans f2384
  have f2402 := (hn2393 19 8 (by decide)).trans f2385
  have f2403 := (hn2393 19 9 (by decide)).trans f2386
  have f2404 := (hn2393 19 10 (by decide)).trans f2387
  have f2405 := (hn2393 7 0 (by decide)).trans f2388
  have f2406 := (hn2393 0 3 (by decide)).trans f2389
  clear hn2393 f2377 f2378 f2379 f2380 f2381 f2382 f2383 f2384 f2385 f2386 f2387 f2388 f2389 hv2375 hU2374 M2373
  refine w_lo dX6_begin_82 rfl rfl rfl rfl ?_
  refine w_gf dX6_begin_83 rfl hU2391.1 rfl ((hU2391).2 49 10 rfl |>.trans zq_49_10) ?_
  refine w_lo dX6_begin_86 rfl rfl rfl rfl ?_
  refine w_ic dX6_begin_87 zi_0 ?_
  refine w_is dX6_begin_88 hU2391 rfl (k := 11) zt_11 (Nat.le_of_ble_eq_true rfl) ?_
  intro M2407 hU2408 hv2409 hn2410
  have f2411 := (hn2410 19 0 (by decide)).trans f2394
  have f2412 := (hn2410 19 1 (by decide)).trans f2395
  have f2413 := (hn2410 19 2 (by decide)).trans f2396
  have f2414 := (hn2410 19 3 (by decide)).trans f2397
  have f2415 := (hn2410 19 4 (by decide)).trans f2398
  have f2416 := (hn2410 19 5 (by decide)).trans f2399
  have f2417 := (hn2410 19 6 (by decide)).trans f2400
  have f2418 := (hn2410 19 7 (by decide)).trans f2401
  have f2419 := (hn2410 19 8 (by decide)).trans f2402
  have f2420 := (hn2410 19 9 (by decide)).trans f2403
  have f2421 := (hn2410 19 10 (by decide)).trans f2404
  have f2422 := (hn2410 7 0 (by decide)).trans f2405
  have f2423 := (hn2410 0 3 (by decide)).trans f2406
  clear hn2410 f2394 f2395 f2396 f2397 f2398 f2399 f2400 f2401 f2402 f2403 f2404 f2405 f2406 hv2392 hU2391 M2390
  refine w_lo dX6_begin_89 rfl rfl rfl rfl ?_
  refine w_gf dX6_begin_90 rfl hU2408.1 rfl ((hU2408).2 49 11 rfl |>.trans zq_49_11) ?_
  refine w_lo dX6_begin_93 rfl rfl rfl rfl ?_
  refine w_ic dX6_begin_94 zi_0 ?_
  refine w_is dX6_begin_95 hU2408 rfl (k := 11) zt_11 (Nat.le_of_ble_eq_true rfl) ?_
  intro M2424 hU2425 hv2426 hn2427
  have f2428 := (hn2427 19 0 (by decide)).trans f2411
  have f2429 := (hn2427 19 1 (by decide)).trans f2412
  have f2430 := (hn2427 19 2 (by decide)).trans f2413
  have f2431 := (hn2427 19 3 (by decide)).trans f2414
  have f2432 := (hn2427 19 4 (by decide)).trans f2415
  have f2433 := (hn2427 19 5 (by decide)).trans f2416
  have f2434 := (hn2427 19 6 (by decide)).trans f2417
  have f2435 := (hn2427 19 7 (by decide)).trans f2418
  have f2436 := (hn2427 19 8 (by decide)).trans f2419
  have f2437 := (hn2427 19 9 (by decide)).trans f2420
  have f2438 := (hn2427 19 10 (by decide)).trans f2421
  have f2439 := (hn2427 7 0 (by decide)).trans f2422
  have f2440 := (hn2427 0 3 (by decide)).trans f2423
  clear hn2427 f2411 f2412 f2413 f2414 f2415 f2416 f2417 f2418 f2419 f2420 f2421 f2422 f2423 hv2409 hU2408 M2407
  refine w_lo (ml' := [some (.ref 49), some (.ref 7), some (.int 12)]) dX6_begin_96 rfl rfl rfl rfl ?_
  refine w_gt dX6_begin_99 (t := 20) rfl ?_
  refine w_lo dX6_begin_20 rfl rfl rfl rfl ?_
  refine w_bi dX6_begin_21 (c := 12) (by decide) ?_
  refine w_cge_t dX6_begin_23 (t := 102) rfl (by decide) ?_
  refine w_ic dX6_begin_102 zi_0 ?_
  refine w_lo dX6_begin_103 rfl rfl rfl rfl ?_
  refine w_lo dX6_begin_104 rfl rfl rfl rfl ?_
  refine w_bi dX6_begin_105 (c := 11) (by decide) ?_
  refine w_cge_f dX6_begin_107 (t := 135) rfl (by decide) ?_
  refine w_lo dX6_begin_110 rfl rfl rfl rfl ?_
  refine w_gf dX6_begin_111 rfl hU2425.1 rfl ((hU2425).2 49 12 rfl |>.trans zq_49_12) ?_
  refine w_lo dX6_begin_114 rfl rfl rfl rfl ?_
  refine w_ic dX6_begin_115 zi_1 ?_
  refine w_bs dX6_begin_116 hU2425 rfl (k := 0) zt_0 (Nat.le_of_ble_eq_true rfl) rfl ?_
  intro M2441 hU2442 hv2443 hn2444
  have f2445 := (hn2444 19 0 (by decide)).trans f2428
  have f2446 := (hn2444 19 1 (by decide)).trans f2429
  have f2447 := (hn2444 19 2 (by decide)).trans f2430
  have f2448 := (hn2444 19 3 (by decide)).trans f2431
  have f2449 := (hn2444 19 4 (by decide)).trans f2432
  have f2450 := (hn2444 19 5 (by decide)).trans f2433
  have f2451 := (hn2444 19 6 (by decide)).trans f2434
  have f2452 := (hn2444 19 7 (by decide)).trans f2435
  have f2453 := (hn2444 19 8 (by decide)).trans f2436
  have f2454 := (hn2444 19 9 (by decide)).trans f2437
  have f2455 := (hn2444 19 10 (by decide)).trans f2438
  have f2456 := (hn2444 7 0 (by decide)).trans f2439
  have f2457 := (hn2444 0 3 (by decide)).trans f2440
  clear hn2444 f2428 f2429 f2430 f2431 f2432 f2433 f2434 f2435 f2436 f2437 f2438 f2439 f2440 hv2426 hU2425 M2424
  refine w_lo dX6_begin_117 rfl rfl rfl rfl ?_
  refine w_gf dX6_begin_118 rfl hU2442.1 rfl ((hU2442).2 49 13 rfl |>.trans zq_49_13) ?_
  refine w_lo dX6_begin_121 rfl rfl rfl rfl ?_
  refine w_lo dX6_begin_122 rfl rfl rfl rfl ?_
  refine w_gf dX6_begin_123 rfl hU2442.1 rfl ((hU2442).2 7 14 rfl |>.trans zq_7_14) ?_
  refine w_lo dX6_begin_126 rfl rfl rfl rfl ?_
  refine w_ia dX6_begin_127 hU2442.1 rfl (k := 0) zt_0 f2445 ?_
  refine w_is dX6_begin_128 hU2442 rfl (k := 0) zt_0 (Nat.le_of_ble_eq_true rfl) ?_
  intro M2458 hU2459 hv2460 hn2461
  have f2462 := (hn2461 19 1 (by decide)).trans f2446
  have f2463 := (hn2461 19 2 (by decide)).trans f2447
  have f2464 := (hn2461 19 3 (by decide)).trans f2448
  have f2465 := (hn2461 19 4 (by decide)).trans f2449
  have f2466 := (hn2461 19 5 (by decide)).trans f2450
  have f2467 := (hn2461 19 6 (by decide)).trans f2451
  have f2468 := (hn2461 19 7 (by decide)).trans f2452
  have f2469 := (hn2461 19 8 (by decide)).trans f2453
  have f2470 := (hn2461 19 9 (by decide)).trans f2454
  have f2471 := (hn2461 19 10 (by decide)).trans f2455
  have f2472 := (hn2461 7 0 (by decide)).trans f2456
  have f2473 := (hn2461 0 3 (by decide)).trans f2457
  clear hn2461 f2445 f2446 f2447 f2448 f2449 f2450 f2451 f2452 f2453 f2454 f2455 f2456 f2457 hv2443 hU2442 M2441
  refine w_lo (ml' := [some (.ref 49), some (.ref 7), some (.int 1)]) dX6_begin_129 rfl rfl rfl rfl ?_
  refine w_gt dX6_begin_132 (t := 104) rfl ?_
  refine w_lo dX6_begin_104 rfl rfl rfl rfl ?_
  refine w_bi dX6_begin_105 (c := 11) (by decide) ?_
  refine w_cge_f dX6_begin_107 (t := 135) rfl (by decide) ?_
  refine w_lo dX6_begin_110 rfl rfl rfl rfl ?_
  refine w_gf dX6_begin_111 rfl hU2459.1 rfl ((hU2459).2 49 12 rfl |>.trans zq_49_12) ?_
  refine w_lo dX6_begin_114 rfl rfl rfl rfl ?_
  refine w_ic dX6_begin_115 zi_1 ?_
  refine w_bs dX6_begin_116 hU2459 rfl (k := 1) zt_1 (Nat.le_of_ble_eq_true rfl) rfl ?_
  intro M2474 hU2475 hv2476 hn2477
  have f2478 := (hn2477 19 1 (by decide)).trans f2462
  have f2479 := (hn2477 19 2 (by decide)).trans f2463
  have f2480 := (hn2477 19 3 (by decide)).trans f2464
  have f2481 := (hn2477 19 4 (by decide)).trans f2465
  have f2482 := (hn2477 19 5 (by decide)).trans f2466
  have f2483 := (hn2477 19 6 (by decide)).trans f2467
  have f2484 := (hn2477 19 7 (by decide)).trans f2468
  have f2485 := (hn2477 19 8 (by decide)).trans f2469
  have f2486 := (hn2477 19 9 (by decide)).trans f2470
  have f2487 := (hn2477 19 10 (by decide)).trans f2471
  have f2488 := (hn2477 7 0 (by decide)).trans f2472
  have f2489 := (hn2477 0 3 (by decide)).trans f2473
  clear hn2477 f2462 f2463 f2464 f2465 f2466 f2467 f2468 f2469 f2470 f2471 f2472 f2473 hv2460 hU2459 M2458
  refine w_lo dX6_begin_117 rfl rfl rfl rfl ?_
  refine w_gf dX6_begin_118 rfl hU2475.1 rfl ((hU2475).2 49 13 rfl |>.trans zq_49_13) ?_
  refine w_lo dX6_begin_121 rfl rfl rfl rfl ?_
  refine w_lo dX6_begin_122 rfl rfl rfl rfl ?_
  refine w_gf dX6_begin_123 rfl hU2475.1 rfl ((hU2475).2 7 14 rfl |>.trans zq_7_14) ?_
  refine w_lo dX6_begin_126 rfl rfl rfl rfl ?_
  refine w_ia dX6_begin_127 hU2475.1 rfl (k := 1) zt_1 f2478 ?_
  refine w_is dX6_begin_128 hU2475 rfl (k := 1) zt_1 (Nat.le_of_ble_eq_true rfl) ?_
  intro M2490 hU2491 hv2492 hn2493
  have f2494 := (hn2493 19 2 (by decide)).trans f2479
  have f2495 := (hn2493 19 3 (by decide)).trans f2480
  have f2496 := (hn2493 19 4 (by decide)).trans f2481
  have f2497 := (hn2493 19 5 (by decide)).trans f2482
  have f2498 := (hn2493 19 6 (by decide)).trans f2483
  have f2499 := (hn2493 19 7 (by decide)).trans f2484
  have f2500 := (hn2493 19 8 (by decide)).trans f2485
  have f2501 := (hn2493 19 9 (by decide)).trans f2486
  have f2502 := (hn2493 19 10 (by decide)).trans f2487
  have f2503 := (hn2493 7 0 (by decide)).trans f2488
  have f2504 := (hn2493 0 3 (by decide)).trans f2489
  clear hn2493 f2478 f2479 f2480 f2481 f2482 f2483 f2484 f2485 f2486 f2487 f2488 f2489 hv2476 hU2475 M2474
  refine w_lo (ml' := [some (.ref 49), some (.ref 7), some (.int 2)]) dX6_begin_129 rfl rfl rfl rfl ?_
  refine w_gt dX6_begin_132 (t := 104) rfl ?_
  refine w_lo dX6_begin_104 rfl rfl rfl rfl ?_
  refine w_bi dX6_begin_105 (c := 11) (by decide) ?_
  refine w_cge_f dX6_begin_107 (t := 135) rfl (by decide) ?_
  refine w_lo dX6_begin_110 rfl rfl rfl rfl ?_
  refine w_gf dX6_begin_111 rfl hU2491.1 rfl ((hU2491).2 49 12 rfl |>.trans zq_49_12) ?_
  refine w_lo dX6_begin_114 rfl rfl rfl rfl ?_
  refine w_ic dX6_begin_115 zi_1 ?_
  refine w_bs dX6_begin_116 hU2491 rfl (k := 2) zt_2 (Nat.le_of_ble_eq_true rfl) rfl ?_
  intro M2505 hU2506 hv2507 hn2508
  have f2509 := (hn2508 19 2 (by decide)).trans f2494
  have f2510 := (hn2508 19 3 (by decide)).trans f2495
  have f2511 := (hn2508 19 4 (by decide)).trans f2496
  have f2512 := (hn2508 19 5 (by decide)).trans f2497
  have f2513 := (hn2508 19 6 (by decide)).trans f2498
  have f2514 := (hn2508 19 7 (by decide)).trans f2499
  have f2515 := (hn2508 19 8 (by decide)).trans f2500
  have f2516 := (hn2508 19 9 (by decide)).trans f2501
  have f2517 := (hn2508 19 10 (by decide)).trans f2502
  have f2518 := (hn2508 7 0 (by decide)).trans f2503
  have f2519 := (hn2508 0 3 (by decide)).trans f2504
  clear hn2508 f2494 f2495 f2496 f2497 f2498 f2499 f2500 f2501 f2502 f2503 f2504 hv2492 hU2491 M2490
  refine w_lo dX6_begin_117 rfl rfl rfl rfl ?_
  refine w_gf dX6_begin_118 rfl hU2506.1 rfl ((hU2506).2 49 13 rfl |>.trans zq_49_13) ?_
  refine w_lo dX6_begin_121 rfl rfl rfl rfl ?_
  refine w_lo dX6_begin_122 rfl rfl rfl rfl ?_
  refine w_gf dX6_begin_123 rfl hU2506.1 rfl ((hU2506).2 7 14 rfl |>.trans zq_7_14) ?_
  refine w_lo dX6_begin_126 rfl rfl rfl rfl ?_
  refine w_ia dX6_begin_127 hU2506.1 rfl (k := 2) zt_2 f2509 ?_
  refine w_is dX6_begin_128 hU2506 rfl (k := 2) zt_2 (Nat.le_of_ble_eq_true rfl) ?_
  intro M2520 hU2521 hv2522 hn2523
  have f2524 := (hn2523 19 3 (by decide)).trans f2510
  have f2525 := (hn2523 19 4 (by decide)).trans f2511
  have f2526 := (hn2523 19 5 (by decide)).trans f2512
  have f2527 := (hn2523 19 6 (by decide)).trans f2513
  have f2528 := (hn2523 19 7 (by decide)).trans f2514
  have f2529 := (hn2523 19 8 (by decide)).trans f2515
  have f2530 := (hn2523 19 9 (by decide)).trans f2516
  have f2531 := (hn2523 19 10 (by decide)).trans f2517
  have f2532 := (hn2523 7 0 (by decide)).trans f2518
  have f2533 := (hn2523 0 3 (by decide)).trans f2519
  clear hn2523 f2509 f2510 f2511 f2512 f2513 f2514 f2515 f2516 f2517 f2518 f2519 hv2507 hU2506 M2505
  refine w_lo (ml' := [some (.ref 49), some (.ref 7), some (.int 3)]) dX6_begin_129 rfl rfl rfl rfl ?_
  refine w_gt dX6_begin_132 (t := 104) rfl ?_
  refine w_lo dX6_begin_104 rfl rfl rfl rfl ?_
  refine w_bi dX6_begin_105 (c := 11) (by decide) ?_
  refine w_cge_f dX6_begin_107 (t := 135) rfl (by decide) ?_
  refine w_lo dX6_begin_110 rfl rfl rfl rfl ?_
  refine w_gf dX6_begin_111 rfl hU2521.1 rfl ((hU2521).2 49 12 rfl |>.trans zq_49_12) ?_
  refine w_lo dX6_begin_114 rfl rfl rfl rfl ?_
  refine w_ic dX6_begin_115 zi_1 ?_
  refine w_bs dX6_begin_116 hU2521 rfl (k := 3) zt_3 (Nat.le_of_ble_eq_true rfl) rfl ?_
  intro M2534 hU2535 hv2536 hn2537
  have f2538 := (hn2537 19 3 (by decide)).trans f2524
  have f2539 := (hn2537 19 4 (by decide)).trans f2525
  have f2540 := (hn2537 19 5 (by decide)).trans f2526
  have f2541 := (hn2537 19 6 (by decide)).trans f2527
  have f2542 := (hn2537 19 7 (by decide)).trans f2528
  have f2543 := (hn2537 19 8 (by decide)).trans f2529
  have f2544 := (hn2537 19 9 (by decide)).trans f2530
  have f2545 := (hn2537 19 10 (by decide)).trans f2531
  have f2546 := (hn2537 7 0 (by decide)).trans f2532
  have f2547 := (hn2537 0 3 (by decide)).trans f2533
  clear hn2537 f2524 f2525 f2526 f2527 f2528 f2529 f2530 f2531 f2532 f2533 hv2522 hU2521 M2520
  refine w_lo dX6_begin_117 rfl rfl rfl rfl ?_
  refine w_gf dX6_begin_118 rfl hU2535.1 rfl ((hU2535).2 49 13 rfl |>.trans zq_49_13) ?_
  refine w_lo dX6_begin_121 rfl rfl rfl rfl ?_
  refine w_lo dX6_begin_122 rfl rfl rfl rfl ?_
  refine w_gf dX6_begin_123 rfl hU2535.1 rfl ((hU2535).2 7 14 rfl |>.trans zq_7_14) ?_
  refine w_lo dX6_begin_126 rfl rfl rfl rfl ?_
  refine w_ia dX6_begin_127 hU2535.1 rfl (k := 3) zt_3 f2538 ?_
  refine w_is dX6_begin_128 hU2535 rfl (k := 3) zt_3 (Nat.le_of_ble_eq_true rfl) ?_
  intro M2548 hU2549 hv2550 hn2551
  have f2552 := (hn2551 19 4 (by decide)).trans f2539
  have f2553 := (hn2551 19 5 (by decide)).trans f2540
  have f2554 := (hn2551 19 6 (by decide)).trans f2541
  have f2555 := (hn2551 19 7 (by decide)).trans f2542
  have f2556 := (hn2551 19 8 (by decide)).trans f2543
  have f2557 := (hn2551 19 9 (by decide)).trans f2544
  have f2558 := (hn2551 19 10 (by decide)).trans f2545
  have f2559 := (hn2551 7 0 (by decide)).trans f2546
  have f2560 := (hn2551 0 3 (by decide)).trans f2547
  clear hn2551 f2538 f2539 f2540 f2541 f2542 f2543 f2544 f2545 f2546 f2547 hv2536 hU2535 M2534
  refine w_lo (ml' := [some (.ref 49), some (.ref 7), some (.int 4)]) dX6_begin_129 rfl rfl rfl rfl ?_
  refine w_gt dX6_begin_132 (t := 104) rfl ?_
  refine w_lo dX6_begin_104 rfl rfl rfl rfl ?_
  refine w_bi dX6_begin_105 (c := 11) (by decide) ?_
  refine w_cge_f dX6_begin_107 (t := 135) rfl (by decide) ?_
  refine w_lo dX6_begin_110 rfl rfl rfl rfl ?_
  refine w_gf dX6_begin_111 rfl hU2549.1 rfl ((hU2549).2 49 12 rfl |>.trans zq_49_12) ?_
  refine w_lo dX6_begin_114 rfl rfl rfl rfl ?_
  refine w_ic dX6_begin_115 zi_1 ?_
  refine w_bs dX6_begin_116 hU2549 rfl (k := 4) zt_4 (Nat.le_of_ble_eq_true rfl) rfl ?_
  intro M2561 hU2562 hv2563 hn2564
  have f2565 := (hn2564 19 4 (by decide)).trans f2552
  have f2566 := (hn2564 19 5 (by decide)).trans f2553
  have f2567 := (hn2564 19 6 (by decide)).trans f2554
  have f2568 := (hn2564 19 7 (by decide)).trans f2555
  have f2569 := (hn2564 19 8 (by decide)).trans f2556
  have f2570 := (hn2564 19 9 (by decide)).trans f2557
  have f2571 := (hn2564 19 10 (by decide)).trans f2558
  have f2572 := (hn2564 7 0 (by decide)).trans f2559
  have f2573 := (hn2564 0 3 (by decide)).trans f2560
  clear hn2564 f2552 f2553 f2554 f2555 f2556 f2557 f2558 f2559 f2560 hv2550 hU2549 M2548
  refine w_lo dX6_begin_117 rfl rfl rfl rfl ?_
  refine w_gf dX6_begin_118 rfl hU2562.1 rfl ((hU2562).2 49 13 rfl |>.trans zq_49_13) ?_
  refine w_lo dX6_begin_121 rfl rfl rfl rfl ?_
  refine w_lo dX6_begin_122 rfl rfl rfl rfl ?_
  refine w_gf dX6_begin_123 rfl hU2562.1 rfl ((hU2562).2 7 14 rfl |>.trans zq_7_14) ?_
  refine w_lo dX6_begin_126 rfl rfl rfl rfl ?_
  refine w_ia dX6_begin_127 hU2562.1 rfl (k := 4) zt_4 f2565 ?_
  refine w_is dX6_begin_128 hU2562 rfl (k := 4) zt_4 (Nat.le_of_ble_eq_true rfl) ?_
  intro M2574 hU2575 hv2576 hn2577
  have f2578 := (hn2577 19 5 (by decide)).trans f2566
  have f2579 := (hn2577 19 6 (by decide)).trans f2567
  have f2580 := (hn2577 19 7 (by decide)).trans f2568
  have f2581 := (hn2577 19 8 (by decide)).trans f2569
  have f2582 := (hn2577 19 9 (by decide)).trans f2570
  have f2583 := (hn2577 19 10 (by decide)).trans f2571
  have f2584 := (hn2577 7 0 (by decide)).trans f2572
  have f2585 := (hn2577 0 3 (by decide)).trans f2573
  clear hn2577 f2565 f2566 f2567 f2568 f2569 f2570 f2571 f2572 f2573 hv2563 hU2562 M2561
  refine w_lo (ml' := [some (.ref 49), some (.ref 7), some (.int 5)]) dX6_begin_129 rfl rfl rfl rfl ?_
  refine w_gt dX6_begin_132 (t := 104) rfl ?_
  refine w_lo dX6_begin_104 rfl rfl rfl rfl ?_
  refine w_bi dX6_begin_105 (c := 11) (by decide) ?_
  refine w_cge_f dX6_begin_107 (t := 135) rfl (by decide) ?_
  refine w_lo dX6_begin_110 rfl rfl rfl rfl ?_
  refine w_gf dX6_begin_111 rfl hU2575.1 rfl ((hU2575).2 49 12 rfl |>.trans zq_49_12) ?_
  refine w_lo dX6_begin_114 rfl rfl rfl rfl ?_
  refine w_ic dX6_begin_115 zi_1 ?_
  refine w_bs dX6_begin_116 hU2575 rfl (k := 5) zt_5 (Nat.le_of_ble_eq_true rfl) rfl ?_
  intro M2586 hU2587 hv2588 hn2589
  have f2590 := (hn2589 19 5 (by decide)).trans f2578
  have f2591 := (hn2589 19 6 (by decide)).trans f2579
  have f2592 := (hn2589 19 7 (by decide)).trans f2580
  have f2593 := (hn2589 19 8 (by decide)).trans f2581
  have f2594 := (hn2589 19 9 (by decide)).trans f2582
  have f2595 := (hn2589 19 10 (by decide)).trans f2583
  have f2596 := (hn2589 7 0 (by decide)).trans f2584
  have f2597 := (hn2589 0 3 (by decide)).trans f2585
  clear hn2589 f2578 f2579 f2580 f2581 f2582 f2583 f2584 f2585 hv2576 hU2575 M2574
  refine w_lo dX6_begin_117 rfl rfl rfl rfl ?_
  refine w_gf dX6_begin_118 rfl hU2587.1 rfl ((hU2587).2 49 13 rfl |>.trans zq_49_13) ?_
  refine w_lo dX6_begin_121 rfl rfl rfl rfl ?_
  refine w_lo dX6_begin_122 rfl rfl rfl rfl ?_
  refine w_gf dX6_begin_123 rfl hU2587.1 rfl ((hU2587).2 7 14 rfl |>.trans zq_7_14) ?_
  refine w_lo dX6_begin_126 rfl rfl rfl rfl ?_
  refine w_ia dX6_begin_127 hU2587.1 rfl (k := 5) zt_5 f2590 ?_
  refine w_is dX6_begin_128 hU2587 rfl (k := 5) zt_5 (Nat.le_of_ble_eq_true rfl) ?_
  intro M2598 hU2599 hv2600 hn2601
  have f2602 := (hn2601 19 6 (by decide)).trans f2591
  have f2603 := (hn2601 19 7 (by decide)).trans f2592
  have f2604 := (hn2601 19 8 (by decide)).trans f2593
  have f2605 := (hn2601 19 9 (by decide)).trans f2594
  have f2606 := (hn2601 19 10 (by decide)).trans f2595
  have f2607 := (hn2601 7 0 (by decide)).trans f2596
  have f2608 := (hn2601 0 3 (by decide)).trans f2597
  clear hn2601 f2590 f2591 f2592 f2593 f2594 f2595 f2596 f2597 hv2588 hU2587 M2586
  refine w_lo (ml' := [some (.ref 49), some (.ref 7), some (.int 6)]) dX6_begin_129 rfl rfl rfl rfl ?_
  refine w_gt dX6_begin_132 (t := 104) rfl ?_
  refine w_lo dX6_begin_104 rfl rfl rfl rfl ?_
  refine w_bi dX6_begin_105 (c := 11) (by decide) ?_
  refine w_cge_f dX6_begin_107 (t := 135) rfl (by decide) ?_
  refine w_lo dX6_begin_110 rfl rfl rfl rfl ?_
  refine w_gf dX6_begin_111 rfl hU2599.1 rfl ((hU2599).2 49 12 rfl |>.trans zq_49_12) ?_
  refine w_lo dX6_begin_114 rfl rfl rfl rfl ?_
  refine w_ic dX6_begin_115 zi_1 ?_
  refine w_bs dX6_begin_116 hU2599 rfl (k := 6) zt_6 (Nat.le_of_ble_eq_true rfl) rfl ?_
  intro M2609 hU2610 hv2611 hn2612
  have f2613 := (hn2612 19 6 (by decide)).trans f2602
  have f2614 := (hn2612 19 7 (by decide)).trans f2603
  have f2615 := (hn2612 19 8 (by decide)).trans f2604
  have f2616 := (hn2612 19 9 (by decide)).trans f2605
  have f2617 := (hn2612 19 10 (by decide)).trans f2606
  have f2618 := (hn2612 7 0 (by decide)).trans f2607
  have f2619 := (hn2612 0 3 (by decide)).trans f2608
  clear hn2612 f2602 f2603 f2604 f2605 f2606 f2607 f2608 hv2600 hU2599 M2598
  refine w_lo dX6_begin_117 rfl rfl rfl rfl ?_
  refine w_gf dX6_begin_118 rfl hU2610.1 rfl ((hU2610).2 49 13 rfl |>.trans zq_49_13) ?_
  refine w_lo dX6_begin_121 rfl rfl rfl rfl ?_
  refine w_lo dX6_begin_122 rfl rfl rfl rfl ?_
  refine w_gf dX6_begin_123 rfl hU2610.1 rfl ((hU2610).2 7 14 rfl |>.trans zq_7_14) ?_
  refine w_lo dX6_begin_126 rfl rfl rfl rfl ?_
  refine w_ia dX6_begin_127 hU2610.1 rfl (k := 6) zt_6 f2613 ?_
  refine w_is dX6_begin_128 hU2610 rfl (k := 6) zt_6 (Nat.le_of_ble_eq_true rfl) ?_
  intro M2620 hU2621 hv2622 hn2623
  have f2624 := (hn2623 19 7 (by decide)).trans f2614
  have f2625 := (hn2623 19 8 (by decide)).trans f2615
  have f2626 := (hn2623 19 9 (by decide)).trans f2616
  have f2627 := (hn2623 19 10 (by decide)).trans f2617
  have f2628 := (hn2623 7 0 (by decide)).trans f2618
  have f2629 := (hn2623 0 3 (by decide)).trans f2619
  clear hn2623 f2613 f2614 f2615 f2616 f2617 f2618 f2619 hv2611 hU2610 M2609
  refine w_lo (ml' := [some (.ref 49), some (.ref 7), some (.int 7)]) dX6_begin_129 rfl rfl rfl rfl ?_
  refine w_gt dX6_begin_132 (t := 104) rfl ?_
  refine w_lo dX6_begin_104 rfl rfl rfl rfl ?_
  refine w_bi dX6_begin_105 (c := 11) (by decide) ?_
  refine w_cge_f dX6_begin_107 (t := 135) rfl (by decide) ?_
  refine w_lo dX6_begin_110 rfl rfl rfl rfl ?_
  refine w_gf dX6_begin_111 rfl hU2621.1 rfl ((hU2621).2 49 12 rfl |>.trans zq_49_12) ?_
  refine w_lo dX6_begin_114 rfl rfl rfl rfl ?_
  refine w_ic dX6_begin_115 zi_1 ?_
  refine w_bs dX6_begin_116 hU2621 rfl (k := 7) zt_7 (Nat.le_of_ble_eq_true rfl) rfl ?_
  intro M2630 hU2631 hv2632 hn2633
  have f2634 := (hn2633 19 7 (by decide)).trans f2624
  have f2635 := (hn2633 19 8 (by decide)).trans f2625
  have f2636 := (hn2633 19 9 (by decide)).trans f2626
  have f2637 := (hn2633 19 10 (by decide)).trans f2627
  have f2638 := (hn2633 7 0 (by decide)).trans f2628
  have f2639 := (hn2633 0 3 (by decide)).trans f2629
  clear hn2633 f2624 f2625 f2626 f2627 f2628 f2629 hv2622 hU2621 M2620
  refine w_lo dX6_begin_117 rfl rfl rfl rfl ?_
  refine w_gf dX6_begin_118 rfl hU2631.1 rfl ((hU2631).2 49 13 rfl |>.trans zq_49_13) ?_
  refine w_lo dX6_begin_121 rfl rfl rfl rfl ?_
  refine w_lo dX6_begin_122 rfl rfl rfl rfl ?_
  refine w_gf dX6_begin_123 rfl hU2631.1 rfl ((hU2631).2 7 14 rfl |>.trans zq_7_14) ?_
  refine w_lo dX6_begin_126 rfl rfl rfl rfl ?_
  refine w_ia dX6_begin_127 hU2631.1 rfl (k := 7) zt_7 f2634 ?_
  refine w_is dX6_begin_128 hU2631 rfl (k := 7) zt_7 (Nat.le_of_ble_eq_true rfl) ?_
  intro M2640 hU2641 hv2642 hn2643
  have f2644 := (hn2643 19 8 (by decide)).trans f2635
  have f2645 := (hn2643 19 9 (by decide)).trans f2636
  have f2646 := (hn2643 19 10 (by decide)).trans f2637
  have f2647 := (hn2643 7 0 (by decide)).trans f2638
  have f2648 := (hn2643 0 3 (by decide)).trans f2639
  clear hn2643 f2634 f2635 f2636 f2637 f2638 f2639 hv2632 hU2631 M2630
  refine w_lo (ml' := [some (.ref 49), some (.ref 7), some (.int 8)]) dX6_begin_129 rfl rfl rfl rfl ?_
  refine w_gt dX6_begin_132 (t := 104) rfl ?_
  refine w_lo dX6_begin_104 rfl rfl rfl rfl ?_
  refine w_bi dX6_begin_105 (c := 11) (by decide) ?_
  refine w_cge_f dX6_begin_107 (t := 135) rfl (by decide) ?_
  refine w_lo dX6_begin_110 rfl rfl rfl rfl ?_
  refine w_gf dX6_begin_111 rfl hU2641.1 rfl ((hU2641).2 49 12 rfl |>.trans zq_49_12) ?_
  refine w_lo dX6_begin_114 rfl rfl rfl rfl ?_
  refine w_ic dX6_begin_115 zi_1 ?_
  refine w_bs dX6_begin_116 hU2641 rfl (k := 8) zt_8 (Nat.le_of_ble_eq_true rfl) rfl ?_
  intro M2649 hU2650 hv2651 hn2652
  have f2653 := (hn2652 19 8 (by decide)).trans f2644
  have f2654 := (hn2652 19 9 (by decide)).trans f2645
  have f2655 := (hn2652 19 10 (by decide)).trans f2646
  have f2656 := (hn2652 7 0 (by decide)).trans f2647
  have f2657 := (hn2652 0 3 (by decide)).trans f2648
  clear hn2652 f2644 f2645 f2646 f2647 f2648 hv2642 hU2641 M2640
  refine w_lo dX6_begin_117 rfl rfl rfl rfl ?_
  refine w_gf dX6_begin_118 rfl hU2650.1 rfl ((hU2650).2 49 13 rfl |>.trans zq_49_13) ?_
  refine w_lo dX6_begin_121 rfl rfl rfl rfl ?_
  refine w_lo dX6_begin_122 rfl rfl rfl rfl ?_
  refine w_gf dX6_begin_123 rfl hU2650.1 rfl ((hU2650).2 7 14 rfl |>.trans zq_7_14) ?_
  refine w_lo dX6_begin_126 rfl rfl rfl rfl ?_
  refine w_ia dX6_begin_127 hU2650.1 rfl (k := 8) zt_8 f2653 ?_
  refine w_is dX6_begin_128 hU2650 rfl (k := 8) zt_8 (Nat.le_of_ble_eq_true rfl) ?_
  intro M2658 hU2659 hv2660 hn2661
  have f2662 := (hn2661 19 9 (by decide)).trans f2654
  have f2663 := (hn2661 19 10 (by decide)).trans f2655
  have f2664 := (hn2661 7 0 (by decide)).trans f2656
  have f2665 := (hn2661 0 3 (by decide)).trans f2657
  clear hn2661 f2653 f2654 f2655 f2656 f2657 hv2651 hU2650 M2649
  refine w_lo (ml' := [some (.ref 49), some (.ref 7), some (.int 9)]) dX6_begin_129 rfl rfl rfl rfl ?_
  refine w_gt dX6_begin_132 (t := 104) rfl ?_
  refine w_lo dX6_begin_104 rfl rfl rfl rfl ?_
  refine w_bi dX6_begin_105 (c := 11) (by decide) ?_
  refine w_cge_f dX6_begin_107 (t := 135) rfl (by decide) ?_
  refine w_lo dX6_begin_110 rfl rfl rfl rfl ?_
  refine w_gf dX6_begin_111 rfl hU2659.1 rfl ((hU2659).2 49 12 rfl |>.trans zq_49_12) ?_
  refine w_lo dX6_begin_114 rfl rfl rfl rfl ?_
  refine w_ic dX6_begin_115 zi_1 ?_
  refine w_bs dX6_begin_116 hU2659 rfl (k := 9) zt_9 (Nat.le_of_ble_eq_true rfl) rfl ?_
  intro M2666 hU2667 hv2668 hn2669
  have f2670 := (hn2669 19 9 (by decide)).trans f2662
  have f2671 := (hn2669 19 10 (by decide)).trans f2663
  have f2672 := (hn2669 7 0 (by decide)).trans f2664
  have f2673 := (hn2669 0 3 (by decide)).trans f2665
  clear hn2669 f2662 f2663 f2664 f2665 hv2660 hU2659 M2658
  refine w_lo dX6_begin_117 rfl rfl rfl rfl ?_
  refine w_gf dX6_begin_118 rfl hU2667.1 rfl ((hU2667).2 49 13 rfl |>.trans zq_49_13) ?_
  refine w_lo dX6_begin_121 rfl rfl rfl rfl ?_
  refine w_lo dX6_begin_122 rfl rfl rfl rfl ?_
  refine w_gf dX6_begin_123 rfl hU2667.1 rfl ((hU2667).2 7 14 rfl |>.trans zq_7_14) ?_
  refine w_lo dX6_begin_126 rfl rfl rfl rfl ?_
  refine w_ia dX6_begin_127 hU2667.1 rfl (k := 9) zt_9 f2670 ?_
  refine w_is dX6_begin_128 hU2667 rfl (k := 9) zt_9 (Nat.le_of_ble_eq_true rfl) ?_
  intro M2674 hU2675 hv2676 hn2677
  have f2678 := (hn2677 19 10 (by decide)).trans f2671
  have f2679 := (hn2677 7 0 (by decide)).trans f2672
  have f2680 := (hn2677 0 3 (by decide)).trans f2673
  clear hn2677 f2670 f2671 f2672 f2673 hv2668 hU2667 M2666
  refine w_lo (ml' := [some (.ref 49), some (.ref 7), some (.int 10)]) dX6_begin_129 rfl rfl rfl rfl ?_
  refine w_gt dX6_begin_132 (t := 104) rfl ?_
  refine w_lo dX6_begin_104 rfl rfl rfl rfl ?_
  refine w_bi dX6_begin_105 (c := 11) (by decide) ?_
  refine w_cge_f dX6_begin_107 (t := 135) rfl (by decide) ?_
  refine w_lo dX6_begin_110 rfl rfl rfl rfl ?_
  refine w_gf dX6_begin_111 rfl hU2675.1 rfl ((hU2675).2 49 12 rfl |>.trans zq_49_12) ?_
  refine w_lo dX6_begin_114 rfl rfl rfl rfl ?_
  refine w_ic dX6_begin_115 zi_1 ?_
  refine w_bs dX6_begin_116 hU2675 rfl (k := 10) zt_10 (Nat.le_of_ble_eq_true rfl) rfl ?_
  intro M2681 hU2682 hv2683 hn2684
  have f2685 := (hn2684 19 10 (by decide)).trans f2678
  have f2686 := (hn2684 7 0 (by decide)).trans f2679
  have f2687 := (hn2684 0 3 (by decide)).trans f2680
  clear hn2684 f2678 f2679 f2680 hv2676 hU2675 M2674
  refine w_lo dX6_begin_117 rfl rfl rfl rfl ?_
  refine w_gf dX6_begin_118 rfl hU2682.1 rfl ((hU2682).2 49 13 rfl |>.trans zq_49_13) ?_
  refine w_lo dX6_begin_121 rfl rfl rfl rfl ?_
  refine w_lo dX6_begin_122 rfl rfl rfl rfl ?_
  refine w_gf dX6_begin_123 rfl hU2682.1 rfl ((hU2682).2 7 14 rfl |>.trans zq_7_14) ?_
  refine w_lo dX6_begin_126 rfl rfl rfl rfl ?_
  refine w_ia dX6_begin_127 hU2682.1 rfl (k := 10) zt_10 f2685 ?_
  refine w_is dX6_begin_128 hU2682 rfl (k := 10) zt_10 (Nat.le_of_ble_eq_true rfl) ?_
  intro M2688 hU2689 hv2690 hn2691
  have f2692 := (hn2691 7 0 (by decide)).trans f2686
  have f2693 := (hn2691 0 3 (by decide)).trans f2687
  clear hn2691 f2685 f2686 f2687 hv2683 hU2682 M2681
  refine w_lo (ml' := [some (.ref 49), some (.ref 7), some (.int 11)]) dX6_begin_129 rfl rfl rfl rfl ?_
  refine w_gt dX6_begin_132 (t := 104) rfl ?_
  refine w_lo dX6_begin_104 rfl rfl rfl rfl ?_
  refine w_bi dX6_begin_105 (c := 11) (by decide) ?_
  refine w_cge_t dX6_begin_107 (t := 135) rfl (by decide) ?_
  refine w_en dX6_begin_135 rfl ?_
  show ZW _ 10 8 false (some .int) cX8_dorm _ (67, [some (.ref 0), some (.int 0), some (.ref 28)], [], M2688)
  refine w_lo dX8_dorm_67 rfl rfl rfl rfl ?_
  refine w_gf dX8_dorm_68 rfl hU2689.1 rfl ((hU2689).2 0 6 rfl |>.trans zq_0_6) ?_
  refine w_iv dX8_dorm_71 rfl rfl (As := []) rfl rfl hU2689.1 rfl (Nat.le_of_ble_eq_true rfl) ?_
  refine ZV.of (ini := false) rfl (Nat.le_of_ble_eq_true rfl) (by decide +kernel) ?_
  show ZW _ 9 0 false none cX0_forget _ (0, [some (.ref 77)], [], M2688)
  refine w_lo dX0_forget_0 rfl rfl rfl rfl ?_
  refine w_ic dX0_forget_1 zi_0 ?_
  refine w_pf dX0_forget_2 rfl hU2689 rfl (Nat.le_of_ble_eq_true rfl) rfl rfl rfl ?_
  intro M2694 hU2695 hv2696 hn2697
  have f2698 := (hn2697 7 0 (by decide)).trans f2692
  have f2699 := (hn2697 0 3 (by decide)).trans f2693
  clear hn2697 f2692 f2693 hv2690 hU2689 M2688
  refine w_en dX0_forget_5 rfl ?_
  show ZW _ 10 8 false (some .int) cX8_dorm _ (74, [some (.ref 0), some (.int 0), some (.ref 28)], [], M2694)
  refine w_lo dX8_dorm_74 rfl rfl rfl rfl ?_
  refine w_ic dX8_dorm_75 zi_0 ?_
  refine w_pf dX8_dorm_76 rfl hU2695 rfl (Nat.le_of_ble_eq_true rfl) rfl rfl rfl ?_
  intro M2700 hU2701 hv2702 hn2703
  have f2704 := (hn2703 7 0 (by decide)).trans f2698
  have f2705 := (hn2703 0 3 (by decide)).trans f2699
  clear hn2703 f2698 f2699 hv2696 hU2695 M2694
  refine w_lo dX8_dorm_79 rfl rfl rfl rfl ?_
  refine w_pu dX8_dorm_80 rfl rfl ?_
  refine w_gf dX8_dorm_81 rfl hU2701.1 rfl ((hU2701).2 0 15 rfl |>.trans zq_0_15) ?_
  refine w_ic dX8_dorm_84 zi_1 ?_
  refine w_pu (st' := [.int 1, .ref 0]) dX8_dorm_85 rfl rfl ?_
  refine w_pf dX8_dorm_86 rfl hU2701 rfl (Nat.le_of_ble_eq_true rfl) rfl rfl rfl ?_
  intro M2706 hU2707 hv2708 hn2709
  have f2710 := (hn2709 7 0 (by decide)).trans f2704
  have f2711 := (hn2709 0 3 (by decide)).trans f2705
  clear hn2709 f2704 f2705 hv2702 hU2701 M2700
  refine w_lo dX8_dorm_89 rfl rfl rfl rfl ?_
  refine w_gf dX8_dorm_90 rfl hU2707.1 rfl f2711 ?_
  refine w_gf dX8_dorm_93 rfl hU2707.1 rfl f2710 ?_
  refine w_en dX8_dorm_96 rfl ?_
  refine ⟨_, rfl, ?_⟩
  refine ZV.of (ini := false) rfl (Nat.le_of_ble_eq_true rfl) (by decide +kernel) ?_
  show ZW _ 10 9 false (some .int) cX9_dorm _ (0, [some (.ref 386), none], [], M2706)
  refine w_lo dX9_dorm_0 rfl rfl rfl rfl ?_
  refine w_lo dX9_dorm_1 rfl rfl rfl rfl ?_
  refine w_gf dX9_dorm_2 rfl hU2707.1 rfl ((hU2707).2 386 1 rfl |>.trans zq_386_1) ?_
  refine w_pf dX9_dorm_5 rfl hU2707 rfl (Nat.le_of_ble_eq_true rfl) rfl rfl rfl ?_
  intro M2712 hU2713 hv2714 hn2715
  clear hn2715 f2710 f2711 hv2708
  refine w_lo dX9_dorm_8 rfl rfl rfl rfl ?_
  refine w_ic dX9_dorm_9 zi_0 ?_
  refine w_pf dX9_dorm_10 rfl hU2713 rfl (Nat.le_of_ble_eq_true rfl) rfl rfl rfl ?_
  intro M2716 hU2717 hv2718 hn2719
  have f2720 := (hn2719 386 2 (by decide)).trans hv2714
  clear hn2719 hv2714 hU2713 M2712
  refine w_lo dX9_dorm_13 rfl rfl rfl rfl ?_
  refine w_ic dX9_dorm_14 zi_0 ?_
  refine w_pf dX9_dorm_15 rfl hU2717 rfl (Nat.le_of_ble_eq_true rfl) rfl rfl rfl ?_
  intro M2721 hU2722 hv2723 hn2724
  have f2725 := (hn2724 386 2 (by decide)).trans f2720
  clear hn2724 f2720 hv2718 hU2717 M2716
  refine w_lo dX9_dorm_18 rfl rfl rfl rfl ?_
  refine w_ic dX9_dorm_19 zi_0 ?_
  refine w_pf dX9_dorm_20 rfl hU2722 rfl (Nat.le_of_ble_eq_true rfl) rfl rfl rfl ?_
  intro M2726 hU2727 hv2728 hn2729
  have f2730 := (hn2729 386 2 (by decide)).trans f2725
  have f2731 := (hn2729 386 5 (by decide)).trans hv2723
  clear hn2729 f2725 hv2723 hU2722 M2721
  refine w_lo dX9_dorm_23 rfl rfl rfl rfl ?_
  refine w_ic dX9_dorm_24 zi_m1 ?_
  refine w_pf dX9_dorm_25 rfl hU2727 rfl (Nat.le_of_ble_eq_true rfl) rfl rfl rfl ?_
  intro M2732 hU2733 hv2734 hn2735
  have f2736 := (hn2735 386 2 (by decide)).trans f2730
  have f2737 := (hn2735 386 5 (by decide)).trans f2731
  have f2738 := (hn2735 386 8 (by decide)).trans hv2728
  clear hn2735 f2730 f2731 hv2728 hU2727 M2726
  refine w_lo dX9_dorm_28 rfl rfl rfl rfl ?_
  refine w_ic dX9_dorm_29 zi_1 ?_
  refine w_lo dX9_dorm_30 rfl rfl rfl rfl ?_
  refine w_gf dX9_dorm_31 rfl hU2733.1 rfl ((hU2733).2 386 12 rfl |>.trans zq_386_12) ?_
  refine w_pu (st' := [.int 1, .ref 386]) dX9_dorm_34 rfl rfl ?_
  refine w_pf dX9_dorm_35 rfl hU2733 rfl (Nat.le_of_ble_eq_true rfl) rfl rfl rfl ?_
  intro M2739 hU2740 hv2741 hn2742
  have f2743 := (hn2742 386 2 (by decide)).trans f2736
  have f2744 := (hn2742 386 5 (by decide)).trans f2737
  have f2745 := (hn2742 386 8 (by decide)).trans f2738
  have f2746 := (hn2742 386 9 (by decide)).trans hv2734
  clear hn2742 f2736 f2737 f2738 hv2734 hU2733 M2732
  refine w_lo dX9_dorm_38 rfl rfl rfl rfl ?_
  refine w_gf dX9_dorm_39 rfl hU2740.1 rfl ((hU2740).2 386 13 rfl |>.trans zq_386_13) ?_
  refine w_lo dX9_dorm_42 rfl rfl rfl rfl ?_
  refine w_gf dX9_dorm_43 rfl hU2740.1 rfl hv2741 ?_
  refine w_ic dX9_dorm_46 zi_0 ?_
  refine w_is dX9_dorm_47 hU2740 rfl (k := 1) zt_1 (Nat.le_of_ble_eq_true rfl) ?_
  intro M2747 hU2748 hv2749 hn2750
  have f2751 := (hn2750 386 2 (by decide)).trans f2743
  have f2752 := (hn2750 386 5 (by decide)).trans f2744
  have f2753 := (hn2750 386 8 (by decide)).trans f2745
  have f2754 := (hn2750 386 9 (by decide)).trans f2746
  have f2755 := (hn2750 386 35 (by decide)).trans hv2741
  clear hn2750 f2743 f2744 f2745 f2746 hv2741 hU2740 M2739
  refine w_lo dX9_dorm_48 rfl rfl rfl rfl ?_
  refine w_gf dX9_dorm_49 rfl hU2748.1 rfl ((hU2748).2 386 21 rfl |>.trans zq_386_21) ?_
  refine w_lo dX9_dorm_52 rfl rfl rfl rfl ?_
  refine w_gf dX9_dorm_53 rfl hU2748.1 rfl f2755 ?_
  refine w_ic dX9_dorm_56 zi_0 ?_
  refine w_is dX9_dorm_57 hU2748 rfl (k := 1) zt_1 (Nat.le_of_ble_eq_true rfl) ?_
  intro M2756 hU2757 hv2758 hn2759
  have f2760 := (hn2759 386 2 (by decide)).trans f2751
  have f2761 := (hn2759 386 5 (by decide)).trans f2752
  have f2762 := (hn2759 386 8 (by decide)).trans f2753
  have f2763 := (hn2759 386 9 (by decide)).trans f2754
  have f2764 := (hn2759 386 35 (by decide)).trans f2755
  clear hn2759 f2751 f2752 f2753 f2754 f2755 hv2749 hU2748 M2747
  refine w_lo dX9_dorm_58 rfl rfl rfl rfl ?_
  refine w_gf dX9_dorm_59 rfl hU2757.1 rfl ((hU2757).2 386 27 rfl |>.trans zq_386_27) ?_
  refine w_lo dX9_dorm_62 rfl rfl rfl rfl ?_
  refine w_gf dX9_dorm_63 rfl hU2757.1 rfl f2764 ?_
  refine w_ic dX9_dorm_66 zi_0 ?_
  refine w_is dX9_dorm_67 hU2757 rfl (k := 1) zt_1 (Nat.le_of_ble_eq_true rfl) ?_
  intro M2765 hU2766 hv2767 hn2768
  have f2769 := (hn2768 386 2 (by decide)).trans f2760
  have f2770 := (hn2768 386 5 (by decide)).trans f2761
  have f2771 := (hn2768 386 8 (by decide)).trans f2762
  have f2772 := (hn2768 386 9 (by decide)).trans f2763
  have f2773 := (hn2768 386 35 (by decide)).trans f2764
  clear hn2768 f2760 f2761 f2762 f2763 f2764 hv2758 hU2757 M2756
  refine w_bi dX9_dorm_68 (c := 11) (by decide) ?_
  refine w_lo dX9_dorm_70 rfl rfl rfl rfl ?_
  refine w_gf dX9_dorm_71 rfl hU2766.1 rfl f2773 ?_
  refine w_pu (st' := [.int 11]) dX9_dorm_74 rfl rfl ?_
  refine w_lo dX9_dorm_75 rfl rfl rfl rfl ?_
  refine w_lo dX9_dorm_76 rfl rfl rfl rfl ?_
  refine w_bi dX9_dorm_77 (c := 11) (by decide) ?_
  refine w_lo dX9_dorm_79 rfl rfl rfl rfl ?_
  refine w_gf dX9_dorm_80 rfl hU2766.1 rfl f2773 ?_
  refine w_pu (st' := [.int 11, .int 11]) dX9_dorm_83 rfl rfl ?_
  refine w_bi dX9_dorm_84 (c := 11) (by decide) ?_
  refine w_pu (st' := [.int 22, .int 11]) dX9_dorm_86 rfl rfl ?_
  refine w_cge_f dX9_dorm_87 (t := 103) rfl (by decide) ?_
  refine w_lo dX9_dorm_90 rfl rfl rfl rfl ?_
  refine w_gf dX9_dorm_91 rfl hU2766.1 rfl ((hU2766).2 386 20 rfl |>.trans zq_386_20) ?_
  refine w_lo dX9_dorm_94 rfl rfl rfl rfl ?_
  refine w_ic dX9_dorm_95 zi_0 ?_
  refine w_is dX9_dorm_96 hU2766 rfl (k := 11) zt_11 (Nat.le_of_ble_eq_true rfl) ?_
  intro M2774 hU2775 hv2776 hn2777
  have f2778 := (hn2777 386 2 (by decide)).trans f2769
  have f2779 := (hn2777 386 5 (by decide)).trans f2770
  have f2780 := (hn2777 386 8 (by decide)).trans f2771
  have f2781 := (hn2777 386 9 (by decide)).trans f2772
  have f2782 := (hn2777 386 35 (by decide)).trans f2773
  clear hn2777 f2769 f2770 f2771 f2772 f2773 hv2767 hU2766 M2765
  refine w_lo (ml' := [some (.ref 386), some (.int 12)]) dX9_dorm_97 rfl rfl rfl rfl ?_
  refine w_gt dX9_dorm_100 (t := 76) rfl ?_
  refine w_lo dX9_dorm_76 rfl rfl rfl rfl ?_
  refine w_bi dX9_dorm_77 (c := 11) (by decide) ?_
  refine w_lo dX9_dorm_79 rfl rfl rfl rfl ?_
  refine w_gf dX9_dorm_80 rfl hU2775.1 rfl f2782 ?_
  refine w_pu (st' := [.int 11, .int 12]) dX9_dorm_83 rfl rfl ?_
  refine w_bi dX9_dorm_84 (c := 11) (by decide) ?_
  refine w_pu (st' := [.int 22, .int 12]) dX9_dorm_86 rfl rfl ?_
  refine w_cge_f dX9_dorm_87 (t := 103) rfl (by decide) ?_
  refine w_lo dX9_dorm_90 rfl rfl rfl rfl ?_
  refine w_gf dX9_dorm_91 rfl hU2775.1 rfl ((hU2775).2 386 20 rfl |>.trans zq_386_20) ?_
  refine w_lo dX9_dorm_94 rfl rfl rfl rfl ?_
  refine w_ic dX9_dorm_95 zi_0 ?_
  refine w_is dX9_dorm_96 hU2775 rfl (k := 12) zt_12 (Nat.le_of_ble_eq_true rfl) ?_
  intro M2783 hU2784 hv2785 hn2786
  have f2787 := (hn2786 386 2 (by decide)).trans f2778
  have f2788 := (hn2786 386 5 (by decide)).trans f2779
  have f2789 := (hn2786 386 8 (by decide)).trans f2780
  have f2790 := (hn2786 386 9 (by decide)).trans f2781
  have f2791 := (hn2786 386 35 (by decide)).trans f2782
  have f2792 := (hn2786 395 11 (by decide)).trans hv2776
  clear hn2786 f2778 f2779 f2780 f2781 f2782 hv2776 hU2775 M2774
  refine w_lo (ml' := [some (.ref 386), some (.int 13)]) dX9_dorm_97 rfl rfl rfl rfl ?_
  refine w_gt dX9_dorm_100 (t := 76) rfl ?_
  refine w_lo dX9_dorm_76 rfl rfl rfl rfl ?_
  refine w_bi dX9_dorm_77 (c := 11) (by decide) ?_
  refine w_lo dX9_dorm_79 rfl rfl rfl rfl ?_
  refine w_gf dX9_dorm_80 rfl hU2784.1 rfl f2791 ?_
  refine w_pu (st' := [.int 11, .int 13]) dX9_dorm_83 rfl rfl ?_
  refine w_bi dX9_dorm_84 (c := 11) (by decide) ?_
  refine w_pu (st' := [.int 22, .int 13]) dX9_dorm_86 rfl rfl ?_
  refine w_cge_f dX9_dorm_87 (t := 103) rfl (by decide) ?_
  refine w_lo dX9_dorm_90 rfl rfl rfl rfl ?_
  refine w_gf dX9_dorm_91 rfl hU2784.1 rfl ((hU2784).2 386 20 rfl |>.trans zq_386_20) ?_
  refine w_lo dX9_dorm_94 rfl rfl rfl rfl ?_
  refine w_ic dX9_dorm_95 zi_0 ?_
  refine w_is dX9_dorm_96 hU2784 rfl (k := 13) zt_13 (Nat.le_of_ble_eq_true rfl) ?_
  intro M2793 hU2794 hv2795 hn2796
  have f2797 := (hn2796 386 2 (by decide)).trans f2787
  have f2798 := (hn2796 386 5 (by decide)).trans f2788
  have f2799 := (hn2796 386 8 (by decide)).trans f2789
  have f2800 := (hn2796 386 9 (by decide)).trans f2790
  have f2801 := (hn2796 386 35 (by decide)).trans f2791
  have f2802 := (hn2796 395 11 (by decide)).trans f2792
  have f2803 := (hn2796 395 12 (by decide)).trans hv2785
  clear hn2796 f2787 f2788 f2789 f2790 f2791 f2792 hv2785 hU2784 M2783
  refine w_lo (ml' := [some (.ref 386), some (.int 14)]) dX9_dorm_97 rfl rfl rfl rfl ?_
  refine w_gt dX9_dorm_100 (t := 76) rfl ?_
  refine w_lo dX9_dorm_76 rfl rfl rfl rfl ?_
  refine w_bi dX9_dorm_77 (c := 11) (by decide) ?_
  refine w_lo dX9_dorm_79 rfl rfl rfl rfl ?_
  refine w_gf dX9_dorm_80 rfl hU2794.1 rfl f2801 ?_
  refine w_pu (st' := [.int 11, .int 14]) dX9_dorm_83 rfl rfl ?_
  refine w_bi dX9_dorm_84 (c := 11) (by decide) ?_
  refine w_pu (st' := [.int 22, .int 14]) dX9_dorm_86 rfl rfl ?_
  refine w_cge_f dX9_dorm_87 (t := 103) rfl (by decide) ?_
  refine w_lo dX9_dorm_90 rfl rfl rfl rfl ?_
  refine w_gf dX9_dorm_91 rfl hU2794.1 rfl ((hU2794).2 386 20 rfl |>.trans zq_386_20) ?_
  refine w_lo dX9_dorm_94 rfl rfl rfl rfl ?_
  refine w_ic dX9_dorm_95 zi_0 ?_
  refine w_is dX9_dorm_96 hU2794 rfl (k := 14) zt_14 (Nat.le_of_ble_eq_true rfl) ?_
  intro M2804 hU2805 hv2806 hn2807
  have f2808 := (hn2807 386 2 (by decide)).trans f2797
  have f2809 := (hn2807 386 5 (by decide)).trans f2798
  have f2810 := (hn2807 386 8 (by decide)).trans f2799
  have f2811 := (hn2807 386 9 (by decide)).trans f2800
  have f2812 := (hn2807 386 35 (by decide)).trans f2801
  have f2813 := (hn2807 395 11 (by decide)).trans f2802
  have f2814 := (hn2807 395 12 (by decide)).trans f2803
  have f2815 := (hn2807 395 13 (by decide)).trans hv2795
  clear hn2807 f2797 f2798 f2799 f2800 f2801 f2802 f2803 hv2795 hU2794 M2793
  refine w_lo (ml' := [some (.ref 386), some (.int 15)]) dX9_dorm_97 rfl rfl rfl rfl ?_
  refine w_gt dX9_dorm_100 (t := 76) rfl ?_
  refine w_lo dX9_dorm_76 rfl rfl rfl rfl ?_
  refine w_bi dX9_dorm_77 (c := 11) (by decide) ?_
  refine w_lo dX9_dorm_79 rfl rfl rfl rfl ?_
  refine w_gf dX9_dorm_80 rfl hU2805.1 rfl f2812 ?_
  refine w_pu (st' := [.int 11, .int 15]) dX9_dorm_83 rfl rfl ?_
  refine w_bi dX9_dorm_84 (c := 11) (by decide) ?_
  refine w_pu (st' := [.int 22, .int 15]) dX9_dorm_86 rfl rfl ?_
  refine w_cge_f dX9_dorm_87 (t := 103) rfl (by decide) ?_
  refine w_lo dX9_dorm_90 rfl rfl rfl rfl ?_
  refine w_gf dX9_dorm_91 rfl hU2805.1 rfl ((hU2805).2 386 20 rfl |>.trans zq_386_20) ?_
  refine w_lo dX9_dorm_94 rfl rfl rfl rfl ?_
  refine w_ic dX9_dorm_95 zi_0 ?_
  refine w_is dX9_dorm_96 hU2805 rfl (k := 15) zt_15 (Nat.le_of_ble_eq_true rfl) ?_
  intro M2816 hU2817 hv2818 hn2819
  have f2820 := (hn2819 386 2 (by decide)).trans f2808
  have f2821 := (hn2819 386 5 (by decide)).trans f2809
  have f2822 := (hn2819 386 8 (by decide)).trans f2810
  have f2823 := (hn2819 386 9 (by decide)).trans f2811
  have f2824 := (hn2819 386 35 (by decide)).trans f2812
  have f2825 := (hn2819 395 11 (by decide)).trans f2813
  have f2826 := (hn2819 395 12 (by decide)).trans f2814
  have f2827 := (hn2819 395 13 (by decide)).trans f2815
  have f2828 := (hn2819 395 14 (by decide)).trans hv2806
  clear hn2819 f2808 f2809 f2810 f2811 f2812 f2813 f2814 f2815 hv2806 hU2805 M2804
  refine w_lo (ml' := [some (.ref 386), some (.int 16)]) dX9_dorm_97 rfl rfl rfl rfl ?_
  refine w_gt dX9_dorm_100 (t := 76) rfl ?_
  refine w_lo dX9_dorm_76 rfl rfl rfl rfl ?_
  refine w_bi dX9_dorm_77 (c := 11) (by decide) ?_
  refine w_lo dX9_dorm_79 rfl rfl rfl rfl ?_
  refine w_gf dX9_dorm_80 rfl hU2817.1 rfl f2824 ?_
  refine w_pu (st' := [.int 11, .int 16]) dX9_dorm_83 rfl rfl ?_
  refine w_bi dX9_dorm_84 (c := 11) (by decide) ?_
  refine w_pu (st' := [.int 22, .int 16]) dX9_dorm_86 rfl rfl ?_
  refine w_cge_f dX9_dorm_87 (t := 103) rfl (by decide) ?_
  refine w_lo dX9_dorm_90 rfl rfl rfl rfl ?_
  refine w_gf dX9_dorm_91 rfl hU2817.1 rfl ((hU2817).2 386 20 rfl |>.trans zq_386_20) ?_
  refine w_lo dX9_dorm_94 rfl rfl rfl rfl ?_
  refine w_ic dX9_dorm_95 zi_0 ?_
  refine w_is dX9_dorm_96 hU2817 rfl (k := 16) zt_16 (Nat.le_of_ble_eq_true rfl) ?_
  intro M2829 hU2830 hv2831 hn2832
  have f2833 := (hn2832 386 2 (by decide)).trans f2820
  have f2834 := (hn2832 386 5 (by decide)).trans f2821
  have f2835 := (hn2832 386 8 (by decide)).trans f2822
  have f2836 := (hn2832 386 9 (by decide)).trans f2823
  have f2837 := (hn2832 386 35 (by decide)).trans f2824
  have f2838 := (hn2832 395 11 (by decide)).trans f2825
  have f2839 := (hn2832 395 12 (by decide)).trans f2826
  have f2840 := (hn2832 395 13 (by decide)).trans f2827
  have f2841 := (hn2832 395 14 (by decide)).trans f2828
  have f2842 := (hn2832 395 15 (by decide)).trans hv2818
  clear hn2832 f2820 f2821 f2822 f2823 f2824 f2825 f2826 f2827 f2828 hv2818 hU2817 M2816
  refine w_lo (ml' := [some (.ref 386), some (.int 17)]) dX9_dorm_97 rfl rfl rfl rfl ?_
  refine w_gt dX9_dorm_100 (t := 76) rfl ?_
  refine w_lo dX9_dorm_76 rfl rfl rfl rfl ?_
  refine w_bi dX9_dorm_77 (c := 11) (by decide) ?_
  refine w_lo dX9_dorm_79 rfl rfl rfl rfl ?_
  refine w_gf dX9_dorm_80 rfl hU2830.1 rfl f2837 ?_
  refine w_pu (st' := [.int 11, .int 17]) dX9_dorm_83 rfl rfl ?_
  refine w_bi dX9_dorm_84 (c := 11) (by decide) ?_
  refine w_pu (st' := [.int 22, .int 17]) dX9_dorm_86 rfl rfl ?_
  refine w_cge_f dX9_dorm_87 (t := 103) rfl (by decide) ?_
  refine w_lo dX9_dorm_90 rfl rfl rfl rfl ?_
  refine w_gf dX9_dorm_91 rfl hU2830.1 rfl ((hU2830).2 386 20 rfl |>.trans zq_386_20) ?_
  refine w_lo dX9_dorm_94 rfl rfl rfl rfl ?_
  refine w_ic dX9_dorm_95 zi_0 ?_
  refine w_is dX9_dorm_96 hU2830 rfl (k := 17) zt_17 (Nat.le_of_ble_eq_true rfl) ?_
  intro M2843 hU2844 hv2845 hn2846
  have f2847 := (hn2846 386 2 (by decide)).trans f2833
  have f2848 := (hn2846 386 5 (by decide)).trans f2834
  have f2849 := (hn2846 386 8 (by decide)).trans f2835
  have f2850 := (hn2846 386 9 (by decide)).trans f2836
  have f2851 := (hn2846 386 35 (by decide)).trans f2837
  have f2852 := (hn2846 395 11 (by decide)).trans f2838
  have f2853 := (hn2846 395 12 (by decide)).trans f2839
  have f2854 := (hn2846 395 13 (by decide)).trans f2840
  have f2855 := (hn2846 395 14 (by decide)).trans f2841
  have f2856 := (hn2846 395 15 (by decide)).trans f2842
  have f2857 := (hn2846 395 16 (by decide)).trans hv2831
  clear hn2846 f2833 f2834 f2835 f2836 f2837 f2838 f2839 f2840 f2841 f2842 hv2831 hU2830 M2829
  refine w_lo (ml' := [some (.ref 386), some (.int 18)]) dX9_dorm_97 rfl rfl rfl rfl ?_
  refine w_gt dX9_dorm_100 (t := 76) rfl ?_
  refine w_lo dX9_dorm_76 rfl rfl rfl rfl ?_
  refine w_bi dX9_dorm_77 (c := 11) (by decide) ?_
  refine w_lo dX9_dorm_79 rfl rfl rfl rfl ?_
  refine w_gf dX9_dorm_80 rfl hU2844.1 rfl f2851 ?_
  refine w_pu (st' := [.int 11, .int 18]) dX9_dorm_83 rfl rfl ?_
  refine w_bi dX9_dorm_84 (c := 11) (by decide) ?_
  refine w_pu (st' := [.int 22, .int 18]) dX9_dorm_86 rfl rfl ?_
  refine w_cge_f dX9_dorm_87 (t := 103) rfl (by decide) ?_
  refine w_lo dX9_dorm_90 rfl rfl rfl rfl ?_
  refine w_gf dX9_dorm_91 rfl hU2844.1 rfl ((hU2844).2 386 20 rfl |>.trans zq_386_20) ?_
  refine w_lo dX9_dorm_94 rfl rfl rfl rfl ?_
  refine w_ic dX9_dorm_95 zi_0 ?_
  refine w_is dX9_dorm_96 hU2844 rfl (k := 18) zt_18 (Nat.le_of_ble_eq_true rfl) ?_
  intro M2858 hU2859 hv2860 hn2861
  have f2862 := (hn2861 386 2 (by decide)).trans f2847
  have f2863 := (hn2861 386 5 (by decide)).trans f2848
  have f2864 := (hn2861 386 8 (by decide)).trans f2849
  have f2865 := (hn2861 386 9 (by decide)).trans f2850
  have f2866 := (hn2861 386 35 (by decide)).trans f2851
  have f2867 := (hn2861 395 11 (by decide)).trans f2852
  have f2868 := (hn2861 395 12 (by decide)).trans f2853
  have f2869 := (hn2861 395 13 (by decide)).trans f2854
  have f2870 := (hn2861 395 14 (by decide)).trans f2855
  have f2871 := (hn2861 395 15 (by decide)).trans f2856
  have f2872 := (hn2861 395 16 (by decide)).trans f2857
  have f2873 := (hn2861 395 17 (by decide)).trans hv2845
  clear hn2861 f2847 f2848 f2849 f2850 f2851 f2852 f2853 f2854 f2855 f2856 f2857 hv2845 hU2844 M2843
  refine w_lo (ml' := [some (.ref 386), some (.int 19)]) dX9_dorm_97 rfl rfl rfl rfl ?_
  refine w_gt dX9_dorm_100 (t := 76) rfl ?_
  refine w_lo dX9_dorm_76 rfl rfl rfl rfl ?_
  refine w_bi dX9_dorm_77 (c := 11) (by decide) ?_
  refine w_lo dX9_dorm_79 rfl rfl rfl rfl ?_
  refine w_gf dX9_dorm_80 rfl hU2859.1 rfl f2866 ?_
  refine w_pu (st' := [.int 11, .int 19]) dX9_dorm_83 rfl rfl ?_
  refine w_bi dX9_dorm_84 (c := 11) (by decide) ?_
  refine w_pu (st' := [.int 22, .int 19]) dX9_dorm_86 rfl rfl ?_
  refine w_cge_f dX9_dorm_87 (t := 103) rfl (by decide) ?_
  refine w_lo dX9_dorm_90 rfl rfl rfl rfl ?_
  refine w_gf dX9_dorm_91 rfl hU2859.1 rfl ((hU2859).2 386 20 rfl |>.trans zq_386_20) ?_
  refine w_lo dX9_dorm_94 rfl rfl rfl rfl ?_
  refine w_ic dX9_dorm_95 zi_0 ?_
  refine w_is dX9_dorm_96 hU2859 rfl (k := 19) zt_19 (Nat.le_of_ble_eq_true rfl) ?_
  intro M2874 hU2875 hv2876 hn2877
  have f2878 := (hn2877 386 2 (by decide)).trans f2862
  have f2879 := (hn2877 386 5 (by decide)).trans f2863
  have f2880 := (hn2877 386 8 (by decide)).trans f2864
  have f2881 := (hn2877 386 9 (by decide)).trans f2865
  have f2882 := (hn2877 386 35 (by decide)).trans f2866
  have f2883 := (hn2877 395 11 (by decide)).trans f2867
  have f2884 := (hn2877 395 12 (by decide)).trans f2868
  have f2885 := (hn2877 395 13 (by decide)).trans f2869
  have f2886 := (hn2877 395 14 (by decide)).trans f2870
  have f2887 := (hn2877 395 15 (by decide)).trans f2871
  have f2888 := (hn2877 395 16 (by decide)).trans f2872
  have f2889 := (hn2877 395 17 (by decide)).trans f2873
  have f2890 := (hn2877 395 18 (by decide)).trans hv2860
  clear hn2877 f2862 f2863 f2864 f2865 f2866 f2867 f2868 f2869 f2870 f2871 f2872 f2873 hv2860 hU2859 M2858
  refine w_lo (ml' := [some (.ref 386), some (.int 20)]) dX9_dorm_97 rfl rfl rfl rfl ?_
  refine w_gt dX9_dorm_100 (t := 76) rfl ?_
  refine w_lo dX9_dorm_76 rfl rfl rfl rfl ?_
  refine w_bi dX9_dorm_77 (c := 11) (by decide) ?_
  refine w_lo dX9_dorm_79 rfl rfl rfl rfl ?_
  refine w_gf dX9_dorm_80 rfl hU2875.1 rfl f2882 ?_
  refine w_pu (st' := [.int 11, .int 20]) dX9_dorm_83 rfl rfl ?_
  refine w_bi dX9_dorm_84 (c := 11) (by decide) ?_
  refine w_pu (st' := [.int 22, .int 20]) dX9_dorm_86 rfl rfl ?_
  refine w_cge_f dX9_dorm_87 (t := 103) rfl (by decide) ?_
  refine w_lo dX9_dorm_90 rfl rfl rfl rfl ?_
  refine w_gf dX9_dorm_91 rfl hU2875.1 rfl ((hU2875).2 386 20 rfl |>.trans zq_386_20) ?_
  refine w_lo dX9_dorm_94 rfl rfl rfl rfl ?_
  refine w_ic dX9_dorm_95 zi_0 ?_
  refine w_is dX9_dorm_96 hU2875 rfl (k := 20) zt_20 (Nat.le_of_ble_eq_true rfl) ?_
  intro M2891 hU2892 hv2893 hn2894
  have f2895 := (hn2894 386 2 (by decide)).trans f2878
  have f2896 := (hn2894 386 5 (by decide)).trans f2879
  have f2897 := (hn2894 386 8 (by decide)).trans f2880
  have f2898 := (hn2894 386 9 (by decide)).trans f2881
  have f2899 := (hn2894 386 35 (by decide)).trans f2882
  have f2900 := (hn2894 395 11 (by decide)).trans f2883
  have f2901 := (hn2894 395 12 (by decide)).trans f2884
  have f2902 := (hn2894 395 13 (by decide)).trans f2885
  have f2903 := (hn2894 395 14 (by decide)).trans f2886
  have f2904 := (hn2894 395 15 (by decide)).trans f2887
  have f2905 := (hn2894 395 16 (by decide)).trans f2888
  have f2906 := (hn2894 395 17 (by decide)).trans f2889
  have f2907 := (hn2894 395 18 (by decide)).trans f2890
  have f2908 := (hn2894 395 19 (by decide)).trans hv2876
  clear hn2894 f2878 f2879 f2880 f2881 f2882 f2883 f2884 f2885 f2886 f2887 f2888 f2889 f2890 hv2876 hU2875 M2874
  refine w_lo (ml' := [some (.ref 386), some (.int 21)]) dX9_dorm_97 rfl rfl rfl rfl ?_
  refine w_gt dX9_dorm_100 (t := 76) rfl ?_
  refine w_lo dX9_dorm_76 rfl rfl rfl rfl ?_
  refine w_bi dX9_dorm_77 (c := 11) (by decide) ?_
  refine w_lo dX9_dorm_79 rfl rfl rfl rfl ?_
  refine w_gf dX9_dorm_80 rfl hU2892.1 rfl f2899 ?_
  refine w_pu (st' := [.int 11, .int 21]) dX9_dorm_83 rfl rfl ?_
  refine w_bi dX9_dorm_84 (c := 11) (by decide) ?_
  refine w_pu (st' := [.int 22, .int 21]) dX9_dorm_86 rfl rfl ?_
  refine w_cge_f dX9_dorm_87 (t := 103) rfl (by decide) ?_
  refine w_lo dX9_dorm_90 rfl rfl rfl rfl ?_
  refine w_gf dX9_dorm_91 rfl hU2892.1 rfl ((hU2892).2 386 20 rfl |>.trans zq_386_20) ?_
  refine w_lo dX9_dorm_94 rfl rfl rfl rfl ?_
  refine w_ic dX9_dorm_95 zi_0 ?_
  refine w_is dX9_dorm_96 hU2892 rfl (k := 21) zt_21 (Nat.le_of_ble_eq_true rfl) ?_
  intro M2909 hU2910 hv2911 hn2912
  have f2913 := (hn2912 386 2 (by decide)).trans f2895
  have f2914 := (hn2912 386 5 (by decide)).trans f2896
  have f2915 := (hn2912 386 8 (by decide)).trans f2897
  have f2916 := (hn2912 386 9 (by decide)).trans f2898
  have f2917 := (hn2912 386 35 (by decide)).trans f2899
  have f2918 := (hn2912 395 11 (by decide)).trans f2900
  have f2919 := (hn2912 395 12 (by decide)).trans f2901
  have f2920 := (hn2912 395 13 (by decide)).trans f2902
  have f2921 := (hn2912 395 14 (by decide)).trans f2903
  have f2922 := (hn2912 395 15 (by decide)).trans f2904
  have f2923 := (hn2912 395 16 (by decide)).trans f2905
  have f2924 := (hn2912 395 17 (by decide)).trans f2906
  have f2925 := (hn2912 395 18 (by decide)).trans f2907
  have f2926 := (hn2912 395 19 (by decide)).trans f2908
  have f2927 := (hn2912 395 20 (by decide)).trans hv2893
  clear hn2912 f2895 f2896 f2897 f2898 f2899 f2900 f2901 f2902 f2903 f2904 f2905 f2906 f2907 f2908 hv2893 hU2892 M2891
  refine w_lo (ml' := [some (.ref 386), some (.int 22)]) dX9_dorm_97 rfl rfl rfl rfl ?_
  refine w_gt dX9_dorm_100 (t := 76) rfl ?_
  refine w_lo dX9_dorm_76 rfl rfl rfl rfl ?_
  refine w_bi dX9_dorm_77 (c := 11) (by decide) ?_
  refine w_lo dX9_dorm_79 rfl rfl rfl rfl ?_
  refine w_gf dX9_dorm_80 rfl hU2910.1 rfl f2917 ?_
  refine w_pu (st' := [.int 11, .int 22]) dX9_dorm_83 rfl rfl ?_
  refine w_bi dX9_dorm_84 (c := 11) (by decide) ?_
  refine w_pu (st' := [.int 22, .int 22]) dX9_dorm_86 rfl rfl ?_
  refine w_cge_t dX9_dorm_87 (t := 103) rfl (by decide) ?_
  refine w_lo dX9_dorm_103 rfl rfl rfl rfl ?_
  refine w_ic dX9_dorm_104 zi_0 ?_
  refine w_pf dX9_dorm_105 rfl hU2910 rfl (Nat.le_of_ble_eq_true rfl) rfl rfl rfl ?_
  intro M2928 hU2929 hv2930 hn2931
  have f2932 := (hn2931 386 2 (by decide)).trans f2913
  have f2933 := (hn2931 386 5 (by decide)).trans f2914
  have f2934 := (hn2931 386 8 (by decide)).trans f2915
  have f2935 := (hn2931 386 9 (by decide)).trans f2916
  have f2936 := (hn2931 386 35 (by decide)).trans f2917
  have f2937 := (hn2931 395 11 (by decide)).trans f2918
  have f2938 := (hn2931 395 12 (by decide)).trans f2919
  have f2939 := (hn2931 395 13 (by decide)).trans f2920
  have f2940 := (hn2931 395 14 (by decide)).trans f2921
  have f2941 := (hn2931 395 15 (by decide)).trans f2922
  have f2942 := (hn2931 395 16 (by decide)).trans f2923
  have f2943 := (hn2931 395 17 (by decide)).trans f2924
  have f2944 := (hn2931 395 18 (by decide)).trans f2925
  have f2945 := (hn2931 395 19 (by decide)).trans f2926
  have f2946 := (hn2931 395 20 (by decide)).trans f2927
  have f2947 := (hn2931 395 21 (by decide)).trans hv2911
  clear hn2931 f2913 f2914 f2915 f2916 f2917 f2918 f2919 f2920 f2921 f2922 f2923 f2924 f2925 f2926 f2927 hv2911 hU2910 M2909
  refine w_ic dX9_dorm_108 zi_0 ?_
  refine w_lo dX9_dorm_109 rfl rfl rfl rfl ?_
  refine w_lo dX9_dorm_110 rfl rfl rfl rfl ?_
  refine w_iv dX9_dorm_111 rfl rfl (As := []) rfl rfl hU2929.1 rfl (Nat.le_of_ble_eq_true rfl) ?_
  refine ZV.of (ini := false) rfl (Nat.le_of_ble_eq_true rfl) (by decide +kernel) ?_
  show ZW _ 9 9 false none cX9_ahead _ (0, [some (.ref 386), none, none, none, none, none], [], M2928)
  refine w_lo dX9_ahead_0 rfl rfl rfl rfl ?_
  refine w_gf dX9_ahead_1 rfl hU2929.1 rfl f2933 ?_
  refine w_lo dX9_ahead_4 rfl rfl rfl rfl ?_
  refine w_lo dX9_ahead_5 rfl rfl rfl rfl ?_
  refine w_lo dX9_ahead_6 rfl rfl rfl rfl ?_
  refine w_gf dX9_ahead_7 rfl hU2929.1 rfl f2932 ?_
  refine w_cge_t dX9_ahead_10 (t := 41) rfl (by decide) ?_
  refine w_lo dX9_ahead_41 rfl rfl rfl rfl ?_
  refine w_lo dX9_ahead_42 rfl rfl rfl rfl ?_
  refine w_pf dX9_ahead_43 rfl hU2929 rfl (Nat.le_of_ble_eq_true rfl) rfl rfl rfl ?_
  intro M2948 hU2949 hv2950 hn2951
  have f2952 := (hn2951 386 2 (by decide)).trans f2932
  have f2953 := (hn2951 386 8 (by decide)).trans f2934
  have f2954 := (hn2951 386 9 (by decide)).trans f2935
  have f2955 := (hn2951 386 35 (by decide)).trans f2936
  have f2956 := (hn2951 395 11 (by decide)).trans f2937
  have f2957 := (hn2951 395 12 (by decide)).trans f2938
  have f2958 := (hn2951 395 13 (by decide)).trans f2939
  have f2959 := (hn2951 395 14 (by decide)).trans f2940
  have f2960 := (hn2951 395 15 (by decide)).trans f2941
  have f2961 := (hn2951 395 16 (by decide)).trans f2942
  have f2962 := (hn2951 395 17 (by decide)).trans f2943
  have f2963 := (hn2951 395 18 (by decide)).trans f2944
  have f2964 := (hn2951 395 19 (by decide)).trans f2945
  have f2965 := (hn2951 395 20 (by decide)).trans f2946
  have f2966 := (hn2951 395 21 (by decide)).trans f2947
  clear hn2951 f2932 f2933 f2934 f2935 f2936 f2937 f2938 f2939 f2940 f2941 f2942 f2943 f2944 f2945 f2946 f2947 hv2930 hU2929 M2928
  refine w_lo dX9_ahead_46 rfl rfl rfl rfl ?_
  refine w_lo dX9_ahead_47 rfl rfl rfl rfl ?_
  refine w_pf dX9_ahead_48 rfl hU2949 rfl (Nat.le_of_ble_eq_true rfl) rfl rfl rfl ?_
  intro M2967 hU2968 hv2969 hn2970
  have f2971 := (hn2970 386 2 (by decide)).trans f2952
  have f2972 := (hn2970 386 8 (by decide)).trans f2953
  have f2973 := (hn2970 386 9 (by decide)).trans f2954
  have f2974 := (hn2970 386 35 (by decide)).trans f2955
  have f2975 := (hn2970 395 11 (by decide)).trans f2956
  have f2976 := (hn2970 395 12 (by decide)).trans f2957
  have f2977 := (hn2970 395 13 (by decide)).trans f2958
  have f2978 := (hn2970 395 14 (by decide)).trans f2959
  have f2979 := (hn2970 395 15 (by decide)).trans f2960
  have f2980 := (hn2970 395 16 (by decide)).trans f2961
  have f2981 := (hn2970 395 17 (by decide)).trans f2962
  have f2982 := (hn2970 395 18 (by decide)).trans f2963
  have f2983 := (hn2970 395 19 (by decide)).trans f2964
  have f2984 := (hn2970 395 20 (by decide)).trans f2965
  have f2985 := (hn2970 395 21 (by decide)).trans f2966
  clear hn2970 f2952 f2953 f2954 f2955 f2956 f2957 f2958 f2959 f2960 f2961 f2962 f2963 f2964 f2965 f2966 hv2950 hU2949 M2948
  refine w_lo dX9_ahead_51 rfl rfl rfl rfl ?_
  refine w_ic dX9_ahead_52 zi_0 ?_
  refine w_pf dX9_ahead_53 rfl hU2968 rfl (Nat.le_of_ble_eq_true rfl) rfl rfl rfl ?_
  intro M2986 hU2987 hv2988 hn2989
  have f2990 := (hn2989 386 2 (by decide)).trans f2971
  have f2991 := (hn2989 386 8 (by decide)).trans f2972
  have f2992 := (hn2989 386 9 (by decide)).trans f2973
  have f2993 := (hn2989 386 35 (by decide)).trans f2974
  have f2994 := (hn2989 395 11 (by decide)).trans f2975
  have f2995 := (hn2989 395 12 (by decide)).trans f2976
  have f2996 := (hn2989 395 13 (by decide)).trans f2977
  have f2997 := (hn2989 395 14 (by decide)).trans f2978
  have f2998 := (hn2989 395 15 (by decide)).trans f2979
  have f2999 := (hn2989 395 16 (by decide)).trans f2980
  have f3000 := (hn2989 395 17 (by decide)).trans f2981
  have f3001 := (hn2989 395 18 (by decide)).trans f2982
  have f3002 := (hn2989 395 19 (by decide)).trans f2983
  have f3003 := (hn2989 395 20 (by decide)).trans f2984
  have f3004 := (hn2989 395 21 (by decide)).trans f2985
  clear hn2989 f2971 f2972 f2973 f2974 f2975 f2976 f2977 f2978 f2979 f2980 f2981 f2982 f2983 f2984 f2985 hv2969 hU2968 M2967
  refine w_lo dX9_ahead_56 rfl rfl rfl rfl ?_
  refine w_lo dX9_ahead_57 rfl rfl rfl rfl ?_
  refine w_gf dX9_ahead_58 rfl hU2987.1 rfl f2990 ?_
  refine w_clt_f dX9_ahead_61 (t := 65) rfl (by decide) ?_
  refine w_en dX9_ahead_64 rfl ?_
  show ZW _ 10 9 false (some .int) cX9_dorm _ (114, [some (.ref 386), some (.int 0)], [], M2986)
  refine w_lo dX9_dorm_114 rfl rfl rfl rfl ?_
  refine w_gf dX9_dorm_115 rfl hU2987.1 rfl f2991 ?_
  refine w_ine_f dX9_dorm_118 (t := 143) rfl (by decide) ?_
  refine w_lo dX9_dorm_121 rfl rfl rfl rfl ?_
  refine w_gf dX9_dorm_122 rfl hU2987.1 rfl hv2988 ?_
  refine w_ieq_t dX9_dorm_125 (t := 143) rfl (by decide) ?_
  refine w_lo dX9_dorm_143 rfl rfl rfl rfl ?_
  refine w_lo dX9_dorm_144 rfl rfl rfl rfl ?_
  refine w_gf dX9_dorm_145 rfl hU2987.1 rfl f2991 ?_
  refine w_pf dX9_dorm_148 rfl hU2987 rfl (Nat.le_of_ble_eq_true rfl) rfl rfl rfl ?_
  intro M3005 hU3006 hv3007 hn3008
  have f3009 := (hn3008 386 8 (by decide)).trans f2991
  have f3010 := (hn3008 386 9 (by decide)).trans f2992
  have f3011 := (hn3008 386 35 (by decide)).trans f2993
  have f3012 := (hn3008 395 11 (by decide)).trans f2994
  have f3013 := (hn3008 395 12 (by decide)).trans f2995
  have f3014 := (hn3008 395 13 (by decide)).trans f2996
  have f3015 := (hn3008 395 14 (by decide)).trans f2997
  have f3016 := (hn3008 395 15 (by decide)).trans f2998
  have f3017 := (hn3008 395 16 (by decide)).trans f2999
  have f3018 := (hn3008 395 17 (by decide)).trans f3000
  have f3019 := (hn3008 395 18 (by decide)).trans f3001
  have f3020 := (hn3008 395 19 (by decide)).trans f3002
  have f3021 := (hn3008 395 20 (by decide)).trans f3003
  have f3022 := (hn3008 395 21 (by decide)).trans f3004
  clear hn3008 f2990 f2991 f2992 f2993 f2994 f2995 f2996 f2997 f2998 f2999 f3000 f3001 f3002 f3003 f3004 hv2988 hU2987 M2986
  refine w_lo dX9_dorm_151 rfl rfl rfl rfl ?_
  refine w_lo dX9_dorm_152 rfl rfl rfl rfl ?_
  refine w_gf dX9_dorm_153 rfl hU3006.1 rfl f3010 ?_
  refine w_pf dX9_dorm_156 rfl hU3006 rfl (Nat.le_of_ble_eq_true rfl) rfl rfl rfl ?_
  intro M3023 hU3024 hv3025 hn3026
  have f3027 := (hn3026 386 8 (by decide)).trans f3009
  have f3028 := (hn3026 386 35 (by decide)).trans f3011
  have f3029 := (hn3026 395 11 (by decide)).trans f3012
  have f3030 := (hn3026 395 12 (by decide)).trans f3013
  have f3031 := (hn3026 395 13 (by decide)).trans f3014
  have f3032 := (hn3026 395 14 (by decide)).trans f3015
  have f3033 := (hn3026 395 15 (by decide)).trans f3016
  have f3034 := (hn3026 395 16 (by decide)).trans f3017
  have f3035 := (hn3026 395 17 (by decide)).trans f3018
  have f3036 := (hn3026 395 18 (by decide)).trans f3019
  have f3037 := (hn3026 395 19 (by decide)).trans f3020
  have f3038 := (hn3026 395 20 (by decide)).trans f3021
  have f3039 := (hn3026 395 21 (by decide)).trans f3022
  clear hn3026 f3009 f3010 f3011 f3012 f3013 f3014 f3015 f3016 f3017 f3018 f3019 f3020 f3021 f3022 hv3007 hU3006 M3005
  refine w_lo dX9_dorm_159 rfl rfl rfl rfl ?_
  refine w_gf dX9_dorm_160 rfl hU3024.1 rfl f3027 ?_
  refine w_ile_t dX9_dorm_163 (t := 172) rfl (by decide) ?_
  refine w_lo dX9_dorm_172 rfl rfl rfl rfl ?_
  refine w_lo dX9_dorm_173 rfl rfl rfl rfl ?_
  refine w_gf dX9_dorm_174 rfl hU3024.1 rfl f3028 ?_
  refine w_pf dX9_dorm_177 rfl hU3024 rfl (Nat.le_of_ble_eq_true rfl) rfl rfl rfl ?_
  intro M3040 hU3041 hv3042 hn3043
  have f3044 := (hn3043 395 11 (by decide)).trans f3029
  have f3045 := (hn3043 395 12 (by decide)).trans f3030
  have f3046 := (hn3043 395 13 (by decide)).trans f3031
  have f3047 := (hn3043 395 14 (by decide)).trans f3032
  have f3048 := (hn3043 395 15 (by decide)).trans f3033
  have f3049 := (hn3043 395 16 (by decide)).trans f3034
  have f3050 := (hn3043 395 17 (by decide)).trans f3035
  have f3051 := (hn3043 395 18 (by decide)).trans f3036
  have f3052 := (hn3043 395 19 (by decide)).trans f3037
  have f3053 := (hn3043 395 20 (by decide)).trans f3038
  have f3054 := (hn3043 395 21 (by decide)).trans f3039
  clear hn3043 f3027 f3028 f3029 f3030 f3031 f3032 f3033 f3034 f3035 f3036 f3037 f3038 f3039 hv3025 hU3024 M3023
  refine w_lo dX9_dorm_180 rfl rfl rfl rfl ?_
  refine w_iv dX9_dorm_181 rfl rfl (As := []) rfl rfl hU3041.1 rfl (Nat.le_of_ble_eq_true rfl) ?_
  refine ZV.of (ini := false) rfl (Nat.le_of_ble_eq_true rfl) (by decide +kernel) ?_
  show ZW _ 9 9 false none cX9_begins _ (0, [some (.ref 386), none], [], M3040)
  refine w_lo dX9_begins_0 rfl rfl rfl rfl ?_
  refine w_gf dX9_begins_1 rfl hU3041.1 rfl ((hU3041).2 386 49 rfl |>.trans zq_386_49) ?_
  refine w_ic dX9_begins_4 zi_0 ?_
  refine w_ic dX9_begins_5 zi_0 ?_
  refine w_is dX9_begins_6 hU3041 rfl (k := 0) zt_0 (Nat.le_of_ble_eq_true rfl) ?_
  intro M3055 hU3056 hv3057 hn3058
  have f3059 := (hn3058 395 11 (by decide)).trans f3044
  have f3060 := (hn3058 395 12 (by decide)).trans f3045
  have f3061 := (hn3058 395 13 (by decide)).trans f3046
  have f3062 := (hn3058 395 14 (by decide)).trans f3047
  have f3063 := (hn3058 395 15 (by decide)).trans f3048
  have f3064 := (hn3058 395 16 (by decide)).trans f3049
  have f3065 := (hn3058 395 17 (by decide)).trans f3050
  have f3066 := (hn3058 395 18 (by decide)).trans f3051
  have f3067 := (hn3058 395 19 (by decide)).trans f3052
  have f3068 := (hn3058 395 20 (by decide)).trans f3053
  have f3069 := (hn3058 395 21 (by decide)).trans f3054
  have f3070 := (hn3058 386 12 (by decide)).trans hv3042
  clear hn3058 f3044 f3045 f3046 f3047 f3048 f3049 f3050 f3051 f3052 f3053 f3054 hv3042 hU3041 M3040
  refine w_lo dX9_begins_7 rfl rfl rfl rfl ?_
  refine w_gf dX9_begins_8 rfl hU3056.1 rfl ((hU3056).2 386 62 rfl |>.trans zq_386_62) ?_
  refine w_ic dX9_begins_11 zi_0 ?_
  refine w_ic dX9_begins_12 zi_0 ?_
  refine w_is dX9_begins_13 hU3056 rfl (k := 0) zt_0 (Nat.le_of_ble_eq_true rfl) ?_
  intro M3071 hU3072 hv3073 hn3074
  have f3075 := (hn3074 395 11 (by decide)).trans f3059
  have f3076 := (hn3074 395 12 (by decide)).trans f3060
  have f3077 := (hn3074 395 13 (by decide)).trans f3061
  have f3078 := (hn3074 395 14 (by decide)).trans f3062
  have f3079 := (hn3074 395 15 (by decide)).trans f3063
  have f3080 := (hn3074 395 16 (by decide)).trans f3064
  have f3081 := (hn3074 395 17 (by decide)).trans f3065
  have f3082 := (hn3074 395 18 (by decide)).trans f3066
  have f3083 := (hn3074 395 19 (by decide)).trans f3067
  have f3084 := (hn3074 395 20 (by decide)).trans f3068
  have f3085 := (hn3074 395 21 (by decide)).trans f3069
  have f3086 := (hn3074 386 12 (by decide)).trans f3070
  clear hn3074 f3059 f3060 f3061 f3062 f3063 f3064 f3065 f3066 f3067 f3068 f3069 f3070 hv3057 hU3056 M3055
  refine w_lo dX9_begins_14 rfl rfl rfl rfl ?_
  refine w_ic dX9_begins_15 zi_0 ?_
  refine w_pf dX9_begins_16 rfl hU3072 rfl (Nat.le_of_ble_eq_true rfl) rfl rfl rfl ?_
  intro M3087 hU3088 hv3089 hn3090
  have f3091 := (hn3090 395 11 (by decide)).trans f3075
  have f3092 := (hn3090 395 12 (by decide)).trans f3076
  have f3093 := (hn3090 395 13 (by decide)).trans f3077
  have f3094 := (hn3090 395 14 (by decide)).trans f3078
  have f3095 := (hn3090 395 15 (by decide)).trans f3079
  have f3096 := (hn3090 395 16 (by decide)).trans f3080
  have f3097 := (hn3090 395 17 (by decide)).trans f3081
  have f3098 := (hn3090 395 18 (by decide)).trans f3082
  have f3099 := (hn3090 395 19 (by decide)).trans f3083
  have f3100 := (hn3090 395 20 (by decide)).trans f3084
  have f3101 := (hn3090 395 21 (by decide)).trans f3085
  have f3102 := (hn3090 386 12 (by decide)).trans f3086
  clear hn3090 f3075 f3076 f3077 f3078 f3079 f3080 f3081 f3082 f3083 f3084 f3085 f3086 hv3073 hU3072 M3071
  refine w_lo dX9_begins_19 rfl rfl rfl rfl ?_
  refine w_ic dX9_begins_20 zi_0 ?_
  refine w_pf dX9_begins_21 rfl hU3088 rfl (Nat.le_of_ble_eq_true rfl) rfl rfl rfl ?_
  intro M3103 hU3104 hv3105 hn3106
  have f3107 := (hn3106 395 11 (by decide)).trans f3091
  have f3108 := (hn3106 395 12 (by decide)).trans f3092
  have f3109 := (hn3106 395 13 (by decide)).trans f3093
  have f3110 := (hn3106 395 14 (by decide)).trans f3094
  have f3111 := (hn3106 395 15 (by decide)).trans f3095
  have f3112 := (hn3106 395 16 (by decide)).trans f3096
  have f3113 := (hn3106 395 17 (by decide)).trans f3097
  have f3114 := (hn3106 395 18 (by decide)).trans f3098
  have f3115 := (hn3106 395 19 (by decide)).trans f3099
  have f3116 := (hn3106 395 20 (by decide)).trans f3100
  have f3117 := (hn3106 395 21 (by decide)).trans f3101
  have f3118 := (hn3106 386 12 (by decide)).trans f3102
  clear hn3106 f3091 f3092 f3093 f3094 f3095 f3096 f3097 f3098 f3099 f3100 f3101 f3102 hv3089 hU3088 M3087
  refine w_ic dX9_begins_24 zi_0 ?_
  refine w_lo dX9_begins_25 rfl rfl rfl rfl ?_
  refine w_lo dX9_begins_26 rfl rfl rfl rfl ?_
  refine w_bi dX9_begins_27 (c := 12) (by decide) ?_
  refine w_cge_f dX9_begins_29 (t := 64) rfl (by decide) ?_
  refine w_lo dX9_begins_32 rfl rfl rfl rfl ?_
  refine w_gf dX9_begins_33 rfl hU3104.1 rfl ((hU3104).2 386 50 rfl |>.trans zq_386_50) ?_
  refine w_lo dX9_begins_36 rfl rfl rfl rfl ?_
  refine w_lo dX9_begins_37 rfl rfl rfl rfl ?_
  refine w_is dX9_begins_38 hU3104 rfl (k := 0) zt_0 (Nat.le_of_ble_eq_true rfl) ?_
  intro M3119 hU3120 hv3121 hn3122
  have f3123 := (hn3122 395 11 (by decide)).trans f3107
  have f3124 := (hn3122 395 12 (by decide)).trans f3108
  have f3125 := (hn3122 395 13 (by decide)).trans f3109
  have f3126 := (hn3122 395 14 (by decide)).trans f3110
  have f3127 := (hn3122 395 15 (by decide)).trans f3111
  have f3128 := (hn3122 395 16 (by decide)).trans f3112
  have f3129 := (hn3122 395 17 (by decide)).trans f3113
  have f3130 := (hn3122 395 18 (by decide)).trans f3114
  have f3131 := (hn3122 395 19 (by decide)).trans f3115
  have f3132 := (hn3122 395 20 (by decide)).trans f3116
  have f3133 := (hn3122 395 21 (by decide)).trans f3117
  have f3134 := (hn3122 386 12 (by decide)).trans f3118
  clear hn3122 f3107 f3108 f3109 f3110 f3111 f3112 f3113 f3114 f3115 f3116 f3117 f3118 hv3105 hU3104 M3103
  refine w_lo dX9_begins_39 rfl rfl rfl rfl ?_
  refine w_gf dX9_begins_40 rfl hU3120.1 rfl ((hU3120).2 386 51 rfl |>.trans zq_386_51) ?_
  refine w_lo dX9_begins_43 rfl rfl rfl rfl ?_
  refine w_ic dX9_begins_44 zi_1 ?_
  refine w_is dX9_begins_45 hU3120 rfl (k := 0) zt_0 (Nat.le_of_ble_eq_true rfl) ?_
  intro M3135 hU3136 hv3137 hn3138
  have f3139 := (hn3138 395 11 (by decide)).trans f3123
  have f3140 := (hn3138 395 12 (by decide)).trans f3124
  have f3141 := (hn3138 395 13 (by decide)).trans f3125
  have f3142 := (hn3138 395 14 (by decide)).trans f3126
  have f3143 := (hn3138 395 15 (by decide)).trans f3127
  have f3144 := (hn3138 395 16 (by decide)).trans f3128
  have f3145 := (hn3138 395 17 (by decide)).trans f3129
  have f3146 := (hn3138 395 18 (by decide)).trans f3130
  have f3147 := (hn3138 395 19 (by decide)).trans f3131
  have f3148 := (hn3138 395 20 (by decide)).trans f3132
  have f3149 := (hn3138 395 21 (by decide)).trans f3133
  have f3150 := (hn3138 386 12 (by decide)).trans f3134
  clear hn3138 f3123 f3124 f3125 f3126 f3127 f3128 f3129 f3130 f3131 f3132 f3133 f3134 hv3121 hU3120 M3119
  refine w_lo dX9_begins_46 rfl rfl rfl rfl ?_
  refine w_gf dX9_begins_47 rfl hU3136.1 rfl ((hU3136).2 386 57 rfl |>.trans zq_386_57) ?_
  refine w_lo dX9_begins_50 rfl rfl rfl rfl ?_
  refine w_ic dX9_begins_51 zi_0 ?_
  refine w_is dX9_begins_52 hU3136 rfl (k := 0) zt_0 (Nat.le_of_ble_eq_true rfl) ?_
  intro M3151 hU3152 hv3153 hn3154
  have f3155 := (hn3154 395 11 (by decide)).trans f3139
  have f3156 := (hn3154 395 12 (by decide)).trans f3140
  have f3157 := (hn3154 395 13 (by decide)).trans f3141
  have f3158 := (hn3154 395 14 (by decide)).trans f3142
  have f3159 := (hn3154 395 15 (by decide)).trans f3143
  have f3160 := (hn3154 395 16 (by decide)).trans f3144
  have f3161 := (hn3154 395 17 (by decide)).trans f3145
  have f3162 := (hn3154 395 18 (by decide)).trans f3146
  have f3163 := (hn3154 395 19 (by decide)).trans f3147
  have f3164 := (hn3154 395 20 (by decide)).trans f3148
  have f3165 := (hn3154 395 21 (by decide)).trans f3149
  have f3166 := (hn3154 386 12 (by decide)).trans f3150
  clear hn3154 f3139 f3140 f3141 f3142 f3143 f3144 f3145 f3146 f3147 f3148 f3149 f3150 hv3137 hU3136 M3135
  refine w_lo dX9_begins_53 rfl rfl rfl rfl ?_
  refine w_lo dX9_begins_54 rfl rfl rfl rfl ?_
  refine w_iv dX9_begins_55 rfl rfl (As := [.int 0]) rfl rfl hU3152.1 rfl (Nat.le_of_ble_eq_true rfl) ?_
  refine ZV.of (ini := false) rfl (Nat.le_of_ble_eq_true rfl) (by decide +kernel) ?_
  show ZW _ 8 9 false none cX9_clears _ (0, [some (.ref 386), some (.int 0)], [], M3151)
  refine w_lo dX9_clears_0 rfl rfl rfl rfl ?_
  refine w_gf dX9_clears_1 rfl hU3152.1 rfl ((hU3152).2 386 52 rfl |>.trans zq_386_52) ?_
  refine w_lo dX9_clears_4 rfl rfl rfl rfl ?_
  refine w_ic dX9_clears_5 zi_m1 ?_
  refine w_is dX9_clears_6 hU3152 rfl (k := 0) zt_0 (Nat.le_of_ble_eq_true rfl) ?_
  intro M3167 hU3168 hv3169 hn3170
  have f3171 := (hn3170 395 11 (by decide)).trans f3155
  have f3172 := (hn3170 395 12 (by decide)).trans f3156
  have f3173 := (hn3170 395 13 (by decide)).trans f3157
  have f3174 := (hn3170 395 14 (by decide)).trans f3158
  have f3175 := (hn3170 395 15 (by decide)).trans f3159
  have f3176 := (hn3170 395 16 (by decide)).trans f3160
  have f3177 := (hn3170 395 17 (by decide)).trans f3161
  have f3178 := (hn3170 395 18 (by decide)).trans f3162
  have f3179 := (hn3170 395 19 (by decide)).trans f3163
  have f3180 := (hn3170 395 20 (by decide)).trans f3164
  have f3181 := (hn3170 395 21 (by decide)).trans f3165
  have f3182 := (hn3170 386 12 (by decide)).trans f3166
  clear hn3170 f3155 f3156 f3157 f3158 f3159 f3160 f3161 f3162 f3163 f3164 f3165 f3166 hv3153 hU3152 M3151
  refine w_lo dX9_clears_7 rfl rfl rfl rfl ?_
  refine w_gf dX9_clears_8 rfl hU3168.1 rfl ((hU3168).2 386 53 rfl |>.trans zq_386_53) ?_
  refine w_lo dX9_clears_11 rfl rfl rfl rfl ?_
  refine w_ic dX9_clears_12 zi_0 ?_
  refine w_is dX9_clears_13 hU3168 rfl (k := 0) zt_0 (Nat.le_of_ble_eq_true rfl) ?_
  intro M3183 hU3184 hv3185 hn3186
  have f3187 := (hn3186 395 11 (by decide)).trans f3171
  have f3188 := (hn3186 395 12 (by decide)).trans f3172
  have f3189 := (hn3186 395 13 (by decide)).trans f3173
  have f3190 := (hn3186 395 14 (by decide)).trans f3174
  have f3191 := (hn3186 395 15 (by decide)).trans f3175
  have f3192 := (hn3186 395 16 (by decide)).trans f3176
  have f3193 := (hn3186 395 17 (by decide)).trans f3177
  have f3194 := (hn3186 395 18 (by decide)).trans f3178
  have f3195 := (hn3186 395 19 (by decide)).trans f3179
  have f3196 := (hn3186 395 20 (by decide)).trans f3180
  have f3197 := (hn3186 395 21 (by decide)).trans f3181
  have f3198 := (hn3186 386 12 (by decide)).trans f3182
  clear hn3186 f3171 f3172 f3173 f3174 f3175 f3176 f3177 f3178 f3179 f3180 f3181 f3182 hv3169 hU3168 M3167
  refine w_lo dX9_clears_14 rfl rfl rfl rfl ?_
  refine w_gf dX9_clears_15 rfl hU3184.1 rfl ((hU3184).2 386 54 rfl |>.trans zq_386_54) ?_
  refine w_lo dX9_clears_18 rfl rfl rfl rfl ?_
  refine w_ic dX9_clears_19 zi_m1 ?_
  refine w_is dX9_clears_20 hU3184 rfl (k := 0) zt_0 (Nat.le_of_ble_eq_true rfl) ?_
  intro M3199 hU3200 hv3201 hn3202
  have f3203 := (hn3202 395 11 (by decide)).trans f3187
  have f3204 := (hn3202 395 12 (by decide)).trans f3188
  have f3205 := (hn3202 395 13 (by decide)).trans f3189
  have f3206 := (hn3202 395 14 (by decide)).trans f3190
  have f3207 := (hn3202 395 15 (by decide)).trans f3191
  have f3208 := (hn3202 395 16 (by decide)).trans f3192
  have f3209 := (hn3202 395 17 (by decide)).trans f3193
  have f3210 := (hn3202 395 18 (by decide)).trans f3194
  have f3211 := (hn3202 395 19 (by decide)).trans f3195
  have f3212 := (hn3202 395 20 (by decide)).trans f3196
  have f3213 := (hn3202 395 21 (by decide)).trans f3197
  have f3214 := (hn3202 386 12 (by decide)).trans f3198
  clear hn3202 f3187 f3188 f3189 f3190 f3191 f3192 f3193 f3194 f3195 f3196 f3197 f3198 hv3185 hU3184 M3183
  refine w_lo dX9_clears_21 rfl rfl rfl rfl ?_
  refine w_gf dX9_clears_22 rfl hU3200.1 rfl ((hU3200).2 386 55 rfl |>.trans zq_386_55) ?_
  refine w_lo dX9_clears_25 rfl rfl rfl rfl ?_
  refine w_ic dX9_clears_26 zi_0 ?_
  refine w_is dX9_clears_27 hU3200 rfl (k := 0) zt_0 (Nat.le_of_ble_eq_true rfl) ?_
  intro M3215 hU3216 hv3217 hn3218
  have f3219 := (hn3218 395 11 (by decide)).trans f3203
  have f3220 := (hn3218 395 12 (by decide)).trans f3204
  have f3221 := (hn3218 395 13 (by decide)).trans f3205
  have f3222 := (hn3218 395 14 (by decide)).trans f3206
  have f3223 := (hn3218 395 15 (by decide)).trans f3207
  have f3224 := (hn3218 395 16 (by decide)).trans f3208
  have f3225 := (hn3218 395 17 (by decide)).trans f3209
  have f3226 := (hn3218 395 18 (by decide)).trans f3210
  have f3227 := (hn3218 395 19 (by decide)).trans f3211
  have f3228 := (hn3218 395 20 (by decide)).trans f3212
  have f3229 := (hn3218 395 21 (by decide)).trans f3213
  have f3230 := (hn3218 386 12 (by decide)).trans f3214
  clear hn3218 f3203 f3204 f3205 f3206 f3207 f3208 f3209 f3210 f3211 f3212 f3213 f3214 hv3201 hU3200 M3199
  refine w_lo dX9_clears_28 rfl rfl rfl rfl ?_
  refine w_gf dX9_clears_29 rfl hU3216.1 rfl ((hU3216).2 386 56 rfl |>.trans zq_386_56) ?_
  refine w_lo dX9_clears_32 rfl rfl rfl rfl ?_
  refine w_ic dX9_clears_33 zi_0 ?_
  refine w_is dX9_clears_34 hU3216 rfl (k := 0) zt_0 (Nat.le_of_ble_eq_true rfl) ?_
  intro M3231 hU3232 hv3233 hn3234
  have f3235 := (hn3234 395 11 (by decide)).trans f3219
  have f3236 := (hn3234 395 12 (by decide)).trans f3220
  have f3237 := (hn3234 395 13 (by decide)).trans f3221
  have f3238 := (hn3234 395 14 (by decide)).trans f3222
  have f3239 := (hn3234 395 15 (by decide)).trans f3223
  have f3240 := (hn3234 395 16 (by decide)).trans f3224
  have f3241 := (hn3234 395 17 (by decide)).trans f3225
  have f3242 := (hn3234 395 18 (by decide)).trans f3226
  have f3243 := (hn3234 395 19 (by decide)).trans f3227
  have f3244 := (hn3234 395 20 (by decide)).trans f3228
  have f3245 := (hn3234 395 21 (by decide)).trans f3229
  have f3246 := (hn3234 386 12 (by decide)).trans f3230
  clear hn3234 f3219 f3220 f3221 f3222 f3223 f3224 f3225 f3226 f3227 f3228 f3229 f3230 hv3217 hU3216 M3215
  refine w_lo dX9_clears_35 rfl rfl rfl rfl ?_
  refine w_gf dX9_clears_36 rfl hU3232.1 rfl ((hU3232).2 386 58 rfl |>.trans zq_386_58) ?_
  refine w_lo dX9_clears_39 rfl rfl rfl rfl ?_
  refine w_ic dX9_clears_40 zi_0 ?_
  refine w_is dX9_clears_41 hU3232 rfl (k := 0) zt_0 (Nat.le_of_ble_eq_true rfl) ?_
  intro M3247 hU3248 hv3249 hn3250
  have f3251 := (hn3250 395 11 (by decide)).trans f3235
  have f3252 := (hn3250 395 12 (by decide)).trans f3236
  have f3253 := (hn3250 395 13 (by decide)).trans f3237
  have f3254 := (hn3250 395 14 (by decide)).trans f3238
  have f3255 := (hn3250 395 15 (by decide)).trans f3239
  have f3256 := (hn3250 395 16 (by decide)).trans f3240
  have f3257 := (hn3250 395 17 (by decide)).trans f3241
  have f3258 := (hn3250 395 18 (by decide)).trans f3242
  have f3259 := (hn3250 395 19 (by decide)).trans f3243
  have f3260 := (hn3250 395 20 (by decide)).trans f3244
  have f3261 := (hn3250 395 21 (by decide)).trans f3245
  have f3262 := (hn3250 386 12 (by decide)).trans f3246
  clear hn3250 f3235 f3236 f3237 f3238 f3239 f3240 f3241 f3242 f3243 f3244 f3245 f3246 hv3233 hU3232 M3231
  refine w_lo dX9_clears_42 rfl rfl rfl rfl ?_
  refine w_gf dX9_clears_43 rfl hU3248.1 rfl ((hU3248).2 386 59 rfl |>.trans zq_386_59) ?_
  refine w_lo dX9_clears_46 rfl rfl rfl rfl ?_
  refine w_ic dX9_clears_47 zi_0 ?_
  refine w_is dX9_clears_48 hU3248 rfl (k := 0) zt_0 (Nat.le_of_ble_eq_true rfl) ?_
  intro M3263 hU3264 hv3265 hn3266
  have f3267 := (hn3266 395 11 (by decide)).trans f3251
  have f3268 := (hn3266 395 12 (by decide)).trans f3252
  have f3269 := (hn3266 395 13 (by decide)).trans f3253
  have f3270 := (hn3266 395 14 (by decide)).trans f3254
  have f3271 := (hn3266 395 15 (by decide)).trans f3255
  have f3272 := (hn3266 395 16 (by decide)).trans f3256
  have f3273 := (hn3266 395 17 (by decide)).trans f3257
  have f3274 := (hn3266 395 18 (by decide)).trans f3258
  have f3275 := (hn3266 395 19 (by decide)).trans f3259
  have f3276 := (hn3266 395 20 (by decide)).trans f3260
  have f3277 := (hn3266 395 21 (by decide)).trans f3261
  have f3278 := (hn3266 386 12 (by decide)).trans f3262
  clear hn3266 f3251 f3252 f3253 f3254 f3255 f3256 f3257 f3258 f3259 f3260 f3261 f3262 hv3249 hU3248 M3247
  refine w_en dX9_clears_49 rfl ?_
  show ZW _ 9 9 false none cX9_begins _ (58, [some (.ref 386), some (.int 0)], [], M3263)
  refine w_lo (ml' := [some (.ref 386), some (.int 1)]) dX9_begins_58 rfl rfl rfl rfl ?_
  refine w_gt dX9_begins_61 (t := 26) rfl ?_
  refine w_lo dX9_begins_26 rfl rfl rfl rfl ?_
  refine w_bi dX9_begins_27 (c := 12) (by decide) ?_
  refine w_cge_f dX9_begins_29 (t := 64) rfl (by decide) ?_
  refine w_lo dX9_begins_32 rfl rfl rfl rfl ?_
  refine w_gf dX9_begins_33 rfl hU3264.1 rfl ((hU3264).2 386 50 rfl |>.trans zq_386_50) ?_
  refine w_lo dX9_begins_36 rfl rfl rfl rfl ?_
  refine w_lo dX9_begins_37 rfl rfl rfl rfl ?_
  refine w_is dX9_begins_38 hU3264 rfl (k := 1) zt_1 (Nat.le_of_ble_eq_true rfl) ?_
  intro M3279 hU3280 hv3281 hn3282
  have f3283 := (hn3282 395 11 (by decide)).trans f3267
  have f3284 := (hn3282 395 12 (by decide)).trans f3268
  have f3285 := (hn3282 395 13 (by decide)).trans f3269
  have f3286 := (hn3282 395 14 (by decide)).trans f3270
  have f3287 := (hn3282 395 15 (by decide)).trans f3271
  have f3288 := (hn3282 395 16 (by decide)).trans f3272
  have f3289 := (hn3282 395 17 (by decide)).trans f3273
  have f3290 := (hn3282 395 18 (by decide)).trans f3274
  have f3291 := (hn3282 395 19 (by decide)).trans f3275
  have f3292 := (hn3282 395 20 (by decide)).trans f3276
  have f3293 := (hn3282 395 21 (by decide)).trans f3277
  have f3294 := (hn3282 386 12 (by decide)).trans f3278
  clear hn3282 f3267 f3268 f3269 f3270 f3271 f3272 f3273 f3274 f3275 f3276 f3277 f3278 hv3265 hU3264 M3263
  refine w_lo dX9_begins_39 rfl rfl rfl rfl ?_
  refine w_gf dX9_begins_40 rfl hU3280.1 rfl ((hU3280).2 386 51 rfl |>.trans zq_386_51) ?_
  refine w_lo dX9_begins_43 rfl rfl rfl rfl ?_
  refine w_ic dX9_begins_44 zi_1 ?_
  refine w_is dX9_begins_45 hU3280 rfl (k := 1) zt_1 (Nat.le_of_ble_eq_true rfl) ?_
  intro M3295 hU3296 hv3297 hn3298
  have f3299 := (hn3298 395 11 (by decide)).trans f3283
  have f3300 := (hn3298 395 12 (by decide)).trans f3284
  have f3301 := (hn3298 395 13 (by decide)).trans f3285
  have f3302 := (hn3298 395 14 (by decide)).trans f3286
  have f3303 := (hn3298 395 15 (by decide)).trans f3287
  have f3304 := (hn3298 395 16 (by decide)).trans f3288
  have f3305 := (hn3298 395 17 (by decide)).trans f3289
  have f3306 := (hn3298 395 18 (by decide)).trans f3290
  have f3307 := (hn3298 395 19 (by decide)).trans f3291
  have f3308 := (hn3298 395 20 (by decide)).trans f3292
  have f3309 := (hn3298 395 21 (by decide)).trans f3293
  have f3310 := (hn3298 386 12 (by decide)).trans f3294
  clear hn3298 f3283 f3284 f3285 f3286 f3287 f3288 f3289 f3290 f3291 f3292 f3293 f3294 hv3281 hU3280 M3279
  refine w_lo dX9_begins_46 rfl rfl rfl rfl ?_
  refine w_gf dX9_begins_47 rfl hU3296.1 rfl ((hU3296).2 386 57 rfl |>.trans zq_386_57) ?_
  refine w_lo dX9_begins_50 rfl rfl rfl rfl ?_
  refine w_ic dX9_begins_51 zi_0 ?_
  refine w_is dX9_begins_52 hU3296 rfl (k := 1) zt_1 (Nat.le_of_ble_eq_true rfl) ?_
  intro M3311 hU3312 hv3313 hn3314
  have f3315 := (hn3314 395 11 (by decide)).trans f3299
  have f3316 := (hn3314 395 12 (by decide)).trans f3300
  have f3317 := (hn3314 395 13 (by decide)).trans f3301
  have f3318 := (hn3314 395 14 (by decide)).trans f3302
  have f3319 := (hn3314 395 15 (by decide)).trans f3303
  have f3320 := (hn3314 395 16 (by decide)).trans f3304
  have f3321 := (hn3314 395 17 (by decide)).trans f3305
  have f3322 := (hn3314 395 18 (by decide)).trans f3306
  have f3323 := (hn3314 395 19 (by decide)).trans f3307
  have f3324 := (hn3314 395 20 (by decide)).trans f3308
  have f3325 := (hn3314 395 21 (by decide)).trans f3309
  have f3326 := (hn3314 386 12 (by decide)).trans f3310
  clear hn3314 f3299 f3300 f3301 f3302 f3303 f3304 f3305 f3306 f3307 f3308 f3309 f3310 hv3297 hU3296 M3295
  refine w_lo dX9_begins_53 rfl rfl rfl rfl ?_
  refine w_lo dX9_begins_54 rfl rfl rfl rfl ?_
  refine w_iv dX9_begins_55 rfl rfl (As := [.int 1]) rfl rfl hU3312.1 rfl (Nat.le_of_ble_eq_true rfl) ?_
  refine ZV.of (ini := false) rfl (Nat.le_of_ble_eq_true rfl) (by decide +kernel) ?_
  show ZW _ 8 9 false none cX9_clears _ (0, [some (.ref 386), some (.int 1)], [], M3311)
  refine w_lo dX9_clears_0 rfl rfl rfl rfl ?_
  refine w_gf dX9_clears_1 rfl hU3312.1 rfl ((hU3312).2 386 52 rfl |>.trans zq_386_52) ?_
  refine w_lo dX9_clears_4 rfl rfl rfl rfl ?_
  refine w_ic dX9_clears_5 zi_m1 ?_
  refine w_is dX9_clears_6 hU3312 rfl (k := 1) zt_1 (Nat.le_of_ble_eq_true rfl) ?_
  intro M3327 hU3328 hv3329 hn3330
  have f3331 := (hn3330 395 11 (by decide)).trans f3315
  have f3332 := (hn3330 395 12 (by decide)).trans f3316
  have f3333 := (hn3330 395 13 (by decide)).trans f3317
  have f3334 := (hn3330 395 14 (by decide)).trans f3318
  have f3335 := (hn3330 395 15 (by decide)).trans f3319
  have f3336 := (hn3330 395 16 (by decide)).trans f3320
  have f3337 := (hn3330 395 17 (by decide)).trans f3321
  have f3338 := (hn3330 395 18 (by decide)).trans f3322
  have f3339 := (hn3330 395 19 (by decide)).trans f3323
  have f3340 := (hn3330 395 20 (by decide)).trans f3324
  have f3341 := (hn3330 395 21 (by decide)).trans f3325
  have f3342 := (hn3330 386 12 (by decide)).trans f3326
  clear hn3330 f3315 f3316 f3317 f3318 f3319 f3320 f3321 f3322 f3323 f3324 f3325 f3326 hv3313 hU3312 M3311
  refine w_lo dX9_clears_7 rfl rfl rfl rfl ?_
  refine w_gf dX9_clears_8 rfl hU3328.1 rfl ((hU3328).2 386 53 rfl |>.trans zq_386_53) ?_
  refine w_lo dX9_clears_11 rfl rfl rfl rfl ?_
  refine w_ic dX9_clears_12 zi_0 ?_
  refine w_is dX9_clears_13 hU3328 rfl (k := 1) zt_1 (Nat.le_of_ble_eq_true rfl) ?_
  intro M3343 hU3344 hv3345 hn3346
  have f3347 := (hn3346 395 11 (by decide)).trans f3331
  have f3348 := (hn3346 395 12 (by decide)).trans f3332
  have f3349 := (hn3346 395 13 (by decide)).trans f3333
  have f3350 := (hn3346 395 14 (by decide)).trans f3334
  have f3351 := (hn3346 395 15 (by decide)).trans f3335
  have f3352 := (hn3346 395 16 (by decide)).trans f3336
  have f3353 := (hn3346 395 17 (by decide)).trans f3337
  have f3354 := (hn3346 395 18 (by decide)).trans f3338
  have f3355 := (hn3346 395 19 (by decide)).trans f3339
  have f3356 := (hn3346 395 20 (by decide)).trans f3340
  have f3357 := (hn3346 395 21 (by decide)).trans f3341
  have f3358 := (hn3346 386 12 (by decide)).trans f3342
  clear hn3346 f3331 f3332 f3333 f3334 f3335 f3336 f3337 f3338 f3339 f3340 f3341 f3342 hv3329 hU3328 M3327
  refine w_lo dX9_clears_14 rfl rfl rfl rfl ?_
  refine w_gf dX9_clears_15 rfl hU3344.1 rfl ((hU3344).2 386 54 rfl |>.trans zq_386_54) ?_
  refine w_lo dX9_clears_18 rfl rfl rfl rfl ?_
  refine w_ic dX9_clears_19 zi_m1 ?_
  refine w_is dX9_clears_20 hU3344 rfl (k := 1) zt_1 (Nat.le_of_ble_eq_true rfl) ?_
  intro M3359 hU3360 hv3361 hn3362
  have f3363 := (hn3362 395 11 (by decide)).trans f3347
  have f3364 := (hn3362 395 12 (by decide)).trans f3348
  have f3365 := (hn3362 395 13 (by decide)).trans f3349
  have f3366 := (hn3362 395 14 (by decide)).trans f3350
  have f3367 := (hn3362 395 15 (by decide)).trans f3351
  have f3368 := (hn3362 395 16 (by decide)).trans f3352
  have f3369 := (hn3362 395 17 (by decide)).trans f3353
  have f3370 := (hn3362 395 18 (by decide)).trans f3354
  have f3371 := (hn3362 395 19 (by decide)).trans f3355
  have f3372 := (hn3362 395 20 (by decide)).trans f3356
  have f3373 := (hn3362 395 21 (by decide)).trans f3357
  have f3374 := (hn3362 386 12 (by decide)).trans f3358
  clear hn3362 f3347 f3348 f3349 f3350 f3351 f3352 f3353 f3354 f3355 f3356 f3357 f3358 hv3345 hU3344 M3343
  refine w_lo dX9_clears_21 rfl rfl rfl rfl ?_
  refine w_gf dX9_clears_22 rfl hU3360.1 rfl ((hU3360).2 386 55 rfl |>.trans zq_386_55) ?_
  refine w_lo dX9_clears_25 rfl rfl rfl rfl ?_
  refine w_ic dX9_clears_26 zi_0 ?_
  refine w_is dX9_clears_27 hU3360 rfl (k := 1) zt_1 (Nat.le_of_ble_eq_true rfl) ?_
  intro M3375 hU3376 hv3377 hn3378
  have f3379 := (hn3378 395 11 (by decide)).trans f3363
  have f3380 := (hn3378 395 12 (by decide)).trans f3364
  have f3381 := (hn3378 395 13 (by decide)).trans f3365
  have f3382 := (hn3378 395 14 (by decide)).trans f3366
  have f3383 := (hn3378 395 15 (by decide)).trans f3367
  have f3384 := (hn3378 395 16 (by decide)).trans f3368
  have f3385 := (hn3378 395 17 (by decide)).trans f3369
  have f3386 := (hn3378 395 18 (by decide)).trans f3370
  have f3387 := (hn3378 395 19 (by decide)).trans f3371
  have f3388 := (hn3378 395 20 (by decide)).trans f3372
  have f3389 := (hn3378 395 21 (by decide)).trans f3373
  have f3390 := (hn3378 386 12 (by decide)).trans f3374
  clear hn3378 f3363 f3364 f3365 f3366 f3367 f3368 f3369 f3370 f3371 f3372 f3373 f3374 hv3361 hU3360 M3359
  refine w_lo dX9_clears_28 rfl rfl rfl rfl ?_
  refine w_gf dX9_clears_29 rfl hU3376.1 rfl ((hU3376).2 386 56 rfl |>.trans zq_386_56) ?_
  refine w_lo dX9_clears_32 rfl rfl rfl rfl ?_
  refine w_ic dX9_clears_33 zi_0 ?_
  refine w_is dX9_clears_34 hU3376 rfl (k := 1) zt_1 (Nat.le_of_ble_eq_true rfl) ?_
  intro M3391 hU3392 hv3393 hn3394
  have f3395 := (hn3394 395 11 (by decide)).trans f3379
  have f3396 := (hn3394 395 12 (by decide)).trans f3380
  have f3397 := (hn3394 395 13 (by decide)).trans f3381
  have f3398 := (hn3394 395 14 (by decide)).trans f3382
  have f3399 := (hn3394 395 15 (by decide)).trans f3383
  have f3400 := (hn3394 395 16 (by decide)).trans f3384
  have f3401 := (hn3394 395 17 (by decide)).trans f3385
  have f3402 := (hn3394 395 18 (by decide)).trans f3386
  have f3403 := (hn3394 395 19 (by decide)).trans f3387
  have f3404 := (hn3394 395 20 (by decide)).trans f3388
  have f3405 := (hn3394 395 21 (by decide)).trans f3389
  have f3406 := (hn3394 386 12 (by decide)).trans f3390
  clear hn3394 f3379 f3380 f3381 f3382 f3383 f3384 f3385 f3386 f3387 f3388 f3389 f3390 hv3377 hU3376 M3375
  refine w_lo dX9_clears_35 rfl rfl rfl rfl ?_
  refine w_gf dX9_clears_36 rfl hU3392.1 rfl ((hU3392).2 386 58 rfl |>.trans zq_386_58) ?_
  refine w_lo dX9_clears_39 rfl rfl rfl rfl ?_
  refine w_ic dX9_clears_40 zi_0 ?_
  refine w_is dX9_clears_41 hU3392 rfl (k := 1) zt_1 (Nat.le_of_ble_eq_true rfl) ?_
  intro M3407 hU3408 hv3409 hn3410
  have f3411 := (hn3410 395 11 (by decide)).trans f3395
  have f3412 := (hn3410 395 12 (by decide)).trans f3396
  have f3413 := (hn3410 395 13 (by decide)).trans f3397
  have f3414 := (hn3410 395 14 (by decide)).trans f3398
  have f3415 := (hn3410 395 15 (by decide)).trans f3399
  have f3416 := (hn3410 395 16 (by decide)).trans f3400
  have f3417 := (hn3410 395 17 (by decide)).trans f3401
  have f3418 := (hn3410 395 18 (by decide)).trans f3402
  have f3419 := (hn3410 395 19 (by decide)).trans f3403
  have f3420 := (hn3410 395 20 (by decide)).trans f3404
  have f3421 := (hn3410 395 21 (by decide)).trans f3405
  have f3422 := (hn3410 386 12 (by decide)).trans f3406
  clear hn3410 f3395 f3396 f3397 f3398 f3399 f3400 f3401 f3402 f3403 f3404 f3405 f3406 hv3393 hU3392 M3391
  refine w_lo dX9_clears_42 rfl rfl rfl rfl ?_
  refine w_gf dX9_clears_43 rfl hU3408.1 rfl ((hU3408).2 386 59 rfl |>.trans zq_386_59) ?_
  refine w_lo dX9_clears_46 rfl rfl rfl rfl ?_
  refine w_ic dX9_clears_47 zi_0 ?_
  refine w_is dX9_clears_48 hU3408 rfl (k := 1) zt_1 (Nat.le_of_ble_eq_true rfl) ?_
  intro M3423 hU3424 hv3425 hn3426
  have f3427 := (hn3426 395 11 (by decide)).trans f3411
  have f3428 := (hn3426 395 12 (by decide)).trans f3412
  have f3429 := (hn3426 395 13 (by decide)).trans f3413
  have f3430 := (hn3426 395 14 (by decide)).trans f3414
  have f3431 := (hn3426 395 15 (by decide)).trans f3415
  have f3432 := (hn3426 395 16 (by decide)).trans f3416
  have f3433 := (hn3426 395 17 (by decide)).trans f3417
  have f3434 := (hn3426 395 18 (by decide)).trans f3418
  have f3435 := (hn3426 395 19 (by decide)).trans f3419
  have f3436 := (hn3426 395 20 (by decide)).trans f3420
  have f3437 := (hn3426 395 21 (by decide)).trans f3421
  have f3438 := (hn3426 386 12 (by decide)).trans f3422
  clear hn3426 f3411 f3412 f3413 f3414 f3415 f3416 f3417 f3418 f3419 f3420 f3421 f3422 hv3409 hU3408 M3407
  refine w_en dX9_clears_49 rfl ?_
  show ZW _ 9 9 false none cX9_begins _ (58, [some (.ref 386), some (.int 1)], [], M3423)
  refine w_lo (ml' := [some (.ref 386), some (.int 2)]) dX9_begins_58 rfl rfl rfl rfl ?_
  refine w_gt dX9_begins_61 (t := 26) rfl ?_
  refine w_lo dX9_begins_26 rfl rfl rfl rfl ?_
  refine w_bi dX9_begins_27 (c := 12) (by decide) ?_
  refine w_cge_f dX9_begins_29 (t := 64) rfl (by decide) ?_
  refine w_lo dX9_begins_32 rfl rfl rfl rfl ?_
  refine w_gf dX9_begins_33 rfl hU3424.1 rfl ((hU3424).2 386 50 rfl |>.trans zq_386_50) ?_
  refine w_lo dX9_begins_36 rfl rfl rfl rfl ?_
  refine w_lo dX9_begins_37 rfl rfl rfl rfl ?_
  refine w_is dX9_begins_38 hU3424 rfl (k := 2) zt_2 (Nat.le_of_ble_eq_true rfl) ?_
  intro M3439 hU3440 hv3441 hn3442
  have f3443 := (hn3442 395 11 (by decide)).trans f3427
  have f3444 := (hn3442 395 12 (by decide)).trans f3428
  have f3445 := (hn3442 395 13 (by decide)).trans f3429
  have f3446 := (hn3442 395 14 (by decide)).trans f3430
  have f3447 := (hn3442 395 15 (by decide)).trans f3431
  have f3448 := (hn3442 395 16 (by decide)).trans f3432
  have f3449 := (hn3442 395 17 (by decide)).trans f3433
  have f3450 := (hn3442 395 18 (by decide)).trans f3434
  have f3451 := (hn3442 395 19 (by decide)).trans f3435
  have f3452 := (hn3442 395 20 (by decide)).trans f3436
  have f3453 := (hn3442 395 21 (by decide)).trans f3437
  have f3454 := (hn3442 386 12 (by decide)).trans f3438
  clear hn3442 f3427 f3428 f3429 f3430 f3431 f3432 f3433 f3434 f3435 f3436 f3437 f3438 hv3425 hU3424 M3423
  refine w_lo dX9_begins_39 rfl rfl rfl rfl ?_
  refine w_gf dX9_begins_40 rfl hU3440.1 rfl ((hU3440).2 386 51 rfl |>.trans zq_386_51) ?_
  refine w_lo dX9_begins_43 rfl rfl rfl rfl ?_
  refine w_ic dX9_begins_44 zi_1 ?_
  refine w_is dX9_begins_45 hU3440 rfl (k := 2) zt_2 (Nat.le_of_ble_eq_true rfl) ?_
  intro M3455 hU3456 hv3457 hn3458
  have f3459 := (hn3458 395 11 (by decide)).trans f3443
  have f3460 := (hn3458 395 12 (by decide)).trans f3444
  have f3461 := (hn3458 395 13 (by decide)).trans f3445
  have f3462 := (hn3458 395 14 (by decide)).trans f3446
  have f3463 := (hn3458 395 15 (by decide)).trans f3447
  have f3464 := (hn3458 395 16 (by decide)).trans f3448
  have f3465 := (hn3458 395 17 (by decide)).trans f3449
  have f3466 := (hn3458 395 18 (by decide)).trans f3450
  have f3467 := (hn3458 395 19 (by decide)).trans f3451
  have f3468 := (hn3458 395 20 (by decide)).trans f3452
  have f3469 := (hn3458 395 21 (by decide)).trans f3453
  have f3470 := (hn3458 386 12 (by decide)).trans f3454
  clear hn3458 f3443 f3444 f3445 f3446 f3447 f3448 f3449 f3450 f3451 f3452 f3453 f3454 hv3441 hU3440 M3439
  refine w_lo dX9_begins_46 rfl rfl rfl rfl ?_
  refine w_gf dX9_begins_47 rfl hU3456.1 rfl ((hU3456).2 386 57 rfl |>.trans zq_386_57) ?_
  refine w_lo dX9_begins_50 rfl rfl rfl rfl ?_
  refine w_ic dX9_begins_51 zi_0 ?_
  refine w_is dX9_begins_52 hU3456 rfl (k := 2) zt_2 (Nat.le_of_ble_eq_true rfl) ?_
  intro M3471 hU3472 hv3473 hn3474
  have f3475 := (hn3474 395 11 (by decide)).trans f3459
  have f3476 := (hn3474 395 12 (by decide)).trans f3460
  have f3477 := (hn3474 395 13 (by decide)).trans f3461
  have f3478 := (hn3474 395 14 (by decide)).trans f3462
  have f3479 := (hn3474 395 15 (by decide)).trans f3463
  have f3480 := (hn3474 395 16 (by decide)).trans f3464
  have f3481 := (hn3474 395 17 (by decide)).trans f3465
  have f3482 := (hn3474 395 18 (by decide)).trans f3466
  have f3483 := (hn3474 395 19 (by decide)).trans f3467
  have f3484 := (hn3474 395 20 (by decide)).trans f3468
  have f3485 := (hn3474 395 21 (by decide)).trans f3469
  have f3486 := (hn3474 386 12 (by decide)).trans f3470
  clear hn3474 f3459 f3460 f3461 f3462 f3463 f3464 f3465 f3466 f3467 f3468 f3469 f3470 hv3457 hU3456 M3455
  refine w_lo dX9_begins_53 rfl rfl rfl rfl ?_
  refine w_lo dX9_begins_54 rfl rfl rfl rfl ?_
  refine w_iv dX9_begins_55 rfl rfl (As := [.int 2]) rfl rfl hU3472.1 rfl (Nat.le_of_ble_eq_true rfl) ?_
  refine ZV.of (ini := false) rfl (Nat.le_of_ble_eq_true rfl) (by decide +kernel) ?_
  show ZW _ 8 9 false none cX9_clears _ (0, [some (.ref 386), some (.int 2)], [], M3471)
  refine w_lo dX9_clears_0 rfl rfl rfl rfl ?_
  refine w_gf dX9_clears_1 rfl hU3472.1 rfl ((hU3472).2 386 52 rfl |>.trans zq_386_52) ?_
  refine w_lo dX9_clears_4 rfl rfl rfl rfl ?_
  refine w_ic dX9_clears_5 zi_m1 ?_
  refine w_is dX9_clears_6 hU3472 rfl (k := 2) zt_2 (Nat.le_of_ble_eq_true rfl) ?_
  intro M3487 hU3488 hv3489 hn3490
  have f3491 := (hn3490 395 11 (by decide)).trans f3475
  have f3492 := (hn3490 395 12 (by decide)).trans f3476
  have f3493 := (hn3490 395 13 (by decide)).trans f3477
  have f3494 := (hn3490 395 14 (by decide)).trans f3478
  have f3495 := (hn3490 395 15 (by decide)).trans f3479
  have f3496 := (hn3490 395 16 (by decide)).trans f3480
  have f3497 := (hn3490 395 17 (by decide)).trans f3481
  have f3498 := (hn3490 395 18 (by decide)).trans f3482
  have f3499 := (hn3490 395 19 (by decide)).trans f3483
  have f3500 := (hn3490 395 20 (by decide)).trans f3484
  have f3501 := (hn3490 395 21 (by decide)).trans f3485
  have f3502 := (hn3490 386 12 (by decide)).trans f3486
  clear hn3490 f3475 f3476 f3477 f3478 f3479 f3480 f3481 f3482 f3483 f3484 f3485 f3486 hv3473 hU3472 M3471
  refine w_lo dX9_clears_7 rfl rfl rfl rfl ?_
  refine w_gf dX9_clears_8 rfl hU3488.1 rfl ((hU3488).2 386 53 rfl |>.trans zq_386_53) ?_
  refine w_lo dX9_clears_11 rfl rfl rfl rfl ?_
  refine w_ic dX9_clears_12 zi_0 ?_
  refine w_is dX9_clears_13 hU3488 rfl (k := 2) zt_2 (Nat.le_of_ble_eq_true rfl) ?_
  intro M3503 hU3504 hv3505 hn3506
  have f3507 := (hn3506 395 11 (by decide)).trans f3491
  have f3508 := (hn3506 395 12 (by decide)).trans f3492
  have f3509 := (hn3506 395 13 (by decide)).trans f3493
  have f3510 := (hn3506 395 14 (by decide)).trans f3494
  have f3511 := (hn3506 395 15 (by decide)).trans f3495
  have f3512 := (hn3506 395 16 (by decide)).trans f3496
  have f3513 := (hn3506 395 17 (by decide)).trans f3497
  have f3514 := (hn3506 395 18 (by decide)).trans f3498
  have f3515 := (hn3506 395 19 (by decide)).trans f3499
  have f3516 := (hn3506 395 20 (by decide)).trans f3500
  have f3517 := (hn3506 395 21 (by decide)).trans f3501
  have f3518 := (hn3506 386 12 (by decide)).trans f3502
  clear hn3506 f3491 f3492 f3493 f3494 f3495 f3496 f3497 f3498 f3499 f3500 f3501 f3502 hv3489 hU3488 M3487
  refine w_lo dX9_clears_14 rfl rfl rfl rfl ?_
  refine w_gf dX9_clears_15 rfl hU3504.1 rfl ((hU3504).2 386 54 rfl |>.trans zq_386_54) ?_
  refine w_lo dX9_clears_18 rfl rfl rfl rfl ?_
  refine w_ic dX9_clears_19 zi_m1 ?_
  refine w_is dX9_clears_20 hU3504 rfl (k := 2) zt_2 (Nat.le_of_ble_eq_true rfl) ?_
  intro M3519 hU3520 hv3521 hn3522
  have f3523 := (hn3522 395 11 (by decide)).trans f3507
  have f3524 := (hn3522 395 12 (by decide)).trans f3508
  have f3525 := (hn3522 395 13 (by decide)).trans f3509
  have f3526 := (hn3522 395 14 (by decide)).trans f3510
  have f3527 := (hn3522 395 15 (by decide)).trans f3511
  have f3528 := (hn3522 395 16 (by decide)).trans f3512
  have f3529 := (hn3522 395 17 (by decide)).trans f3513
  have f3530 := (hn3522 395 18 (by decide)).trans f3514
  have f3531 := (hn3522 395 19 (by decide)).trans f3515
  have f3532 := (hn3522 395 20 (by decide)).trans f3516
  have f3533 := (hn3522 395 21 (by decide)).trans f3517
  have f3534 := (hn3522 386 12 (by decide)).trans f3518
  clear hn3522 f3507 f3508 f3509 f3510 f3511 f3512 f3513 f3514 f3515 f3516 f3517 f3518 hv3505 hU3504 M3503
  refine w_lo dX9_clears_21 rfl rfl rfl rfl ?_
  refine w_gf dX9_clears_22 rfl hU3520.1 rfl ((hU3520).2 386 55 rfl |>.trans zq_386_55) ?_
  refine w_lo dX9_clears_25 rfl rfl rfl rfl ?_
  refine w_ic dX9_clears_26 zi_0 ?_
  refine w_is dX9_clears_27 hU3520 rfl (k := 2) zt_2 (Nat.le_of_ble_eq_true rfl) ?_
  intro M3535 hU3536 hv3537 hn3538
  have f3539 := (hn3538 395 11 (by decide)).trans f3523
  have f3540 := (hn3538 395 12 (by decide)).trans f3524
  have f3541 := (hn3538 395 13 (by decide)).trans f3525
  have f3542 := (hn3538 395 14 (by decide)).trans f3526
  have f3543 := (hn3538 395 15 (by decide)).trans f3527
  have f3544 := (hn3538 395 16 (by decide)).trans f3528
  have f3545 := (hn3538 395 17 (by decide)).trans f3529
  have f3546 := (hn3538 395 18 (by decide)).trans f3530
  have f3547 := (hn3538 395 19 (by decide)).trans f3531
  have f3548 := (hn3538 395 20 (by decide)).trans f3532
  have f3549 := (hn3538 395 21 (by decide)).trans f3533
  have f3550 := (hn3538 386 12 (by decide)).trans f3534
  clear hn3538 f3523 f3524 f3525 f3526 f3527 f3528 f3529 f3530 f3531 f3532 f3533 f3534 hv3521 hU3520 M3519
  refine w_lo dX9_clears_28 rfl rfl rfl rfl ?_
  refine w_gf dX9_clears_29 rfl hU3536.1 rfl ((hU3536).2 386 56 rfl |>.trans zq_386_56) ?_
  refine w_lo dX9_clears_32 rfl rfl rfl rfl ?_
  refine w_ic dX9_clears_33 zi_0 ?_
  refine w_is dX9_clears_34 hU3536 rfl (k := 2) zt_2 (Nat.le_of_ble_eq_true rfl) ?_
  intro M3551 hU3552 hv3553 hn3554
  have f3555 := (hn3554 395 11 (by decide)).trans f3539
  have f3556 := (hn3554 395 12 (by decide)).trans f3540
  have f3557 := (hn3554 395 13 (by decide)).trans f3541
  have f3558 := (hn3554 395 14 (by decide)).trans f3542
  have f3559 := (hn3554 395 15 (by decide)).trans f3543
  have f3560 := (hn3554 395 16 (by decide)).trans f3544
  have f3561 := (hn3554 395 17 (by decide)).trans f3545
  have f3562 := (hn3554 395 18 (by decide)).trans f3546
  have f3563 := (hn3554 395 19 (by decide)).trans f3547
  have f3564 := (hn3554 395 20 (by decide)).trans f3548
  have f3565 := (hn3554 395 21 (by decide)).trans f3549
  have f3566 := (hn3554 386 12 (by decide)).trans f3550
  clear hn3554 f3539 f3540 f3541 f3542 f3543 f3544 f3545 f3546 f3547 f3548 f3549 f3550 hv3537 hU3536 M3535
  refine w_lo dX9_clears_35 rfl rfl rfl rfl ?_
  refine w_gf dX9_clears_36 rfl hU3552.1 rfl ((hU3552).2 386 58 rfl |>.trans zq_386_58) ?_
  refine w_lo dX9_clears_39 rfl rfl rfl rfl ?_
  refine w_ic dX9_clears_40 zi_0 ?_
  refine w_is dX9_clears_41 hU3552 rfl (k := 2) zt_2 (Nat.le_of_ble_eq_true rfl) ?_
  intro M3567 hU3568 hv3569 hn3570
  have f3571 := (hn3570 395 11 (by decide)).trans f3555
  have f3572 := (hn3570 395 12 (by decide)).trans f3556
  have f3573 := (hn3570 395 13 (by decide)).trans f3557
  have f3574 := (hn3570 395 14 (by decide)).trans f3558
  have f3575 := (hn3570 395 15 (by decide)).trans f3559
  have f3576 := (hn3570 395 16 (by decide)).trans f3560
  have f3577 := (hn3570 395 17 (by decide)).trans f3561
  have f3578 := (hn3570 395 18 (by decide)).trans f3562
  have f3579 := (hn3570 395 19 (by decide)).trans f3563
  have f3580 := (hn3570 395 20 (by decide)).trans f3564
  have f3581 := (hn3570 395 21 (by decide)).trans f3565
  have f3582 := (hn3570 386 12 (by decide)).trans f3566
  clear hn3570 f3555 f3556 f3557 f3558 f3559 f3560 f3561 f3562 f3563 f3564 f3565 f3566 hv3553 hU3552 M3551
  refine w_lo dX9_clears_42 rfl rfl rfl rfl ?_
  refine w_gf dX9_clears_43 rfl hU3568.1 rfl ((hU3568).2 386 59 rfl |>.trans zq_386_59) ?_
  refine w_lo dX9_clears_46 rfl rfl rfl rfl ?_
  refine w_ic dX9_clears_47 zi_0 ?_
  refine w_is dX9_clears_48 hU3568 rfl (k := 2) zt_2 (Nat.le_of_ble_eq_true rfl) ?_
  intro M3583 hU3584 hv3585 hn3586
  have f3587 := (hn3586 395 11 (by decide)).trans f3571
  have f3588 := (hn3586 395 12 (by decide)).trans f3572
  have f3589 := (hn3586 395 13 (by decide)).trans f3573
  have f3590 := (hn3586 395 14 (by decide)).trans f3574
  have f3591 := (hn3586 395 15 (by decide)).trans f3575
  have f3592 := (hn3586 395 16 (by decide)).trans f3576
  have f3593 := (hn3586 395 17 (by decide)).trans f3577
  have f3594 := (hn3586 395 18 (by decide)).trans f3578
  have f3595 := (hn3586 395 19 (by decide)).trans f3579
  have f3596 := (hn3586 395 20 (by decide)).trans f3580
  have f3597 := (hn3586 395 21 (by decide)).trans f3581
  have f3598 := (hn3586 386 12 (by decide)).trans f3582
  clear hn3586 f3571 f3572 f3573 f3574 f3575 f3576 f3577 f3578 f3579 f3580 f3581 f3582 hv3569 hU3568 M3567
  refine w_en dX9_clears_49 rfl ?_
  show ZW _ 9 9 false none cX9_begins _ (58, [some (.ref 386), some (.int 2)], [], M3583)
  refine w_lo (ml' := [some (.ref 386), some (.int 3)]) dX9_begins_58 rfl rfl rfl rfl ?_
  refine w_gt dX9_begins_61 (t := 26) rfl ?_
  refine w_lo dX9_begins_26 rfl rfl rfl rfl ?_
  refine w_bi dX9_begins_27 (c := 12) (by decide) ?_
  refine w_cge_f dX9_begins_29 (t := 64) rfl (by decide) ?_
  refine w_lo dX9_begins_32 rfl rfl rfl rfl ?_
  refine w_gf dX9_begins_33 rfl hU3584.1 rfl ((hU3584).2 386 50 rfl |>.trans zq_386_50) ?_
  refine w_lo dX9_begins_36 rfl rfl rfl rfl ?_
  refine w_lo dX9_begins_37 rfl rfl rfl rfl ?_
  refine w_is dX9_begins_38 hU3584 rfl (k := 3) zt_3 (Nat.le_of_ble_eq_true rfl) ?_
  intro M3599 hU3600 hv3601 hn3602
  have f3603 := (hn3602 395 11 (by decide)).trans f3587
  have f3604 := (hn3602 395 12 (by decide)).trans f3588
  have f3605 := (hn3602 395 13 (by decide)).trans f3589
  have f3606 := (hn3602 395 14 (by decide)).trans f3590
  have f3607 := (hn3602 395 15 (by decide)).trans f3591
  have f3608 := (hn3602 395 16 (by decide)).trans f3592
  have f3609 := (hn3602 395 17 (by decide)).trans f3593
  have f3610 := (hn3602 395 18 (by decide)).trans f3594
  have f3611 := (hn3602 395 19 (by decide)).trans f3595
  have f3612 := (hn3602 395 20 (by decide)).trans f3596
  have f3613 := (hn3602 395 21 (by decide)).trans f3597
  have f3614 := (hn3602 386 12 (by decide)).trans f3598
  clear hn3602 f3587 f3588 f3589 f3590 f3591 f3592 f3593 f3594 f3595 f3596 f3597 f3598 hv3585 hU3584 M3583
  refine w_lo dX9_begins_39 rfl rfl rfl rfl ?_
  refine w_gf dX9_begins_40 rfl hU3600.1 rfl ((hU3600).2 386 51 rfl |>.trans zq_386_51) ?_
  refine w_lo dX9_begins_43 rfl rfl rfl rfl ?_
  refine w_ic dX9_begins_44 zi_1 ?_
  refine w_is dX9_begins_45 hU3600 rfl (k := 3) zt_3 (Nat.le_of_ble_eq_true rfl) ?_
  intro M3615 hU3616 hv3617 hn3618
  have f3619 := (hn3618 395 11 (by decide)).trans f3603
  have f3620 := (hn3618 395 12 (by decide)).trans f3604
  have f3621 := (hn3618 395 13 (by decide)).trans f3605
  have f3622 := (hn3618 395 14 (by decide)).trans f3606
  have f3623 := (hn3618 395 15 (by decide)).trans f3607
  have f3624 := (hn3618 395 16 (by decide)).trans f3608
  have f3625 := (hn3618 395 17 (by decide)).trans f3609
  have f3626 := (hn3618 395 18 (by decide)).trans f3610
  have f3627 := (hn3618 395 19 (by decide)).trans f3611
  have f3628 := (hn3618 395 20 (by decide)).trans f3612
  have f3629 := (hn3618 395 21 (by decide)).trans f3613
  have f3630 := (hn3618 386 12 (by decide)).trans f3614
  clear hn3618 f3603 f3604 f3605 f3606 f3607 f3608 f3609 f3610 f3611 f3612 f3613 f3614 hv3601 hU3600 M3599
  refine w_lo dX9_begins_46 rfl rfl rfl rfl ?_
  refine w_gf dX9_begins_47 rfl hU3616.1 rfl ((hU3616).2 386 57 rfl |>.trans zq_386_57) ?_
  refine w_lo dX9_begins_50 rfl rfl rfl rfl ?_
  refine w_ic dX9_begins_51 zi_0 ?_
  refine w_is dX9_begins_52 hU3616 rfl (k := 3) zt_3 (Nat.le_of_ble_eq_true rfl) ?_
  intro M3631 hU3632 hv3633 hn3634
  have f3635 := (hn3634 395 11 (by decide)).trans f3619
  have f3636 := (hn3634 395 12 (by decide)).trans f3620
  have f3637 := (hn3634 395 13 (by decide)).trans f3621
  have f3638 := (hn3634 395 14 (by decide)).trans f3622
  have f3639 := (hn3634 395 15 (by decide)).trans f3623
  have f3640 := (hn3634 395 16 (by decide)).trans f3624
  have f3641 := (hn3634 395 17 (by decide)).trans f3625
  have f3642 := (hn3634 395 18 (by decide)).trans f3626
  have f3643 := (hn3634 395 19 (by decide)).trans f3627
  have f3644 := (hn3634 395 20 (by decide)).trans f3628
  have f3645 := (hn3634 395 21 (by decide)).trans f3629
  have f3646 := (hn3634 386 12 (by decide)).trans f3630
  clear hn3634 f3619 f3620 f3621 f3622 f3623 f3624 f3625 f3626 f3627 f3628 f3629 f3630 hv3617 hU3616 M3615
  refine w_lo dX9_begins_53 rfl rfl rfl rfl ?_
  refine w_lo dX9_begins_54 rfl rfl rfl rfl ?_
  refine w_iv dX9_begins_55 rfl rfl (As := [.int 3]) rfl rfl hU3632.1 rfl (Nat.le_of_ble_eq_true rfl) ?_
  refine ZV.of (ini := false) rfl (Nat.le_of_ble_eq_true rfl) (by decide +kernel) ?_
  show ZW _ 8 9 false none cX9_clears _ (0, [some (.ref 386), some (.int 3)], [], M3631)
  refine w_lo dX9_clears_0 rfl rfl rfl rfl ?_
  refine w_gf dX9_clears_1 rfl hU3632.1 rfl ((hU3632).2 386 52 rfl |>.trans zq_386_52) ?_
  refine w_lo dX9_clears_4 rfl rfl rfl rfl ?_
  refine w_ic dX9_clears_5 zi_m1 ?_
  refine w_is dX9_clears_6 hU3632 rfl (k := 3) zt_3 (Nat.le_of_ble_eq_true rfl) ?_
  intro M3647 hU3648 hv3649 hn3650
  have f3651 := (hn3650 395 11 (by decide)).trans f3635
  have f3652 := (hn3650 395 12 (by decide)).trans f3636
  have f3653 := (hn3650 395 13 (by decide)).trans f3637
  have f3654 := (hn3650 395 14 (by decide)).trans f3638
  have f3655 := (hn3650 395 15 (by decide)).trans f3639
  have f3656 := (hn3650 395 16 (by decide)).trans f3640
  have f3657 := (hn3650 395 17 (by decide)).trans f3641
  have f3658 := (hn3650 395 18 (by decide)).trans f3642
  have f3659 := (hn3650 395 19 (by decide)).trans f3643
  have f3660 := (hn3650 395 20 (by decide)).trans f3644
  have f3661 := (hn3650 395 21 (by decide)).trans f3645
  have f3662 := (hn3650 386 12 (by decide)).trans f3646
  clear hn3650 f3635 f3636 f3637 f3638 f3639 f3640 f3641 f3642 f3643 f3644 f3645 f3646 hv3633 hU3632 M3631
  refine w_lo dX9_clears_7 rfl rfl rfl rfl ?_
  refine w_gf dX9_clears_8 rfl hU3648.1 rfl ((hU3648).2 386 53 rfl |>.trans zq_386_53) ?_
  refine w_lo dX9_clears_11 rfl rfl rfl rfl ?_
  refine w_ic dX9_clears_12 zi_0 ?_
  refine w_is dX9_clears_13 hU3648 rfl (k := 3) zt_3 (Nat.le_of_ble_eq_true rfl) ?_
  intro M3663 hU3664 hv3665 hn3666
  have f3667 := (hn3666 395 11 (by decide)).trans f3651
  have f3668 := (hn3666 395 12 (by decide)).trans f3652
  have f3669 := (hn3666 395 13 (by decide)).trans f3653
  have f3670 := (hn3666 395 14 (by decide)).trans f3654
  have f3671 := (hn3666 395 15 (by decide)).trans f3655
  have f3672 := (hn3666 395 16 (by decide)).trans f3656
  have f3673 := (hn3666 395 17 (by decide)).trans f3657
  have f3674 := (hn3666 395 18 (by decide)).trans f3658
  have f3675 := (hn3666 395 19 (by decide)).trans f3659
  have f3676 := (hn3666 395 20 (by decide)).trans f3660
  have f3677 := (hn3666 395 21 (by decide)).trans f3661
  have f3678 := (hn3666 386 12 (by decide)).trans f3662
  clear hn3666 f3651 f3652 f3653 f3654 f3655 f3656 f3657 f3658 f3659 f3660 f3661 f3662 hv3649 hU3648 M3647
  refine w_lo dX9_clears_14 rfl rfl rfl rfl ?_
  refine w_gf dX9_clears_15 rfl hU3664.1 rfl ((hU3664).2 386 54 rfl |>.trans zq_386_54) ?_
  refine w_lo dX9_clears_18 rfl rfl rfl rfl ?_
  refine w_ic dX9_clears_19 zi_m1 ?_
  refine w_is dX9_clears_20 hU3664 rfl (k := 3) zt_3 (Nat.le_of_ble_eq_true rfl) ?_
  intro M3679 hU3680 hv3681 hn3682
  have f3683 := (hn3682 395 11 (by decide)).trans f3667
  have f3684 := (hn3682 395 12 (by decide)).trans f3668
  have f3685 := (hn3682 395 13 (by decide)).trans f3669
  have f3686 := (hn3682 395 14 (by decide)).trans f3670
  have f3687 := (hn3682 395 15 (by decide)).trans f3671
  have f3688 := (hn3682 395 16 (by decide)).trans f3672
  have f3689 := (hn3682 395 17 (by decide)).trans f3673
  have f3690 := (hn3682 395 18 (by decide)).trans f3674
  have f3691 := (hn3682 395 19 (by decide)).trans f3675
  have f3692 := (hn3682 395 20 (by decide)).trans f3676
  have f3693 := (hn3682 395 21 (by decide)).trans f3677
  have f3694 := (hn3682 386 12 (by decide)).trans f3678
  clear hn3682 f3667 f3668 f3669 f3670 f3671 f3672 f3673 f3674 f3675 f3676 f3677 f3678 hv3665 hU3664 M3663
  refine w_lo dX9_clears_21 rfl rfl rfl rfl ?_
  refine w_gf dX9_clears_22 rfl hU3680.1 rfl ((hU3680).2 386 55 rfl |>.trans zq_386_55) ?_
  refine w_lo dX9_clears_25 rfl rfl rfl rfl ?_
  refine w_ic dX9_clears_26 zi_0 ?_
  refine w_is dX9_clears_27 hU3680 rfl (k := 3) zt_3 (Nat.le_of_ble_eq_true rfl) ?_
  intro M3695 hU3696 hv3697 hn3698
  have f3699 := (hn3698 395 11 (by decide)).trans f3683
  have f3700 := (hn3698 395 12 (by decide)).trans f3684
  have f3701 := (hn3698 395 13 (by decide)).trans f3685
  have f3702 := (hn3698 395 14 (by decide)).trans f3686
  have f3703 := (hn3698 395 15 (by decide)).trans f3687
  have f3704 := (hn3698 395 16 (by decide)).trans f3688
  have f3705 := (hn3698 395 17 (by decide)).trans f3689
  have f3706 := (hn3698 395 18 (by decide)).trans f3690
  have f3707 := (hn3698 395 19 (by decide)).trans f3691
  have f3708 := (hn3698 395 20 (by decide)).trans f3692
  have f3709 := (hn3698 395 21 (by decide)).trans f3693
  have f3710 := (hn3698 386 12 (by decide)).trans f3694
  clear hn3698 f3683 f3684 f3685 f3686 f3687 f3688 f3689 f3690 f3691 f3692 f3693 f3694 hv3681 hU3680 M3679
  refine w_lo dX9_clears_28 rfl rfl rfl rfl ?_
  refine w_gf dX9_clears_29 rfl hU3696.1 rfl ((hU3696).2 386 56 rfl |>.trans zq_386_56) ?_
  refine w_lo dX9_clears_32 rfl rfl rfl rfl ?_
  refine w_ic dX9_clears_33 zi_0 ?_
  refine w_is dX9_clears_34 hU3696 rfl (k := 3) zt_3 (Nat.le_of_ble_eq_true rfl) ?_
  intro M3711 hU3712 hv3713 hn3714
  have f3715 := (hn3714 395 11 (by decide)).trans f3699
  have f3716 := (hn3714 395 12 (by decide)).trans f3700
  have f3717 := (hn3714 395 13 (by decide)).trans f3701
  have f3718 := (hn3714 395 14 (by decide)).trans f3702
  have f3719 := (hn3714 395 15 (by decide)).trans f3703
  have f3720 := (hn3714 395 16 (by decide)).trans f3704
  have f3721 := (hn3714 395 17 (by decide)).trans f3705
  have f3722 := (hn3714 395 18 (by decide)).trans f3706
  have f3723 := (hn3714 395 19 (by decide)).trans f3707
  have f3724 := (hn3714 395 20 (by decide)).trans f3708
  have f3725 := (hn3714 395 21 (by decide)).trans f3709
  have f3726 := (hn3714 386 12 (by decide)).trans f3710
  clear hn3714 f3699 f3700 f3701 f3702 f3703 f3704 f3705 f3706 f3707 f3708 f3709 f3710 hv3697 hU3696 M3695
  refine w_lo dX9_clears_35 rfl rfl rfl rfl ?_
  refine w_gf dX9_clears_36 rfl hU3712.1 rfl ((hU3712).2 386 58 rfl |>.trans zq_386_58) ?_
  refine w_lo dX9_clears_39 rfl rfl rfl rfl ?_
  refine w_ic dX9_clears_40 zi_0 ?_
  refine w_is dX9_clears_41 hU3712 rfl (k := 3) zt_3 (Nat.le_of_ble_eq_true rfl) ?_
  intro M3727 hU3728 hv3729 hn3730
  have f3731 := (hn3730 395 11 (by decide)).trans f3715
  have f3732 := (hn3730 395 12 (by decide)).trans f3716
  have f3733 := (hn3730 395 13 (by decide)).trans f3717
  have f3734 := (hn3730 395 14 (by decide)).trans f3718
  have f3735 := (hn3730 395 15 (by decide)).trans f3719
  have f3736 := (hn3730 395 16 (by decide)).trans f3720
  have f3737 := (hn3730 395 17 (by decide)).trans f3721
  have f3738 := (hn3730 395 18 (by decide)).trans f3722
  have f3739 := (hn3730 395 19 (by decide)).trans f3723
  have f3740 := (hn3730 395 20 (by decide)).trans f3724
  have f3741 := (hn3730 395 21 (by decide)).trans f3725
  have f3742 := (hn3730 386 12 (by decide)).trans f3726
  clear hn3730 f3715 f3716 f3717 f3718 f3719 f3720 f3721 f3722 f3723 f3724 f3725 f3726 hv3713 hU3712 M3711
  refine w_lo dX9_clears_42 rfl rfl rfl rfl ?_
  refine w_gf dX9_clears_43 rfl hU3728.1 rfl ((hU3728).2 386 59 rfl |>.trans zq_386_59) ?_
  refine w_lo dX9_clears_46 rfl rfl rfl rfl ?_
  refine w_ic dX9_clears_47 zi_0 ?_
  refine w_is dX9_clears_48 hU3728 rfl (k := 3) zt_3 (Nat.le_of_ble_eq_true rfl) ?_
  intro M3743 hU3744 hv3745 hn3746
  have f3747 := (hn3746 395 11 (by decide)).trans f3731
  have f3748 := (hn3746 395 12 (by decide)).trans f3732
  have f3749 := (hn3746 395 13 (by decide)).trans f3733
  have f3750 := (hn3746 395 14 (by decide)).trans f3734
  have f3751 := (hn3746 395 15 (by decide)).trans f3735
  have f3752 := (hn3746 395 16 (by decide)).trans f3736
  have f3753 := (hn3746 395 17 (by decide)).trans f3737
  have f3754 := (hn3746 395 18 (by decide)).trans f3738
  have f3755 := (hn3746 395 19 (by decide)).trans f3739
  have f3756 := (hn3746 395 20 (by decide)).trans f3740
  have f3757 := (hn3746 395 21 (by decide)).trans f3741
  have f3758 := (hn3746 386 12 (by decide)).trans f3742
  clear hn3746 f3731 f3732 f3733 f3734 f3735 f3736 f3737 f3738 f3739 f3740 f3741 f3742 hv3729 hU3728 M3727
  refine w_en dX9_clears_49 rfl ?_
  show ZW _ 9 9 false none cX9_begins _ (58, [some (.ref 386), some (.int 3)], [], M3743)
  refine w_lo (ml' := [some (.ref 386), some (.int 4)]) dX9_begins_58 rfl rfl rfl rfl ?_
  refine w_gt dX9_begins_61 (t := 26) rfl ?_
  refine w_lo dX9_begins_26 rfl rfl rfl rfl ?_
  refine w_bi dX9_begins_27 (c := 12) (by decide) ?_
  refine w_cge_f dX9_begins_29 (t := 64) rfl (by decide) ?_
  refine w_lo dX9_begins_32 rfl rfl rfl rfl ?_
  refine w_gf dX9_begins_33 rfl hU3744.1 rfl ((hU3744).2 386 50 rfl |>.trans zq_386_50) ?_
  refine w_lo dX9_begins_36 rfl rfl rfl rfl ?_
  refine w_lo dX9_begins_37 rfl rfl rfl rfl ?_
  refine w_is dX9_begins_38 hU3744 rfl (k := 4) zt_4 (Nat.le_of_ble_eq_true rfl) ?_
  intro M3759 hU3760 hv3761 hn3762
  have f3763 := (hn3762 395 11 (by decide)).trans f3747
  have f3764 := (hn3762 395 12 (by decide)).trans f3748
  have f3765 := (hn3762 395 13 (by decide)).trans f3749
  have f3766 := (hn3762 395 14 (by decide)).trans f3750
  have f3767 := (hn3762 395 15 (by decide)).trans f3751
  have f3768 := (hn3762 395 16 (by decide)).trans f3752
  have f3769 := (hn3762 395 17 (by decide)).trans f3753
  have f3770 := (hn3762 395 18 (by decide)).trans f3754
  have f3771 := (hn3762 395 19 (by decide)).trans f3755
  have f3772 := (hn3762 395 20 (by decide)).trans f3756
  have f3773 := (hn3762 395 21 (by decide)).trans f3757
  have f3774 := (hn3762 386 12 (by decide)).trans f3758
  clear hn3762 f3747 f3748 f3749 f3750 f3751 f3752 f3753 f3754 f3755 f3756 f3757 f3758 hv3745 hU3744 M3743
  refine w_lo dX9_begins_39 rfl rfl rfl rfl ?_
  refine w_gf dX9_begins_40 rfl hU3760.1 rfl ((hU3760).2 386 51 rfl |>.trans zq_386_51) ?_
  refine w_lo dX9_begins_43 rfl rfl rfl rfl ?_
  refine w_ic dX9_begins_44 zi_1 ?_
  refine w_is dX9_begins_45 hU3760 rfl (k := 4) zt_4 (Nat.le_of_ble_eq_true rfl) ?_
  intro M3775 hU3776 hv3777 hn3778
  have f3779 := (hn3778 395 11 (by decide)).trans f3763
  have f3780 := (hn3778 395 12 (by decide)).trans f3764
  have f3781 := (hn3778 395 13 (by decide)).trans f3765
  have f3782 := (hn3778 395 14 (by decide)).trans f3766
  have f3783 := (hn3778 395 15 (by decide)).trans f3767
  have f3784 := (hn3778 395 16 (by decide)).trans f3768
  have f3785 := (hn3778 395 17 (by decide)).trans f3769
  have f3786 := (hn3778 395 18 (by decide)).trans f3770
  have f3787 := (hn3778 395 19 (by decide)).trans f3771
  have f3788 := (hn3778 395 20 (by decide)).trans f3772
  have f3789 := (hn3778 395 21 (by decide)).trans f3773
  have f3790 := (hn3778 386 12 (by decide)).trans f3774
  clear hn3778 f3763 f3764 f3765 f3766 f3767 f3768 f3769 f3770 f3771 f3772 f3773 f3774 hv3761 hU3760 M3759
  refine w_lo dX9_begins_46 rfl rfl rfl rfl ?_
  refine w_gf dX9_begins_47 rfl hU3776.1 rfl ((hU3776).2 386 57 rfl |>.trans zq_386_57) ?_
  refine w_lo dX9_begins_50 rfl rfl rfl rfl ?_
  refine w_ic dX9_begins_51 zi_0 ?_
  refine w_is dX9_begins_52 hU3776 rfl (k := 4) zt_4 (Nat.le_of_ble_eq_true rfl) ?_
  intro M3791 hU3792 hv3793 hn3794
  have f3795 := (hn3794 395 11 (by decide)).trans f3779
  have f3796 := (hn3794 395 12 (by decide)).trans f3780
  have f3797 := (hn3794 395 13 (by decide)).trans f3781
  have f3798 := (hn3794 395 14 (by decide)).trans f3782
  have f3799 := (hn3794 395 15 (by decide)).trans f3783
  have f3800 := (hn3794 395 16 (by decide)).trans f3784
  have f3801 := (hn3794 395 17 (by decide)).trans f3785
  have f3802 := (hn3794 395 18 (by decide)).trans f3786
  have f3803 := (hn3794 395 19 (by decide)).trans f3787
  have f3804 := (hn3794 395 20 (by decide)).trans f3788
  have f3805 := (hn3794 395 21 (by decide)).trans f3789
  have f3806 := (hn3794 386 12 (by decide)).trans f3790
  clear hn3794 f3779 f3780 f3781 f3782 f3783 f3784 f3785 f3786 f3787 f3788 f3789 f3790 hv3777 hU3776 M3775
  refine w_lo dX9_begins_53 rfl rfl rfl rfl ?_
  refine w_lo dX9_begins_54 rfl rfl rfl rfl ?_
  refine w_iv dX9_begins_55 rfl rfl (As := [.int 4]) rfl rfl hU3792.1 rfl (Nat.le_of_ble_eq_true rfl) ?_
  refine ZV.of (ini := false) rfl (Nat.le_of_ble_eq_true rfl) (by decide +kernel) ?_
  show ZW _ 8 9 false none cX9_clears _ (0, [some (.ref 386), some (.int 4)], [], M3791)
  refine w_lo dX9_clears_0 rfl rfl rfl rfl ?_
  refine w_gf dX9_clears_1 rfl hU3792.1 rfl ((hU3792).2 386 52 rfl |>.trans zq_386_52) ?_
  refine w_lo dX9_clears_4 rfl rfl rfl rfl ?_
  refine w_ic dX9_clears_5 zi_m1 ?_
  refine w_is dX9_clears_6 hU3792 rfl (k := 4) zt_4 (Nat.le_of_ble_eq_true rfl) ?_
  intro M3807 hU3808 hv3809 hn3810
  have f3811 := (hn3810 395 11 (by decide)).trans f3795
  have f3812 := (hn3810 395 12 (by decide)).trans f3796
  have f3813 := (hn3810 395 13 (by decide)).trans f3797
  have f3814 := (hn3810 395 14 (by decide)).trans f3798
  have f3815 := (hn3810 395 15 (by decide)).trans f3799
  have f3816 := (hn3810 395 16 (by decide)).trans f3800
  have f3817 := (hn3810 395 17 (by decide)).trans f3801
  have f3818 := (hn3810 395 18 (by decide)).trans f3802
  have f3819 := (hn3810 395 19 (by decide)).trans f3803
  have f3820 := (hn3810 395 20 (by decide)).trans f3804
  have f3821 := (hn3810 395 21 (by decide)).trans f3805
  have f3822 := (hn3810 386 12 (by decide)).trans f3806
  clear hn3810 f3795 f3796 f3797 f3798 f3799 f3800 f3801 f3802 f3803 f3804 f3805 f3806 hv3793 hU3792 M3791
  refine w_lo dX9_clears_7 rfl rfl rfl rfl ?_
  refine w_gf dX9_clears_8 rfl hU3808.1 rfl ((hU3808).2 386 53 rfl |>.trans zq_386_53) ?_
  refine w_lo dX9_clears_11 rfl rfl rfl rfl ?_
  refine w_ic dX9_clears_12 zi_0 ?_
  refine w_is dX9_clears_13 hU3808 rfl (k := 4) zt_4 (Nat.le_of_ble_eq_true rfl) ?_
  intro M3823 hU3824 hv3825 hn3826
  have f3827 := (hn3826 395 11 (by decide)).trans f3811
  have f3828 := (hn3826 395 12 (by decide)).trans f3812
  have f3829 := (hn3826 395 13 (by decide)).trans f3813
  have f3830 := (hn3826 395 14 (by decide)).trans f3814
  have f3831 := (hn3826 395 15 (by decide)).trans f3815
  have f3832 := (hn3826 395 16 (by decide)).trans f3816
  have f3833 := (hn3826 395 17 (by decide)).trans f3817
  have f3834 := (hn3826 395 18 (by decide)).trans f3818
  have f3835 := (hn3826 395 19 (by decide)).trans f3819
  have f3836 := (hn3826 395 20 (by decide)).trans f3820
  have f3837 := (hn3826 395 21 (by decide)).trans f3821
  have f3838 := (hn3826 386 12 (by decide)).trans f3822
  clear hn3826 f3811 f3812 f3813 f3814 f3815 f3816 f3817 f3818 f3819 f3820 f3821 f3822 hv3809 hU3808 M3807
  refine w_lo dX9_clears_14 rfl rfl rfl rfl ?_
  refine w_gf dX9_clears_15 rfl hU3824.1 rfl ((hU3824).2 386 54 rfl |>.trans zq_386_54) ?_
  refine w_lo dX9_clears_18 rfl rfl rfl rfl ?_
  refine w_ic dX9_clears_19 zi_m1 ?_
  refine w_is dX9_clears_20 hU3824 rfl (k := 4) zt_4 (Nat.le_of_ble_eq_true rfl) ?_
  intro M3839 hU3840 hv3841 hn3842
  have f3843 := (hn3842 395 11 (by decide)).trans f3827
  have f3844 := (hn3842 395 12 (by decide)).trans f3828
  have f3845 := (hn3842 395 13 (by decide)).trans f3829
  have f3846 := (hn3842 395 14 (by decide)).trans f3830
  have f3847 := (hn3842 395 15 (by decide)).trans f3831
  have f3848 := (hn3842 395 16 (by decide)).trans f3832
  have f3849 := (hn3842 395 17 (by decide)).trans f3833
  have f3850 := (hn3842 395 18 (by decide)).trans f3834
  have f3851 := (hn3842 395 19 (by decide)).trans f3835
  have f3852 := (hn3842 395 20 (by decide)).trans f3836
  have f3853 := (hn3842 395 21 (by decide)).trans f3837
  have f3854 := (hn3842 386 12 (by decide)).trans f3838
  clear hn3842 f3827 f3828 f3829 f3830 f3831 f3832 f3833 f3834 f3835 f3836 f3837 f3838 hv3825 hU3824 M3823
  refine w_lo dX9_clears_21 rfl rfl rfl rfl ?_
  refine w_gf dX9_clears_22 rfl hU3840.1 rfl ((hU3840).2 386 55 rfl |>.trans zq_386_55) ?_
  refine w_lo dX9_clears_25 rfl rfl rfl rfl ?_
  refine w_ic dX9_clears_26 zi_0 ?_
  refine w_is dX9_clears_27 hU3840 rfl (k := 4) zt_4 (Nat.le_of_ble_eq_true rfl) ?_
  intro M3855 hU3856 hv3857 hn3858
  have f3859 := (hn3858 395 11 (by decide)).trans f3843
  have f3860 := (hn3858 395 12 (by decide)).trans f3844
  have f3861 := (hn3858 395 13 (by decide)).trans f3845
  have f3862 := (hn3858 395 14 (by decide)).trans f3846
  have f3863 := (hn3858 395 15 (by decide)).trans f3847
  have f3864 := (hn3858 395 16 (by decide)).trans f3848
  have f3865 := (hn3858 395 17 (by decide)).trans f3849
  have f3866 := (hn3858 395 18 (by decide)).trans f3850
  have f3867 := (hn3858 395 19 (by decide)).trans f3851
  have f3868 := (hn3858 395 20 (by decide)).trans f3852
  have f3869 := (hn3858 395 21 (by decide)).trans f3853
  have f3870 := (hn3858 386 12 (by decide)).trans f3854
  clear hn3858 f3843 f3844 f3845 f3846 f3847 f3848 f3849 f3850 f3851 f3852 f3853 f3854 hv3841 hU3840 M3839
  refine w_lo dX9_clears_28 rfl rfl rfl rfl ?_
  refine w_gf dX9_clears_29 rfl hU3856.1 rfl ((hU3856).2 386 56 rfl |>.trans zq_386_56) ?_
  refine w_lo dX9_clears_32 rfl rfl rfl rfl ?_
  refine w_ic dX9_clears_33 zi_0 ?_
  refine w_is dX9_clears_34 hU3856 rfl (k := 4) zt_4 (Nat.le_of_ble_eq_true rfl) ?_
  intro M3871 hU3872 hv3873 hn3874
  have f3875 := (hn3874 395 11 (by decide)).trans f3859
  have f3876 := (hn3874 395 12 (by decide)).trans f3860
  have f3877 := (hn3874 395 13 (by decide)).trans f3861
  have f3878 := (hn3874 395 14 (by decide)).trans f3862
  have f3879 := (hn3874 395 15 (by decide)).trans f3863
  have f3880 := (hn3874 395 16 (by decide)).trans f3864
  have f3881 := (hn3874 395 17 (by decide)).trans f3865
  have f3882 := (hn3874 395 18 (by decide)).trans f3866
  have f3883 := (hn3874 395 19 (by decide)).trans f3867
  have f3884 := (hn3874 395 20 (by decide)).trans f3868
  have f3885 := (hn3874 395 21 (by decide)).trans f3869
  have f3886 := (hn3874 386 12 (by decide)).trans f3870
  clear hn3874 f3859 f3860 f3861 f3862 f3863 f3864 f3865 f3866 f3867 f3868 f3869 f3870 hv3857 hU3856 M3855
  refine w_lo dX9_clears_35 rfl rfl rfl rfl ?_
  refine w_gf dX9_clears_36 rfl hU3872.1 rfl ((hU3872).2 386 58 rfl |>.trans zq_386_58) ?_
  refine w_lo dX9_clears_39 rfl rfl rfl rfl ?_
  refine w_ic dX9_clears_40 zi_0 ?_
  refine w_is dX9_clears_41 hU3872 rfl (k := 4) zt_4 (Nat.le_of_ble_eq_true rfl) ?_
  intro M3887 hU3888 hv3889 hn3890
  have f3891 := (hn3890 395 11 (by decide)).trans f3875
  have f3892 := (hn3890 395 12 (by decide)).trans f3876
  have f3893 := (hn3890 395 13 (by decide)).trans f3877
  have f3894 := (hn3890 395 14 (by decide)).trans f3878
  have f3895 := (hn3890 395 15 (by decide)).trans f3879
  have f3896 := (hn3890 395 16 (by decide)).trans f3880
  have f3897 := (hn3890 395 17 (by decide)).trans f3881
  have f3898 := (hn3890 395 18 (by decide)).trans f3882
  have f3899 := (hn3890 395 19 (by decide)).trans f3883
  have f3900 := (hn3890 395 20 (by decide)).trans f3884
  have f3901 := (hn3890 395 21 (by decide)).trans f3885
  have f3902 := (hn3890 386 12 (by decide)).trans f3886
  clear hn3890 f3875 f3876 f3877 f3878 f3879 f3880 f3881 f3882 f3883 f3884 f3885 f3886 hv3873 hU3872 M3871
  refine w_lo dX9_clears_42 rfl rfl rfl rfl ?_
  refine w_gf dX9_clears_43 rfl hU3888.1 rfl ((hU3888).2 386 59 rfl |>.trans zq_386_59) ?_
  refine w_lo dX9_clears_46 rfl rfl rfl rfl ?_
  refine w_ic dX9_clears_47 zi_0 ?_
  refine w_is dX9_clears_48 hU3888 rfl (k := 4) zt_4 (Nat.le_of_ble_eq_true rfl) ?_
  intro M3903 hU3904 hv3905 hn3906
  have f3907 := (hn3906 395 11 (by decide)).trans f3891
  have f3908 := (hn3906 395 12 (by decide)).trans f3892
  have f3909 := (hn3906 395 13 (by decide)).trans f3893
  have f3910 := (hn3906 395 14 (by decide)).trans f3894
  have f3911 := (hn3906 395 15 (by decide)).trans f3895
  have f3912 := (hn3906 395 16 (by decide)).trans f3896
  have f3913 := (hn3906 395 17 (by decide)).trans f3897
  have f3914 := (hn3906 395 18 (by decide)).trans f3898
  have f3915 := (hn3906 395 19 (by decide)).trans f3899
  have f3916 := (hn3906 395 20 (by decide)).trans f3900
  have f3917 := (hn3906 395 21 (by decide)).trans f3901
  have f3918 := (hn3906 386 12 (by decide)).trans f3902
  clear hn3906 f3891 f3892 f3893 f3894 f3895 f3896 f3897 f3898 f3899 f3900 f3901 f3902 hv3889 hU3888 M3887
  refine w_en dX9_clears_49 rfl ?_
  show ZW _ 9 9 false none cX9_begins _ (58, [some (.ref 386), some (.int 4)], [], M3903)
  refine w_lo (ml' := [some (.ref 386), some (.int 5)]) dX9_begins_58 rfl rfl rfl rfl ?_
  refine w_gt dX9_begins_61 (t := 26) rfl ?_
  refine w_lo dX9_begins_26 rfl rfl rfl rfl ?_
  refine w_bi dX9_begins_27 (c := 12) (by decide) ?_
  refine w_cge_f dX9_begins_29 (t := 64) rfl (by decide) ?_
  refine w_lo dX9_begins_32 rfl rfl rfl rfl ?_
  refine w_gf dX9_begins_33 rfl hU3904.1 rfl ((hU3904).2 386 50 rfl |>.trans zq_386_50) ?_
  refine w_lo dX9_begins_36 rfl rfl rfl rfl ?_
  refine w_lo dX9_begins_37 rfl rfl rfl rfl ?_
  refine w_is dX9_begins_38 hU3904 rfl (k := 5) zt_5 (Nat.le_of_ble_eq_true rfl) ?_
  intro M3919 hU3920 hv3921 hn3922
  have f3923 := (hn3922 395 11 (by decide)).trans f3907
  have f3924 := (hn3922 395 12 (by decide)).trans f3908
  have f3925 := (hn3922 395 13 (by decide)).trans f3909
  have f3926 := (hn3922 395 14 (by decide)).trans f3910
  have f3927 := (hn3922 395 15 (by decide)).trans f3911
  have f3928 := (hn3922 395 16 (by decide)).trans f3912
  have f3929 := (hn3922 395 17 (by decide)).trans f3913
  have f3930 := (hn3922 395 18 (by decide)).trans f3914
  have f3931 := (hn3922 395 19 (by decide)).trans f3915
  have f3932 := (hn3922 395 20 (by decide)).trans f3916
  have f3933 := (hn3922 395 21 (by decide)).trans f3917
  have f3934 := (hn3922 386 12 (by decide)).trans f3918
  clear hn3922 f3907 f3908 f3909 f3910 f3911 f3912 f3913 f3914 f3915 f3916 f3917 f3918 hv3905 hU3904 M3903
  refine w_lo dX9_begins_39 rfl rfl rfl rfl ?_
  refine w_gf dX9_begins_40 rfl hU3920.1 rfl ((hU3920).2 386 51 rfl |>.trans zq_386_51) ?_
  refine w_lo dX9_begins_43 rfl rfl rfl rfl ?_
  refine w_ic dX9_begins_44 zi_1 ?_
  refine w_is dX9_begins_45 hU3920 rfl (k := 5) zt_5 (Nat.le_of_ble_eq_true rfl) ?_
  intro M3935 hU3936 hv3937 hn3938
  have f3939 := (hn3938 395 11 (by decide)).trans f3923
  have f3940 := (hn3938 395 12 (by decide)).trans f3924
  have f3941 := (hn3938 395 13 (by decide)).trans f3925
  have f3942 := (hn3938 395 14 (by decide)).trans f3926
  have f3943 := (hn3938 395 15 (by decide)).trans f3927
  have f3944 := (hn3938 395 16 (by decide)).trans f3928
  have f3945 := (hn3938 395 17 (by decide)).trans f3929
  have f3946 := (hn3938 395 18 (by decide)).trans f3930
  have f3947 := (hn3938 395 19 (by decide)).trans f3931
  have f3948 := (hn3938 395 20 (by decide)).trans f3932
  have f3949 := (hn3938 395 21 (by decide)).trans f3933
  have f3950 := (hn3938 386 12 (by decide)).trans f3934
  clear hn3938 f3923 f3924 f3925 f3926 f3927 f3928 f3929 f3930 f3931 f3932 f3933 f3934 hv3921 hU3920 M3919
  refine w_lo dX9_begins_46 rfl rfl rfl rfl ?_
  refine w_gf dX9_begins_47 rfl hU3936.1 rfl ((hU3936).2 386 57 rfl |>.trans zq_386_57) ?_
  refine w_lo dX9_begins_50 rfl rfl rfl rfl ?_
  refine w_ic dX9_begins_51 zi_0 ?_
  refine w_is dX9_begins_52 hU3936 rfl (k := 5) zt_5 (Nat.le_of_ble_eq_true rfl) ?_
  intro M3951 hU3952 hv3953 hn3954
  have f3955 := (hn3954 395 11 (by decide)).trans f3939
  have f3956 := (hn3954 395 12 (by decide)).trans f3940
  have f3957 := (hn3954 395 13 (by decide)).trans f3941
  have f3958 := (hn3954 395 14 (by decide)).trans f3942
  have f3959 := (hn3954 395 15 (by decide)).trans f3943
  have f3960 := (hn3954 395 16 (by decide)).trans f3944
  have f3961 := (hn3954 395 17 (by decide)).trans f3945
  have f3962 := (hn3954 395 18 (by decide)).trans f3946
  have f3963 := (hn3954 395 19 (by decide)).trans f3947
  have f3964 := (hn3954 395 20 (by decide)).trans f3948
  have f3965 := (hn3954 395 21 (by decide)).trans f3949
  have f3966 := (hn3954 386 12 (by decide)).trans f3950
  clear hn3954 f3939 f3940 f3941 f3942 f3943 f3944 f3945 f3946 f3947 f3948 f3949 f3950 hv3937 hU3936 M3935
  refine w_lo dX9_begins_53 rfl rfl rfl rfl ?_
  refine w_lo dX9_begins_54 rfl rfl rfl rfl ?_
  refine w_iv dX9_begins_55 rfl rfl (As := [.int 5]) rfl rfl hU3952.1 rfl (Nat.le_of_ble_eq_true rfl) ?_
  refine ZV.of (ini := false) rfl (Nat.le_of_ble_eq_true rfl) (by decide +kernel) ?_
  show ZW _ 8 9 false none cX9_clears _ (0, [some (.ref 386), some (.int 5)], [], M3951)
  refine w_lo dX9_clears_0 rfl rfl rfl rfl ?_
  refine w_gf dX9_clears_1 rfl hU3952.1 rfl ((hU3952).2 386 52 rfl |>.trans zq_386_52) ?_
  refine w_lo dX9_clears_4 rfl rfl rfl rfl ?_
  refine w_ic dX9_clears_5 zi_m1 ?_
  refine w_is dX9_clears_6 hU3952 rfl (k := 5) zt_5 (Nat.le_of_ble_eq_true rfl) ?_
  intro M3967 hU3968 hv3969 hn3970
  have f3971 := (hn3970 395 11 (by decide)).trans f3955
  have f3972 := (hn3970 395 12 (by decide)).trans f3956
  have f3973 := (hn3970 395 13 (by decide)).trans f3957
  have f3974 := (hn3970 395 14 (by decide)).trans f3958
  have f3975 := (hn3970 395 15 (by decide)).trans f3959
  have f3976 := (hn3970 395 16 (by decide)).trans f3960
  have f3977 := (hn3970 395 17 (by decide)).trans f3961
  have f3978 := (hn3970 395 18 (by decide)).trans f3962
  have f3979 := (hn3970 395 19 (by decide)).trans f3963
  have f3980 := (hn3970 395 20 (by decide)).trans f3964
  have f3981 := (hn3970 395 21 (by decide)).trans f3965
  have f3982 := (hn3970 386 12 (by decide)).trans f3966
  clear hn3970 f3955 f3956 f3957 f3958 f3959 f3960 f3961 f3962 f3963 f3964 f3965 f3966 hv3953 hU3952 M3951
  refine w_lo dX9_clears_7 rfl rfl rfl rfl ?_
  refine w_gf dX9_clears_8 rfl hU3968.1 rfl ((hU3968).2 386 53 rfl |>.trans zq_386_53) ?_
  refine w_lo dX9_clears_11 rfl rfl rfl rfl ?_
  refine w_ic dX9_clears_12 zi_0 ?_
  refine w_is dX9_clears_13 hU3968 rfl (k := 5) zt_5 (Nat.le_of_ble_eq_true rfl) ?_
  intro M3983 hU3984 hv3985 hn3986
  have f3987 := (hn3986 395 11 (by decide)).trans f3971
  have f3988 := (hn3986 395 12 (by decide)).trans f3972
  have f3989 := (hn3986 395 13 (by decide)).trans f3973
  have f3990 := (hn3986 395 14 (by decide)).trans f3974
  have f3991 := (hn3986 395 15 (by decide)).trans f3975
  have f3992 := (hn3986 395 16 (by decide)).trans f3976
  have f3993 := (hn3986 395 17 (by decide)).trans f3977
  have f3994 := (hn3986 395 18 (by decide)).trans f3978
  have f3995 := (hn3986 395 19 (by decide)).trans f3979
  have f3996 := (hn3986 395 20 (by decide)).trans f3980
  have f3997 := (hn3986 395 21 (by decide)).trans f3981
  have f3998 := (hn3986 386 12 (by decide)).trans f3982
  clear hn3986 f3971 f3972 f3973 f3974 f3975 f3976 f3977 f3978 f3979 f3980 f3981 f3982 hv3969 hU3968 M3967
  refine w_lo dX9_clears_14 rfl rfl rfl rfl ?_
  refine w_gf dX9_clears_15 rfl hU3984.1 rfl ((hU3984).2 386 54 rfl |>.trans zq_386_54) ?_
  refine w_lo dX9_clears_18 rfl rfl rfl rfl ?_
  refine w_ic dX9_clears_19 zi_m1 ?_
  refine w_is dX9_clears_20 hU3984 rfl (k := 5) zt_5 (Nat.le_of_ble_eq_true rfl) ?_
  intro M3999 hU4000 hv4001 hn4002
  have f4003 := (hn4002 395 11 (by decide)).trans f3987
  have f4004 := (hn4002 395 12 (by decide)).trans f3988
  have f4005 := (hn4002 395 13 (by decide)).trans f3989
  have f4006 := (hn4002 395 14 (by decide)).trans f3990
  have f4007 := (hn4002 395 15 (by decide)).trans f3991
  have f4008 := (hn4002 395 16 (by decide)).trans f3992
  have f4009 := (hn4002 395 17 (by decide)).trans f3993
  have f4010 := (hn4002 395 18 (by decide)).trans f3994
  have f4011 := (hn4002 395 19 (by decide)).trans f3995
  have f4012 := (hn4002 395 20 (by decide)).trans f3996
  have f4013 := (hn4002 395 21 (by decide)).trans f3997
  have f4014 := (hn4002 386 12 (by decide)).trans f3998
  clear hn4002 f3987 f3988 f3989 f3990 f3991 f3992 f3993 f3994 f3995 f3996 f3997 f3998 hv3985 hU3984 M3983
  refine w_lo dX9_clears_21 rfl rfl rfl rfl ?_
  refine w_gf dX9_clears_22 rfl hU4000.1 rfl ((hU4000).2 386 55 rfl |>.trans zq_386_55) ?_
  refine w_lo dX9_clears_25 rfl rfl rfl rfl ?_
  refine w_ic dX9_clears_26 zi_0 ?_
  refine w_is dX9_clears_27 hU4000 rfl (k := 5) zt_5 (Nat.le_of_ble_eq_true rfl) ?_
  intro M4015 hU4016 hv4017 hn4018
  have f4019 := (hn4018 395 11 (by decide)).trans f4003
  have f4020 := (hn4018 395 12 (by decide)).trans f4004
  have f4021 := (hn4018 395 13 (by decide)).trans f4005
  have f4022 := (hn4018 395 14 (by decide)).trans f4006
  have f4023 := (hn4018 395 15 (by decide)).trans f4007
  have f4024 := (hn4018 395 16 (by decide)).trans f4008
  have f4025 := (hn4018 395 17 (by decide)).trans f4009
  have f4026 := (hn4018 395 18 (by decide)).trans f4010
  have f4027 := (hn4018 395 19 (by decide)).trans f4011
  have f4028 := (hn4018 395 20 (by decide)).trans f4012
  have f4029 := (hn4018 395 21 (by decide)).trans f4013
  have f4030 := (hn4018 386 12 (by decide)).trans f4014
  clear hn4018 f4003 f4004 f4005 f4006 f4007 f4008 f4009 f4010 f4011 f4012 f4013 f4014 hv4001 hU4000 M3999
  refine w_lo dX9_clears_28 rfl rfl rfl rfl ?_
  refine w_gf dX9_clears_29 rfl hU4016.1 rfl ((hU4016).2 386 56 rfl |>.trans zq_386_56) ?_
  refine w_lo dX9_clears_32 rfl rfl rfl rfl ?_
  refine w_ic dX9_clears_33 zi_0 ?_
  refine w_is dX9_clears_34 hU4016 rfl (k := 5) zt_5 (Nat.le_of_ble_eq_true rfl) ?_
  intro M4031 hU4032 hv4033 hn4034
  have f4035 := (hn4034 395 11 (by decide)).trans f4019
  have f4036 := (hn4034 395 12 (by decide)).trans f4020
  have f4037 := (hn4034 395 13 (by decide)).trans f4021
  have f4038 := (hn4034 395 14 (by decide)).trans f4022
  have f4039 := (hn4034 395 15 (by decide)).trans f4023
  have f4040 := (hn4034 395 16 (by decide)).trans f4024
  have f4041 := (hn4034 395 17 (by decide)).trans f4025
  have f4042 := (hn4034 395 18 (by decide)).trans f4026
  have f4043 := (hn4034 395 19 (by decide)).trans f4027
  have f4044 := (hn4034 395 20 (by decide)).trans f4028
  have f4045 := (hn4034 395 21 (by decide)).trans f4029
  have f4046 := (hn4034 386 12 (by decide)).trans f4030
  clear hn4034 f4019 f4020 f4021 f4022 f4023 f4024 f4025 f4026 f4027 f4028 f4029 f4030 hv4017 hU4016 M4015
  refine w_lo dX9_clears_35 rfl rfl rfl rfl ?_
  refine w_gf dX9_clears_36 rfl hU4032.1 rfl ((hU4032).2 386 58 rfl |>.trans zq_386_58) ?_
  refine w_lo dX9_clears_39 rfl rfl rfl rfl ?_
  refine w_ic dX9_clears_40 zi_0 ?_
  refine w_is dX9_clears_41 hU4032 rfl (k := 5) zt_5 (Nat.le_of_ble_eq_true rfl) ?_
  intro M4047 hU4048 hv4049 hn4050
  have f4051 := (hn4050 395 11 (by decide)).trans f4035
  have f4052 := (hn4050 395 12 (by decide)).trans f4036
  have f4053 := (hn4050 395 13 (by decide)).trans f4037
  have f4054 := (hn4050 395 14 (by decide)).trans f4038
  have f4055 := (hn4050 395 15 (by decide)).trans f4039
  have f4056 := (hn4050 395 16 (by decide)).trans f4040
  have f4057 := (hn4050 395 17 (by decide)).trans f4041
  have f4058 := (hn4050 395 18 (by decide)).trans f4042
  have f4059 := (hn4050 395 19 (by decide)).trans f4043
  have f4060 := (hn4050 395 20 (by decide)).trans f4044
  have f4061 := (hn4050 395 21 (by decide)).trans f4045
  have f4062 := (hn4050 386 12 (by decide)).trans f4046
  clear hn4050 f4035 f4036 f4037 f4038 f4039 f4040 f4041 f4042 f4043 f4044 f4045 f4046 hv4033 hU4032 M4031
  refine w_lo dX9_clears_42 rfl rfl rfl rfl ?_
  refine w_gf dX9_clears_43 rfl hU4048.1 rfl ((hU4048).2 386 59 rfl |>.trans zq_386_59) ?_
  refine w_lo dX9_clears_46 rfl rfl rfl rfl ?_
  refine w_ic dX9_clears_47 zi_0 ?_
  refine w_is dX9_clears_48 hU4048 rfl (k := 5) zt_5 (Nat.le_of_ble_eq_true rfl) ?_
  intro M4063 hU4064 hv4065 hn4066
  have f4067 := (hn4066 395 11 (by decide)).trans f4051
  have f4068 := (hn4066 395 12 (by decide)).trans f4052
  have f4069 := (hn4066 395 13 (by decide)).trans f4053
  have f4070 := (hn4066 395 14 (by decide)).trans f4054
  have f4071 := (hn4066 395 15 (by decide)).trans f4055
  have f4072 := (hn4066 395 16 (by decide)).trans f4056
  have f4073 := (hn4066 395 17 (by decide)).trans f4057
  have f4074 := (hn4066 395 18 (by decide)).trans f4058
  have f4075 := (hn4066 395 19 (by decide)).trans f4059
  have f4076 := (hn4066 395 20 (by decide)).trans f4060
  have f4077 := (hn4066 395 21 (by decide)).trans f4061
  have f4078 := (hn4066 386 12 (by decide)).trans f4062
  clear hn4066 f4051 f4052 f4053 f4054 f4055 f4056 f4057 f4058 f4059 f4060 f4061 f4062 hv4049 hU4048 M4047
  refine w_en dX9_clears_49 rfl ?_
  show ZW _ 9 9 false none cX9_begins _ (58, [some (.ref 386), some (.int 5)], [], M4063)
  refine w_lo (ml' := [some (.ref 386), some (.int 6)]) dX9_begins_58 rfl rfl rfl rfl ?_
  refine w_gt dX9_begins_61 (t := 26) rfl ?_
  refine w_lo dX9_begins_26 rfl rfl rfl rfl ?_
  refine w_bi dX9_begins_27 (c := 12) (by decide) ?_
  refine w_cge_f dX9_begins_29 (t := 64) rfl (by decide) ?_
  refine w_lo dX9_begins_32 rfl rfl rfl rfl ?_
  refine w_gf dX9_begins_33 rfl hU4064.1 rfl ((hU4064).2 386 50 rfl |>.trans zq_386_50) ?_
  refine w_lo dX9_begins_36 rfl rfl rfl rfl ?_
  refine w_lo dX9_begins_37 rfl rfl rfl rfl ?_
  refine w_is dX9_begins_38 hU4064 rfl (k := 6) zt_6 (Nat.le_of_ble_eq_true rfl) ?_
  intro M4079 hU4080 hv4081 hn4082
  have f4083 := (hn4082 395 11 (by decide)).trans f4067
  have f4084 := (hn4082 395 12 (by decide)).trans f4068
  have f4085 := (hn4082 395 13 (by decide)).trans f4069
  have f4086 := (hn4082 395 14 (by decide)).trans f4070
  have f4087 := (hn4082 395 15 (by decide)).trans f4071
  have f4088 := (hn4082 395 16 (by decide)).trans f4072
  have f4089 := (hn4082 395 17 (by decide)).trans f4073
  have f4090 := (hn4082 395 18 (by decide)).trans f4074
  have f4091 := (hn4082 395 19 (by decide)).trans f4075
  have f4092 := (hn4082 395 20 (by decide)).trans f4076
  have f4093 := (hn4082 395 21 (by decide)).trans f4077
  have f4094 := (hn4082 386 12 (by decide)).trans f4078
  clear hn4082 f4067 f4068 f4069 f4070 f4071 f4072 f4073 f4074 f4075 f4076 f4077 f4078 hv4065 hU4064 M4063
  refine w_lo dX9_begins_39 rfl rfl rfl rfl ?_
  refine w_gf dX9_begins_40 rfl hU4080.1 rfl ((hU4080).2 386 51 rfl |>.trans zq_386_51) ?_
  refine w_lo dX9_begins_43 rfl rfl rfl rfl ?_
  refine w_ic dX9_begins_44 zi_1 ?_
  refine w_is dX9_begins_45 hU4080 rfl (k := 6) zt_6 (Nat.le_of_ble_eq_true rfl) ?_
  intro M4095 hU4096 hv4097 hn4098
  have f4099 := (hn4098 395 11 (by decide)).trans f4083
  have f4100 := (hn4098 395 12 (by decide)).trans f4084
  have f4101 := (hn4098 395 13 (by decide)).trans f4085
  have f4102 := (hn4098 395 14 (by decide)).trans f4086
  have f4103 := (hn4098 395 15 (by decide)).trans f4087
  have f4104 := (hn4098 395 16 (by decide)).trans f4088
  have f4105 := (hn4098 395 17 (by decide)).trans f4089
  have f4106 := (hn4098 395 18 (by decide)).trans f4090
  have f4107 := (hn4098 395 19 (by decide)).trans f4091
  have f4108 := (hn4098 395 20 (by decide)).trans f4092
  have f4109 := (hn4098 395 21 (by decide)).trans f4093
  have f4110 := (hn4098 386 12 (by decide)).trans f4094
  clear hn4098 f4083 f4084 f4085 f4086 f4087 f4088 f4089 f4090 f4091 f4092 f4093 f4094 hv4081 hU4080 M4079
  refine w_lo dX9_begins_46 rfl rfl rfl rfl ?_
  refine w_gf dX9_begins_47 rfl hU4096.1 rfl ((hU4096).2 386 57 rfl |>.trans zq_386_57) ?_
  refine w_lo dX9_begins_50 rfl rfl rfl rfl ?_
  refine w_ic dX9_begins_51 zi_0 ?_
  refine w_is dX9_begins_52 hU4096 rfl (k := 6) zt_6 (Nat.le_of_ble_eq_true rfl) ?_
  intro M4111 hU4112 hv4113 hn4114
  have f4115 := (hn4114 395 11 (by decide)).trans f4099
  have f4116 := (hn4114 395 12 (by decide)).trans f4100
  have f4117 := (hn4114 395 13 (by decide)).trans f4101
  have f4118 := (hn4114 395 14 (by decide)).trans f4102
  have f4119 := (hn4114 395 15 (by decide)).trans f4103
  have f4120 := (hn4114 395 16 (by decide)).trans f4104
  have f4121 := (hn4114 395 17 (by decide)).trans f4105
  have f4122 := (hn4114 395 18 (by decide)).trans f4106
  have f4123 := (hn4114 395 19 (by decide)).trans f4107
  have f4124 := (hn4114 395 20 (by decide)).trans f4108
  have f4125 := (hn4114 395 21 (by decide)).trans f4109
  have f4126 := (hn4114 386 12 (by decide)).trans f4110
  clear hn4114 f4099 f4100 f4101 f4102 f4103 f4104 f4105 f4106 f4107 f4108 f4109 f4110 hv4097 hU4096 M4095
  refine w_lo dX9_begins_53 rfl rfl rfl rfl ?_
  refine w_lo dX9_begins_54 rfl rfl rfl rfl ?_
  refine w_iv dX9_begins_55 rfl rfl (As := [.int 6]) rfl rfl hU4112.1 rfl (Nat.le_of_ble_eq_true rfl) ?_
  refine ZV.of (ini := false) rfl (Nat.le_of_ble_eq_true rfl) (by decide +kernel) ?_
  show ZW _ 8 9 false none cX9_clears _ (0, [some (.ref 386), some (.int 6)], [], M4111)
  refine w_lo dX9_clears_0 rfl rfl rfl rfl ?_
  refine w_gf dX9_clears_1 rfl hU4112.1 rfl ((hU4112).2 386 52 rfl |>.trans zq_386_52) ?_
  refine w_lo dX9_clears_4 rfl rfl rfl rfl ?_
  refine w_ic dX9_clears_5 zi_m1 ?_
  refine w_is dX9_clears_6 hU4112 rfl (k := 6) zt_6 (Nat.le_of_ble_eq_true rfl) ?_
  intro M4127 hU4128 hv4129 hn4130
  have f4131 := (hn4130 395 11 (by decide)).trans f4115
  have f4132 := (hn4130 395 12 (by decide)).trans f4116
  have f4133 := (hn4130 395 13 (by decide)).trans f4117
  have f4134 := (hn4130 395 14 (by decide)).trans f4118
  have f4135 := (hn4130 395 15 (by decide)).trans f4119
  have f4136 := (hn4130 395 16 (by decide)).trans f4120
  have f4137 := (hn4130 395 17 (by decide)).trans f4121
  have f4138 := (hn4130 395 18 (by decide)).trans f4122
  have f4139 := (hn4130 395 19 (by decide)).trans f4123
  have f4140 := (hn4130 395 20 (by decide)).trans f4124
  have f4141 := (hn4130 395 21 (by decide)).trans f4125
  have f4142 := (hn4130 386 12 (by decide)).trans f4126
  clear hn4130 f4115 f4116 f4117 f4118 f4119 f4120 f4121 f4122 f4123 f4124 f4125 f4126 hv4113 hU4112 M4111
  refine w_lo dX9_clears_7 rfl rfl rfl rfl ?_
  refine w_gf dX9_clears_8 rfl hU4128.1 rfl ((hU4128).2 386 53 rfl |>.trans zq_386_53) ?_
  refine w_lo dX9_clears_11 rfl rfl rfl rfl ?_
  refine w_ic dX9_clears_12 zi_0 ?_
  refine w_is dX9_clears_13 hU4128 rfl (k := 6) zt_6 (Nat.le_of_ble_eq_true rfl) ?_
  intro M4143 hU4144 hv4145 hn4146
  have f4147 := (hn4146 395 11 (by decide)).trans f4131
  have f4148 := (hn4146 395 12 (by decide)).trans f4132
  have f4149 := (hn4146 395 13 (by decide)).trans f4133
  have f4150 := (hn4146 395 14 (by decide)).trans f4134
  have f4151 := (hn4146 395 15 (by decide)).trans f4135
  have f4152 := (hn4146 395 16 (by decide)).trans f4136
  have f4153 := (hn4146 395 17 (by decide)).trans f4137
  have f4154 := (hn4146 395 18 (by decide)).trans f4138
  have f4155 := (hn4146 395 19 (by decide)).trans f4139
  have f4156 := (hn4146 395 20 (by decide)).trans f4140
  have f4157 := (hn4146 395 21 (by decide)).trans f4141
  have f4158 := (hn4146 386 12 (by decide)).trans f4142
  clear hn4146 f4131 f4132 f4133 f4134 f4135 f4136 f4137 f4138 f4139 f4140 f4141 f4142 hv4129 hU4128 M4127
  refine w_lo dX9_clears_14 rfl rfl rfl rfl ?_
  refine w_gf dX9_clears_15 rfl hU4144.1 rfl ((hU4144).2 386 54 rfl |>.trans zq_386_54) ?_
  refine w_lo dX9_clears_18 rfl rfl rfl rfl ?_
  refine w_ic dX9_clears_19 zi_m1 ?_
  refine w_is dX9_clears_20 hU4144 rfl (k := 6) zt_6 (Nat.le_of_ble_eq_true rfl) ?_
  intro M4159 hU4160 hv4161 hn4162
  have f4163 := (hn4162 395 11 (by decide)).trans f4147
  have f4164 := (hn4162 395 12 (by decide)).trans f4148
  have f4165 := (hn4162 395 13 (by decide)).trans f4149
  have f4166 := (hn4162 395 14 (by decide)).trans f4150
  have f4167 := (hn4162 395 15 (by decide)).trans f4151
  have f4168 := (hn4162 395 16 (by decide)).trans f4152
  have f4169 := (hn4162 395 17 (by decide)).trans f4153
  have f4170 := (hn4162 395 18 (by decide)).trans f4154
  have f4171 := (hn4162 395 19 (by decide)).trans f4155
  have f4172 := (hn4162 395 20 (by decide)).trans f4156
  have f4173 := (hn4162 395 21 (by decide)).trans f4157
  have f4174 := (hn4162 386 12 (by decide)).trans f4158
  clear hn4162 f4147 f4148 f4149 f4150 f4151 f4152 f4153 f4154 f4155 f4156 f4157 f4158 hv4145 hU4144 M4143
  refine w_lo dX9_clears_21 rfl rfl rfl rfl ?_
  refine w_gf dX9_clears_22 rfl hU4160.1 rfl ((hU4160).2 386 55 rfl |>.trans zq_386_55) ?_
  refine w_lo dX9_clears_25 rfl rfl rfl rfl ?_
  refine w_ic dX9_clears_26 zi_0 ?_
  refine w_is dX9_clears_27 hU4160 rfl (k := 6) zt_6 (Nat.le_of_ble_eq_true rfl) ?_
  intro M4175 hU4176 hv4177 hn4178
  have f4179 := (hn4178 395 11 (by decide)).trans f4163
  have f4180 := (hn4178 395 12 (by decide)).trans f4164
  have f4181 := (hn4178 395 13 (by decide)).trans f4165
  have f4182 := (hn4178 395 14 (by decide)).trans f4166
  have f4183 := (hn4178 395 15 (by decide)).trans f4167
  have f4184 := (hn4178 395 16 (by decide)).trans f4168
  have f4185 := (hn4178 395 17 (by decide)).trans f4169
  have f4186 := (hn4178 395 18 (by decide)).trans f4170
  have f4187 := (hn4178 395 19 (by decide)).trans f4171
  have f4188 := (hn4178 395 20 (by decide)).trans f4172
  have f4189 := (hn4178 395 21 (by decide)).trans f4173
  have f4190 := (hn4178 386 12 (by decide)).trans f4174
  clear hn4178 f4163 f4164 f4165 f4166 f4167 f4168 f4169 f4170 f4171 f4172 f4173 f4174 hv4161 hU4160 M4159
  refine w_lo dX9_clears_28 rfl rfl rfl rfl ?_
  refine w_gf dX9_clears_29 rfl hU4176.1 rfl ((hU4176).2 386 56 rfl |>.trans zq_386_56) ?_
  refine w_lo dX9_clears_32 rfl rfl rfl rfl ?_
  refine w_ic dX9_clears_33 zi_0 ?_
  refine w_is dX9_clears_34 hU4176 rfl (k := 6) zt_6 (Nat.le_of_ble_eq_true rfl) ?_
  intro M4191 hU4192 hv4193 hn4194
  have f4195 := (hn4194 395 11 (by decide)).trans f4179
  have f4196 := (hn4194 395 12 (by decide)).trans f4180
  have f4197 := (hn4194 395 13 (by decide)).trans f4181
  have f4198 := (hn4194 395 14 (by decide)).trans f4182
  have f4199 := (hn4194 395 15 (by decide)).trans f4183
  have f4200 := (hn4194 395 16 (by decide)).trans f4184
  have f4201 := (hn4194 395 17 (by decide)).trans f4185
  have f4202 := (hn4194 395 18 (by decide)).trans f4186
  have f4203 := (hn4194 395 19 (by decide)).trans f4187
  have f4204 := (hn4194 395 20 (by decide)).trans f4188
  have f4205 := (hn4194 395 21 (by decide)).trans f4189
  have f4206 := (hn4194 386 12 (by decide)).trans f4190
  clear hn4194 f4179 f4180 f4181 f4182 f4183 f4184 f4185 f4186 f4187 f4188 f4189 f4190 hv4177 hU4176 M4175
  refine w_lo dX9_clears_35 rfl rfl rfl rfl ?_
  refine w_gf dX9_clears_36 rfl hU4192.1 rfl ((hU4192).2 386 58 rfl |>.trans zq_386_58) ?_
  refine w_lo dX9_clears_39 rfl rfl rfl rfl ?_
  refine w_ic dX9_clears_40 zi_0 ?_
  refine w_is dX9_clears_41 hU4192 rfl (k := 6) zt_6 (Nat.le_of_ble_eq_true rfl) ?_
  intro M4207 hU4208 hv4209 hn4210
  have f4211 := (hn4210 395 11 (by decide)).trans f4195
  have f4212 := (hn4210 395 12 (by decide)).trans f4196
  have f4213 := (hn4210 395 13 (by decide)).trans f4197
  have f4214 := (hn4210 395 14 (by decide)).trans f4198
  have f4215 := (hn4210 395 15 (by decide)).trans f4199
  have f4216 := (hn4210 395 16 (by decide)).trans f4200
  have f4217 := (hn4210 395 17 (by decide)).trans f4201
  have f4218 := (hn4210 395 18 (by decide)).trans f4202
  have f4219 := (hn4210 395 19 (by decide)).trans f4203
  have f4220 := (hn4210 395 20 (by decide)).trans f4204
  have f4221 := (hn4210 395 21 (by decide)).trans f4205
  have f4222 := (hn4210 386 12 (by decide)).trans f4206
  clear hn4210 f4195 f4196 f4197 f4198 f4199 f4200 f4201 f4202 f4203 f4204 f4205 f4206 hv4193 hU4192 M4191
  refine w_lo dX9_clears_42 rfl rfl rfl rfl ?_
  refine w_gf dX9_clears_43 rfl hU4208.1 rfl ((hU4208).2 386 59 rfl |>.trans zq_386_59) ?_
  refine w_lo dX9_clears_46 rfl rfl rfl rfl ?_
  refine w_ic dX9_clears_47 zi_0 ?_
  refine w_is dX9_clears_48 hU4208 rfl (k := 6) zt_6 (Nat.le_of_ble_eq_true rfl) ?_
  intro M4223 hU4224 hv4225 hn4226
  have f4227 := (hn4226 395 11 (by decide)).trans f4211
  have f4228 := (hn4226 395 12 (by decide)).trans f4212
  have f4229 := (hn4226 395 13 (by decide)).trans f4213
  have f4230 := (hn4226 395 14 (by decide)).trans f4214
  have f4231 := (hn4226 395 15 (by decide)).trans f4215
  have f4232 := (hn4226 395 16 (by decide)).trans f4216
  have f4233 := (hn4226 395 17 (by decide)).trans f4217
  have f4234 := (hn4226 395 18 (by decide)).trans f4218
  have f4235 := (hn4226 395 19 (by decide)).trans f4219
  have f4236 := (hn4226 395 20 (by decide)).trans f4220
  have f4237 := (hn4226 395 21 (by decide)).trans f4221
  have f4238 := (hn4226 386 12 (by decide)).trans f4222
  clear hn4226 f4211 f4212 f4213 f4214 f4215 f4216 f4217 f4218 f4219 f4220 f4221 f4222 hv4209 hU4208 M4207
  refine w_en dX9_clears_49 rfl ?_
  show ZW _ 9 9 false none cX9_begins _ (58, [some (.ref 386), some (.int 6)], [], M4223)
  refine w_lo (ml' := [some (.ref 386), some (.int 7)]) dX9_begins_58 rfl rfl rfl rfl ?_
  refine w_gt dX9_begins_61 (t := 26) rfl ?_
  refine w_lo dX9_begins_26 rfl rfl rfl rfl ?_
  refine w_bi dX9_begins_27 (c := 12) (by decide) ?_
  refine w_cge_f dX9_begins_29 (t := 64) rfl (by decide) ?_
  refine w_lo dX9_begins_32 rfl rfl rfl rfl ?_
  refine w_gf dX9_begins_33 rfl hU4224.1 rfl ((hU4224).2 386 50 rfl |>.trans zq_386_50) ?_
  refine w_lo dX9_begins_36 rfl rfl rfl rfl ?_
  refine w_lo dX9_begins_37 rfl rfl rfl rfl ?_
  refine w_is dX9_begins_38 hU4224 rfl (k := 7) zt_7 (Nat.le_of_ble_eq_true rfl) ?_
  intro M4239 hU4240 hv4241 hn4242
  have f4243 := (hn4242 395 11 (by decide)).trans f4227
  have f4244 := (hn4242 395 12 (by decide)).trans f4228
  have f4245 := (hn4242 395 13 (by decide)).trans f4229
  have f4246 := (hn4242 395 14 (by decide)).trans f4230
  have f4247 := (hn4242 395 15 (by decide)).trans f4231
  have f4248 := (hn4242 395 16 (by decide)).trans f4232
  have f4249 := (hn4242 395 17 (by decide)).trans f4233
  have f4250 := (hn4242 395 18 (by decide)).trans f4234
  have f4251 := (hn4242 395 19 (by decide)).trans f4235
  have f4252 := (hn4242 395 20 (by decide)).trans f4236
  have f4253 := (hn4242 395 21 (by decide)).trans f4237
  have f4254 := (hn4242 386 12 (by decide)).trans f4238
  clear hn4242 f4227 f4228 f4229 f4230 f4231 f4232 f4233 f4234 f4235 f4236 f4237 f4238 hv4225 hU4224 M4223
  refine w_lo dX9_begins_39 rfl rfl rfl rfl ?_
  refine w_gf dX9_begins_40 rfl hU4240.1 rfl ((hU4240).2 386 51 rfl |>.trans zq_386_51) ?_
  refine w_lo dX9_begins_43 rfl rfl rfl rfl ?_
  refine w_ic dX9_begins_44 zi_1 ?_
  refine w_is dX9_begins_45 hU4240 rfl (k := 7) zt_7 (Nat.le_of_ble_eq_true rfl) ?_
  intro M4255 hU4256 hv4257 hn4258
  have f4259 := (hn4258 395 11 (by decide)).trans f4243
  have f4260 := (hn4258 395 12 (by decide)).trans f4244
  have f4261 := (hn4258 395 13 (by decide)).trans f4245
  have f4262 := (hn4258 395 14 (by decide)).trans f4246
  have f4263 := (hn4258 395 15 (by decide)).trans f4247
  have f4264 := (hn4258 395 16 (by decide)).trans f4248
  have f4265 := (hn4258 395 17 (by decide)).trans f4249
  have f4266 := (hn4258 395 18 (by decide)).trans f4250
  have f4267 := (hn4258 395 19 (by decide)).trans f4251
  have f4268 := (hn4258 395 20 (by decide)).trans f4252
  have f4269 := (hn4258 395 21 (by decide)).trans f4253
  have f4270 := (hn4258 386 12 (by decide)).trans f4254
  clear hn4258 f4243 f4244 f4245 f4246 f4247 f4248 f4249 f4250 f4251 f4252 f4253 f4254 hv4241 hU4240 M4239
  refine w_lo dX9_begins_46 rfl rfl rfl rfl ?_
  refine w_gf dX9_begins_47 rfl hU4256.1 rfl ((hU4256).2 386 57 rfl |>.trans zq_386_57) ?_
  refine w_lo dX9_begins_50 rfl rfl rfl rfl ?_
  refine w_ic dX9_begins_51 zi_0 ?_
  refine w_is dX9_begins_52 hU4256 rfl (k := 7) zt_7 (Nat.le_of_ble_eq_true rfl) ?_
  intro M4271 hU4272 hv4273 hn4274
  have f4275 := (hn4274 395 11 (by decide)).trans f4259
  have f4276 := (hn4274 395 12 (by decide)).trans f4260
  have f4277 := (hn4274 395 13 (by decide)).trans f4261
  have f4278 := (hn4274 395 14 (by decide)).trans f4262
  have f4279 := (hn4274 395 15 (by decide)).trans f4263
  have f4280 := (hn4274 395 16 (by decide)).trans f4264
  have f4281 := (hn4274 395 17 (by decide)).trans f4265
  have f4282 := (hn4274 395 18 (by decide)).trans f4266
  have f4283 := (hn4274 395 19 (by decide)).trans f4267
  have f4284 := (hn4274 395 20 (by decide)).trans f4268
  have f4285 := (hn4274 395 21 (by decide)).trans f4269
  have f4286 := (hn4274 386 12 (by decide)).trans f4270
  clear hn4274 f4259 f4260 f4261 f4262 f4263 f4264 f4265 f4266 f4267 f4268 f4269 f4270 hv4257 hU4256 M4255
  refine w_lo dX9_begins_53 rfl rfl rfl rfl ?_
  refine w_lo dX9_begins_54 rfl rfl rfl rfl ?_
  refine w_iv dX9_begins_55 rfl rfl (As := [.int 7]) rfl rfl hU4272.1 rfl (Nat.le_of_ble_eq_true rfl) ?_
  refine ZV.of (ini := false) rfl (Nat.le_of_ble_eq_true rfl) (by decide +kernel) ?_
  show ZW _ 8 9 false none cX9_clears _ (0, [some (.ref 386), some (.int 7)], [], M4271)
  refine w_lo dX9_clears_0 rfl rfl rfl rfl ?_
  refine w_gf dX9_clears_1 rfl hU4272.1 rfl ((hU4272).2 386 52 rfl |>.trans zq_386_52) ?_
  refine w_lo dX9_clears_4 rfl rfl rfl rfl ?_
  refine w_ic dX9_clears_5 zi_m1 ?_
  refine w_is dX9_clears_6 hU4272 rfl (k := 7) zt_7 (Nat.le_of_ble_eq_true rfl) ?_
  intro M4287 hU4288 hv4289 hn4290
  have f4291 := (hn4290 395 11 (by decide)).trans f4275
  have f4292 := (hn4290 395 12 (by decide)).trans f4276
  have f4293 := (hn4290 395 13 (by decide)).trans f4277
  have f4294 := (hn4290 395 14 (by decide)).trans f4278
  have f4295 := (hn4290 395 15 (by decide)).trans f4279
  have f4296 := (hn4290 395 16 (by decide)).trans f4280
  have f4297 := (hn4290 395 17 (by decide)).trans f4281
  have f4298 := (hn4290 395 18 (by decide)).trans f4282
  have f4299 := (hn4290 395 19 (by decide)).trans f4283
  have f4300 := (hn4290 395 20 (by decide)).trans f4284
  have f4301 := (hn4290 395 21 (by decide)).trans f4285
  have f4302 := (hn4290 386 12 (by decide)).trans f4286
  clear hn4290 f4275 f4276 f4277 f4278 f4279 f4280 f4281 f4282 f4283 f4284 f4285 f4286 hv4273 hU4272 M4271
  refine w_lo dX9_clears_7 rfl rfl rfl rfl ?_
  refine w_gf dX9_clears_8 rfl hU4288.1 rfl ((hU4288).2 386 53 rfl |>.trans zq_386_53) ?_
  refine w_lo dX9_clears_11 rfl rfl rfl rfl ?_
  refine w_ic dX9_clears_12 zi_0 ?_
  refine w_is dX9_clears_13 hU4288 rfl (k := 7) zt_7 (Nat.le_of_ble_eq_true rfl) ?_
  intro M4303 hU4304 hv4305 hn4306
  have f4307 := (hn4306 395 11 (by decide)).trans f4291
  have f4308 := (hn4306 395 12 (by decide)).trans f4292
  have f4309 := (hn4306 395 13 (by decide)).trans f4293
  have f4310 := (hn4306 395 14 (by decide)).trans f4294
  have f4311 := (hn4306 395 15 (by decide)).trans f4295
  have f4312 := (hn4306 395 16 (by decide)).trans f4296
  have f4313 := (hn4306 395 17 (by decide)).trans f4297
  have f4314 := (hn4306 395 18 (by decide)).trans f4298
  have f4315 := (hn4306 395 19 (by decide)).trans f4299
  have f4316 := (hn4306 395 20 (by decide)).trans f4300
  have f4317 := (hn4306 395 21 (by decide)).trans f4301
  have f4318 := (hn4306 386 12 (by decide)).trans f4302
  clear hn4306 f4291 f4292 f4293 f4294 f4295 f4296 f4297 f4298 f4299 f4300 f4301 f4302 hv4289 hU4288 M4287
  refine w_lo dX9_clears_14 rfl rfl rfl rfl ?_
  refine w_gf dX9_clears_15 rfl hU4304.1 rfl ((hU4304).2 386 54 rfl |>.trans zq_386_54) ?_
  refine w_lo dX9_clears_18 rfl rfl rfl rfl ?_
  refine w_ic dX9_clears_19 zi_m1 ?_
  refine w_is dX9_clears_20 hU4304 rfl (k := 7) zt_7 (Nat.le_of_ble_eq_true rfl) ?_
  intro M4319 hU4320 hv4321 hn4322
  have f4323 := (hn4322 395 11 (by decide)).trans f4307
  have f4324 := (hn4322 395 12 (by decide)).trans f4308
  have f4325 := (hn4322 395 13 (by decide)).trans f4309
  have f4326 := (hn4322 395 14 (by decide)).trans f4310
  have f4327 := (hn4322 395 15 (by decide)).trans f4311
  have f4328 := (hn4322 395 16 (by decide)).trans f4312
  have f4329 := (hn4322 395 17 (by decide)).trans f4313
  have f4330 := (hn4322 395 18 (by decide)).trans f4314
  have f4331 := (hn4322 395 19 (by decide)).trans f4315
  have f4332 := (hn4322 395 20 (by decide)).trans f4316
  have f4333 := (hn4322 395 21 (by decide)).trans f4317
  have f4334 := (hn4322 386 12 (by decide)).trans f4318
  clear hn4322 f4307 f4308 f4309 f4310 f4311 f4312 f4313 f4314 f4315 f4316 f4317 f4318 hv4305 hU4304 M4303
  refine w_lo dX9_clears_21 rfl rfl rfl rfl ?_
  refine w_gf dX9_clears_22 rfl hU4320.1 rfl ((hU4320).2 386 55 rfl |>.trans zq_386_55) ?_
  refine w_lo dX9_clears_25 rfl rfl rfl rfl ?_
  refine w_ic dX9_clears_26 zi_0 ?_
  refine w_is dX9_clears_27 hU4320 rfl (k := 7) zt_7 (Nat.le_of_ble_eq_true rfl) ?_
  intro M4335 hU4336 hv4337 hn4338
  have f4339 := (hn4338 395 11 (by decide)).trans f4323
  have f4340 := (hn4338 395 12 (by decide)).trans f4324
  have f4341 := (hn4338 395 13 (by decide)).trans f4325
  have f4342 := (hn4338 395 14 (by decide)).trans f4326
  have f4343 := (hn4338 395 15 (by decide)).trans f4327
  have f4344 := (hn4338 395 16 (by decide)).trans f4328
  have f4345 := (hn4338 395 17 (by decide)).trans f4329
  have f4346 := (hn4338 395 18 (by decide)).trans f4330
  have f4347 := (hn4338 395 19 (by decide)).trans f4331
  have f4348 := (hn4338 395 20 (by decide)).trans f4332
  have f4349 := (hn4338 395 21 (by decide)).trans f4333
  have f4350 := (hn4338 386 12 (by decide)).trans f4334
  clear hn4338 f4323 f4324 f4325 f4326 f4327 f4328 f4329 f4330 f4331 f4332 f4333 f4334 hv4321 hU4320 M4319
  refine w_lo dX9_clears_28 rfl rfl rfl rfl ?_
  refine w_gf dX9_clears_29 rfl hU4336.1 rfl ((hU4336).2 386 56 rfl |>.trans zq_386_56) ?_
  refine w_lo dX9_clears_32 rfl rfl rfl rfl ?_
  refine w_ic dX9_clears_33 zi_0 ?_
  refine w_is dX9_clears_34 hU4336 rfl (k := 7) zt_7 (Nat.le_of_ble_eq_true rfl) ?_
  intro M4351 hU4352 hv4353 hn4354
  have f4355 := (hn4354 395 11 (by decide)).trans f4339
  have f4356 := (hn4354 395 12 (by decide)).trans f4340
  have f4357 := (hn4354 395 13 (by decide)).trans f4341
  have f4358 := (hn4354 395 14 (by decide)).trans f4342
  have f4359 := (hn4354 395 15 (by decide)).trans f4343
  have f4360 := (hn4354 395 16 (by decide)).trans f4344
  have f4361 := (hn4354 395 17 (by decide)).trans f4345
  have f4362 := (hn4354 395 18 (by decide)).trans f4346
  have f4363 := (hn4354 395 19 (by decide)).trans f4347
  have f4364 := (hn4354 395 20 (by decide)).trans f4348
  have f4365 := (hn4354 395 21 (by decide)).trans f4349
  have f4366 := (hn4354 386 12 (by decide)).trans f4350
  clear hn4354 f4339 f4340 f4341 f4342 f4343 f4344 f4345 f4346 f4347 f4348 f4349 f4350 hv4337 hU4336 M4335
  refine w_lo dX9_clears_35 rfl rfl rfl rfl ?_
  refine w_gf dX9_clears_36 rfl hU4352.1 rfl ((hU4352).2 386 58 rfl |>.trans zq_386_58) ?_
  refine w_lo dX9_clears_39 rfl rfl rfl rfl ?_
  refine w_ic dX9_clears_40 zi_0 ?_
  refine w_is dX9_clears_41 hU4352 rfl (k := 7) zt_7 (Nat.le_of_ble_eq_true rfl) ?_
  intro M4367 hU4368 hv4369 hn4370
  have f4371 := (hn4370 395 11 (by decide)).trans f4355
  have f4372 := (hn4370 395 12 (by decide)).trans f4356
  have f4373 := (hn4370 395 13 (by decide)).trans f4357
  have f4374 := (hn4370 395 14 (by decide)).trans f4358
  have f4375 := (hn4370 395 15 (by decide)).trans f4359
  have f4376 := (hn4370 395 16 (by decide)).trans f4360
  have f4377 := (hn4370 395 17 (by decide)).trans f4361
  have f4378 := (hn4370 395 18 (by decide)).trans f4362
  have f4379 := (hn4370 395 19 (by decide)).trans f4363
  have f4380 := (hn4370 395 20 (by decide)).trans f4364
  have f4381 := (hn4370 395 21 (by decide)).trans f4365
  have f4382 := (hn4370 386 12 (by decide)).trans f4366
  clear hn4370 f4355 f4356 f4357 f4358 f4359 f4360 f4361 f4362 f4363 f4364 f4365 f4366 hv4353 hU4352 M4351
  refine w_lo dX9_clears_42 rfl rfl rfl rfl ?_
  refine w_gf dX9_clears_43 rfl hU4368.1 rfl ((hU4368).2 386 59 rfl |>.trans zq_386_59) ?_
  refine w_lo dX9_clears_46 rfl rfl rfl rfl ?_
  refine w_ic dX9_clears_47 zi_0 ?_
  refine w_is dX9_clears_48 hU4368 rfl (k := 7) zt_7 (Nat.le_of_ble_eq_true rfl) ?_
  intro M4383 hU4384 hv4385 hn4386
  have f4387 := (hn4386 395 11 (by decide)).trans f4371
  have f4388 := (hn4386 395 12 (by decide)).trans f4372
  have f4389 := (hn4386 395 13 (by decide)).trans f4373
  have f4390 := (hn4386 395 14 (by decide)).trans f4374
  have f4391 := (hn4386 395 15 (by decide)).trans f4375
  have f4392 := (hn4386 395 16 (by decide)).trans f4376
  have f4393 := (hn4386 395 17 (by decide)).trans f4377
  have f4394 := (hn4386 395 18 (by decide)).trans f4378
  have f4395 := (hn4386 395 19 (by decide)).trans f4379
  have f4396 := (hn4386 395 20 (by decide)).trans f4380
  have f4397 := (hn4386 395 21 (by decide)).trans f4381
  have f4398 := (hn4386 386 12 (by decide)).trans f4382
  clear hn4386 f4371 f4372 f4373 f4374 f4375 f4376 f4377 f4378 f4379 f4380 f4381 f4382 hv4369 hU4368 M4367
  refine w_en dX9_clears_49 rfl ?_
  show ZW _ 9 9 false none cX9_begins _ (58, [some (.ref 386), some (.int 7)], [], M4383)
  refine w_lo (ml' := [some (.ref 386), some (.int 8)]) dX9_begins_58 rfl rfl rfl rfl ?_
  refine w_gt dX9_begins_61 (t := 26) rfl ?_
  refine w_lo dX9_begins_26 rfl rfl rfl rfl ?_
  refine w_bi dX9_begins_27 (c := 12) (by decide) ?_
  refine w_cge_f dX9_begins_29 (t := 64) rfl (by decide) ?_
  refine w_lo dX9_begins_32 rfl rfl rfl rfl ?_
  refine w_gf dX9_begins_33 rfl hU4384.1 rfl ((hU4384).2 386 50 rfl |>.trans zq_386_50) ?_
  refine w_lo dX9_begins_36 rfl rfl rfl rfl ?_
  refine w_lo dX9_begins_37 rfl rfl rfl rfl ?_
  refine w_is dX9_begins_38 hU4384 rfl (k := 8) zt_8 (Nat.le_of_ble_eq_true rfl) ?_
  intro M4399 hU4400 hv4401 hn4402
  have f4403 := (hn4402 395 11 (by decide)).trans f4387
  have f4404 := (hn4402 395 12 (by decide)).trans f4388
  have f4405 := (hn4402 395 13 (by decide)).trans f4389
  have f4406 := (hn4402 395 14 (by decide)).trans f4390
  have f4407 := (hn4402 395 15 (by decide)).trans f4391
  have f4408 := (hn4402 395 16 (by decide)).trans f4392
  have f4409 := (hn4402 395 17 (by decide)).trans f4393
  have f4410 := (hn4402 395 18 (by decide)).trans f4394
  have f4411 := (hn4402 395 19 (by decide)).trans f4395
  have f4412 := (hn4402 395 20 (by decide)).trans f4396
  have f4413 := (hn4402 395 21 (by decide)).trans f4397
  have f4414 := (hn4402 386 12 (by decide)).trans f4398
  clear hn4402 f4387 f4388 f4389 f4390 f4391 f4392 f4393 f4394 f4395 f4396 f4397 f4398 hv4385 hU4384 M4383
  refine w_lo dX9_begins_39 rfl rfl rfl rfl ?_
  refine w_gf dX9_begins_40 rfl hU4400.1 rfl ((hU4400).2 386 51 rfl |>.trans zq_386_51) ?_
  refine w_lo dX9_begins_43 rfl rfl rfl rfl ?_
  refine w_ic dX9_begins_44 zi_1 ?_
  refine w_is dX9_begins_45 hU4400 rfl (k := 8) zt_8 (Nat.le_of_ble_eq_true rfl) ?_
  intro M4415 hU4416 hv4417 hn4418
  have f4419 := (hn4418 395 11 (by decide)).trans f4403
  have f4420 := (hn4418 395 12 (by decide)).trans f4404
  have f4421 := (hn4418 395 13 (by decide)).trans f4405
  have f4422 := (hn4418 395 14 (by decide)).trans f4406
  have f4423 := (hn4418 395 15 (by decide)).trans f4407
  have f4424 := (hn4418 395 16 (by decide)).trans f4408
  have f4425 := (hn4418 395 17 (by decide)).trans f4409
  have f4426 := (hn4418 395 18 (by decide)).trans f4410
  have f4427 := (hn4418 395 19 (by decide)).trans f4411
  have f4428 := (hn4418 395 20 (by decide)).trans f4412
  have f4429 := (hn4418 395 21 (by decide)).trans f4413
  have f4430 := (hn4418 386 12 (by decide)).trans f4414
  clear hn4418 f4403 f4404 f4405 f4406 f4407 f4408 f4409 f4410 f4411 f4412 f4413 f4414 hv4401 hU4400 M4399
  refine w_lo dX9_begins_46 rfl rfl rfl rfl ?_
  refine w_gf dX9_begins_47 rfl hU4416.1 rfl ((hU4416).2 386 57 rfl |>.trans zq_386_57) ?_
  refine w_lo dX9_begins_50 rfl rfl rfl rfl ?_
  refine w_ic dX9_begins_51 zi_0 ?_
  refine w_is dX9_begins_52 hU4416 rfl (k := 8) zt_8 (Nat.le_of_ble_eq_true rfl) ?_
  intro M4431 hU4432 hv4433 hn4434
  have f4435 := (hn4434 395 11 (by decide)).trans f4419
  have f4436 := (hn4434 395 12 (by decide)).trans f4420
  have f4437 := (hn4434 395 13 (by decide)).trans f4421
  have f4438 := (hn4434 395 14 (by decide)).trans f4422
  have f4439 := (hn4434 395 15 (by decide)).trans f4423
  have f4440 := (hn4434 395 16 (by decide)).trans f4424
  have f4441 := (hn4434 395 17 (by decide)).trans f4425
  have f4442 := (hn4434 395 18 (by decide)).trans f4426
  have f4443 := (hn4434 395 19 (by decide)).trans f4427
  have f4444 := (hn4434 395 20 (by decide)).trans f4428
  have f4445 := (hn4434 395 21 (by decide)).trans f4429
  have f4446 := (hn4434 386 12 (by decide)).trans f4430
  clear hn4434 f4419 f4420 f4421 f4422 f4423 f4424 f4425 f4426 f4427 f4428 f4429 f4430 hv4417 hU4416 M4415
  refine w_lo dX9_begins_53 rfl rfl rfl rfl ?_
  refine w_lo dX9_begins_54 rfl rfl rfl rfl ?_
  refine w_iv dX9_begins_55 rfl rfl (As := [.int 8]) rfl rfl hU4432.1 rfl (Nat.le_of_ble_eq_true rfl) ?_
  refine ZV.of (ini := false) rfl (Nat.le_of_ble_eq_true rfl) (by decide +kernel) ?_
  show ZW _ 8 9 false none cX9_clears _ (0, [some (.ref 386), some (.int 8)], [], M4431)
  refine w_lo dX9_clears_0 rfl rfl rfl rfl ?_
  refine w_gf dX9_clears_1 rfl hU4432.1 rfl ((hU4432).2 386 52 rfl |>.trans zq_386_52) ?_
  refine w_lo dX9_clears_4 rfl rfl rfl rfl ?_
  refine w_ic dX9_clears_5 zi_m1 ?_
  refine w_is dX9_clears_6 hU4432 rfl (k := 8) zt_8 (Nat.le_of_ble_eq_true rfl) ?_
  intro M4447 hU4448 hv4449 hn4450
  have f4451 := (hn4450 395 11 (by decide)).trans f4435
  have f4452 := (hn4450 395 12 (by decide)).trans f4436
  have f4453 := (hn4450 395 13 (by decide)).trans f4437
  have f4454 := (hn4450 395 14 (by decide)).trans f4438
  have f4455 := (hn4450 395 15 (by decide)).trans f4439
  have f4456 := (hn4450 395 16 (by decide)).trans f4440
  have f4457 := (hn4450 395 17 (by decide)).trans f4441
  have f4458 := (hn4450 395 18 (by decide)).trans f4442
  have f4459 := (hn4450 395 19 (by decide)).trans f4443
  have f4460 := (hn4450 395 20 (by decide)).trans f4444
  have f4461 := (hn4450 395 21 (by decide)).trans f4445
  have f4462 := (hn4450 386 12 (by decide)).trans f4446
  clear hn4450 f4435 f4436 f4437 f4438 f4439 f4440 f4441 f4442 f4443 f4444 f4445 f4446 hv4433 hU4432 M4431
  refine w_lo dX9_clears_7 rfl rfl rfl rfl ?_
  refine w_gf dX9_clears_8 rfl hU4448.1 rfl ((hU4448).2 386 53 rfl |>.trans zq_386_53) ?_
  refine w_lo dX9_clears_11 rfl rfl rfl rfl ?_
  refine w_ic dX9_clears_12 zi_0 ?_
  refine w_is dX9_clears_13 hU4448 rfl (k := 8) zt_8 (Nat.le_of_ble_eq_true rfl) ?_
  intro M4463 hU4464 hv4465 hn4466
  have f4467 := (hn4466 395 11 (by decide)).trans f4451
  have f4468 := (hn4466 395 12 (by decide)).trans f4452
  have f4469 := (hn4466 395 13 (by decide)).trans f4453
  have f4470 := (hn4466 395 14 (by decide)).trans f4454
  have f4471 := (hn4466 395 15 (by decide)).trans f4455
  have f4472 := (hn4466 395 16 (by decide)).trans f4456
  have f4473 := (hn4466 395 17 (by decide)).trans f4457
  have f4474 := (hn4466 395 18 (by decide)).trans f4458
  have f4475 := (hn4466 395 19 (by decide)).trans f4459
  have f4476 := (hn4466 395 20 (by decide)).trans f4460
  have f4477 := (hn4466 395 21 (by decide)).trans f4461
  have f4478 := (hn4466 386 12 (by decide)).trans f4462
  clear hn4466 f4451 f4452 f4453 f4454 f4455 f4456 f4457 f4458 f4459 f4460 f4461 f4462 hv4449 hU4448 M4447
  refine w_lo dX9_clears_14 rfl rfl rfl rfl ?_
  refine w_gf dX9_clears_15 rfl hU4464.1 rfl ((hU4464).2 386 54 rfl |>.trans zq_386_54) ?_
  refine w_lo dX9_clears_18 rfl rfl rfl rfl ?_
  refine w_ic dX9_clears_19 zi_m1 ?_
  refine w_is dX9_clears_20 hU4464 rfl (k := 8) zt_8 (Nat.le_of_ble_eq_true rfl) ?_
  intro M4479 hU4480 hv4481 hn4482
  have f4483 := (hn4482 395 11 (by decide)).trans f4467
  have f4484 := (hn4482 395 12 (by decide)).trans f4468
  have f4485 := (hn4482 395 13 (by decide)).trans f4469
  have f4486 := (hn4482 395 14 (by decide)).trans f4470
  have f4487 := (hn4482 395 15 (by decide)).trans f4471
  have f4488 := (hn4482 395 16 (by decide)).trans f4472
  have f4489 := (hn4482 395 17 (by decide)).trans f4473
  have f4490 := (hn4482 395 18 (by decide)).trans f4474
  have f4491 := (hn4482 395 19 (by decide)).trans f4475
  have f4492 := (hn4482 395 20 (by decide)).trans f4476
  have f4493 := (hn4482 395 21 (by decide)).trans f4477
  have f4494 := (hn4482 386 12 (by decide)).trans f4478
  clear hn4482 f4467 f4468 f4469 f4470 f4471 f4472 f4473 f4474 f4475 f4476 f4477 f4478 hv4465 hU4464 M4463
  refine w_lo dX9_clears_21 rfl rfl rfl rfl ?_
  refine w_gf dX9_clears_22 rfl hU4480.1 rfl ((hU4480).2 386 55 rfl |>.trans zq_386_55) ?_
  refine w_lo dX9_clears_25 rfl rfl rfl rfl ?_
  refine w_ic dX9_clears_26 zi_0 ?_
  refine w_is dX9_clears_27 hU4480 rfl (k := 8) zt_8 (Nat.le_of_ble_eq_true rfl) ?_
  intro M4495 hU4496 hv4497 hn4498
  have f4499 := (hn4498 395 11 (by decide)).trans f4483
  have f4500 := (hn4498 395 12 (by decide)).trans f4484
  have f4501 := (hn4498 395 13 (by decide)).trans f4485
  have f4502 := (hn4498 395 14 (by decide)).trans f4486
  have f4503 := (hn4498 395 15 (by decide)).trans f4487
  have f4504 := (hn4498 395 16 (by decide)).trans f4488
  have f4505 := (hn4498 395 17 (by decide)).trans f4489
  have f4506 := (hn4498 395 18 (by decide)).trans f4490
  have f4507 := (hn4498 395 19 (by decide)).trans f4491
  have f4508 := (hn4498 395 20 (by decide)).trans f4492
  have f4509 := (hn4498 395 21 (by decide)).trans f4493
  have f4510 := (hn4498 386 12 (by decide)).trans f4494
  clear hn4498 f4483 f4484 f4485 f4486 f4487 f4488 f4489 f4490 f4491 f4492 f4493 f4494 hv4481 hU4480 M4479
  refine w_lo dX9_clears_28 rfl rfl rfl rfl ?_
  refine w_gf dX9_clears_29 rfl hU4496.1 rfl ((hU4496).2 386 56 rfl |>.trans zq_386_56) ?_
  refine w_lo dX9_clears_32 rfl rfl rfl rfl ?_
  refine w_ic dX9_clears_33 zi_0 ?_
  refine w_is dX9_clears_34 hU4496 rfl (k := 8) zt_8 (Nat.le_of_ble_eq_true rfl) ?_
  intro M4511 hU4512 hv4513 hn4514
  have f4515 := (hn4514 395 11 (by decide)).trans f4499
  have f4516 := (hn4514 395 12 (by decide)).trans f4500
  have f4517 := (hn4514 395 13 (by decide)).trans f4501
  have f4518 := (hn4514 395 14 (by decide)).trans f4502
  have f4519 := (hn4514 395 15 (by decide)).trans f4503
  have f4520 := (hn4514 395 16 (by decide)).trans f4504
  have f4521 := (hn4514 395 17 (by decide)).trans f4505
  have f4522 := (hn4514 395 18 (by decide)).trans f4506
  have f4523 := (hn4514 395 19 (by decide)).trans f4507
  have f4524 := (hn4514 395 20 (by decide)).trans f4508
  have f4525 := (hn4514 395 21 (by decide)).trans f4509
  have f4526 := (hn4514 386 12 (by decide)).trans f4510
  clear hn4514 f4499 f4500 f4501 f4502 f4503 f4504 f4505 f4506 f4507 f4508 f4509 f4510 hv4497 hU4496 M4495
  refine w_lo dX9_clears_35 rfl rfl rfl rfl ?_
  refine w_gf dX9_clears_36 rfl hU4512.1 rfl ((hU4512).2 386 58 rfl |>.trans zq_386_58) ?_
  refine w_lo dX9_clears_39 rfl rfl rfl rfl ?_
  refine w_ic dX9_clears_40 zi_0 ?_
  refine w_is dX9_clears_41 hU4512 rfl (k := 8) zt_8 (Nat.le_of_ble_eq_true rfl) ?_
  intro M4527 hU4528 hv4529 hn4530
  have f4531 := (hn4530 395 11 (by decide)).trans f4515
  have f4532 := (hn4530 395 12 (by decide)).trans f4516
  have f4533 := (hn4530 395 13 (by decide)).trans f4517
  have f4534 := (hn4530 395 14 (by decide)).trans f4518
  have f4535 := (hn4530 395 15 (by decide)).trans f4519
  have f4536 := (hn4530 395 16 (by decide)).trans f4520
  have f4537 := (hn4530 395 17 (by decide)).trans f4521
  have f4538 := (hn4530 395 18 (by decide)).trans f4522
  have f4539 := (hn4530 395 19 (by decide)).trans f4523
  have f4540 := (hn4530 395 20 (by decide)).trans f4524
  have f4541 := (hn4530 395 21 (by decide)).trans f4525
  have f4542 := (hn4530 386 12 (by decide)).trans f4526
  clear hn4530 f4515 f4516 f4517 f4518 f4519 f4520 f4521 f4522 f4523 f4524 f4525 f4526 hv4513 hU4512 M4511
  refine w_lo dX9_clears_42 rfl rfl rfl rfl ?_
  refine w_gf dX9_clears_43 rfl hU4528.1 rfl ((hU4528).2 386 59 rfl |>.trans zq_386_59) ?_
  refine w_lo dX9_clears_46 rfl rfl rfl rfl ?_
  refine w_ic dX9_clears_47 zi_0 ?_
  refine w_is dX9_clears_48 hU4528 rfl (k := 8) zt_8 (Nat.le_of_ble_eq_true rfl) ?_
  intro M4543 hU4544 hv4545 hn4546
  have f4547 := (hn4546 395 11 (by decide)).trans f4531
  have f4548 := (hn4546 395 12 (by decide)).trans f4532
  have f4549 := (hn4546 395 13 (by decide)).trans f4533
  have f4550 := (hn4546 395 14 (by decide)).trans f4534
  have f4551 := (hn4546 395 15 (by decide)).trans f4535
  have f4552 := (hn4546 395 16 (by decide)).trans f4536
  have f4553 := (hn4546 395 17 (by decide)).trans f4537
  have f4554 := (hn4546 395 18 (by decide)).trans f4538
  have f4555 := (hn4546 395 19 (by decide)).trans f4539
  have f4556 := (hn4546 395 20 (by decide)).trans f4540
  have f4557 := (hn4546 395 21 (by decide)).trans f4541
  have f4558 := (hn4546 386 12 (by decide)).trans f4542
  clear hn4546 f4531 f4532 f4533 f4534 f4535 f4536 f4537 f4538 f4539 f4540 f4541 f4542 hv4529 hU4528 M4527
  refine w_en dX9_clears_49 rfl ?_
  show ZW _ 9 9 false none cX9_begins _ (58, [some (.ref 386), some (.int 8)], [], M4543)
  refine w_lo (ml' := [some (.ref 386), some (.int 9)]) dX9_begins_58 rfl rfl rfl rfl ?_
  refine w_gt dX9_begins_61 (t := 26) rfl ?_
  refine w_lo dX9_begins_26 rfl rfl rfl rfl ?_
  refine w_bi dX9_begins_27 (c := 12) (by decide) ?_
  refine w_cge_f dX9_begins_29 (t := 64) rfl (by decide) ?_
  refine w_lo dX9_begins_32 rfl rfl rfl rfl ?_
  refine w_gf dX9_begins_33 rfl hU4544.1 rfl ((hU4544).2 386 50 rfl |>.trans zq_386_50) ?_
  refine w_lo dX9_begins_36 rfl rfl rfl rfl ?_
  refine w_lo dX9_begins_37 rfl rfl rfl rfl ?_
  refine w_is dX9_begins_38 hU4544 rfl (k := 9) zt_9 (Nat.le_of_ble_eq_true rfl) ?_
  intro M4559 hU4560 hv4561 hn4562
  have f4563 := (hn4562 395 11 (by decide)).trans f4547
  have f4564 := (hn4562 395 12 (by decide)).trans f4548
  have f4565 := (hn4562 395 13 (by decide)).trans f4549
  have f4566 := (hn4562 395 14 (by decide)).trans f4550
  have f4567 := (hn4562 395 15 (by decide)).trans f4551
  have f4568 := (hn4562 395 16 (by decide)).trans f4552
  have f4569 := (hn4562 395 17 (by decide)).trans f4553
  have f4570 := (hn4562 395 18 (by decide)).trans f4554
  have f4571 := (hn4562 395 19 (by decide)).trans f4555
  have f4572 := (hn4562 395 20 (by decide)).trans f4556
  have f4573 := (hn4562 395 21 (by decide)).trans f4557
  have f4574 := (hn4562 386 12 (by decide)).trans f4558
  clear hn4562 f4547 f4548 f4549 f4550 f4551 f4552 f4553 f4554 f4555 f4556 f4557 f4558 hv4545 hU4544 M4543
  refine w_lo dX9_begins_39 rfl rfl rfl rfl ?_
  refine w_gf dX9_begins_40 rfl hU4560.1 rfl ((hU4560).2 386 51 rfl |>.trans zq_386_51) ?_
  refine w_lo dX9_begins_43 rfl rfl rfl rfl ?_
  refine w_ic dX9_begins_44 zi_1 ?_
  refine w_is dX9_begins_45 hU4560 rfl (k := 9) zt_9 (Nat.le_of_ble_eq_true rfl) ?_
  intro M4575 hU4576 hv4577 hn4578
  have f4579 := (hn4578 395 11 (by decide)).trans f4563
  have f4580 := (hn4578 395 12 (by decide)).trans f4564
  have f4581 := (hn4578 395 13 (by decide)).trans f4565
  have f4582 := (hn4578 395 14 (by decide)).trans f4566
  have f4583 := (hn4578 395 15 (by decide)).trans f4567
  have f4584 := (hn4578 395 16 (by decide)).trans f4568
  have f4585 := (hn4578 395 17 (by decide)).trans f4569
  have f4586 := (hn4578 395 18 (by decide)).trans f4570
  have f4587 := (hn4578 395 19 (by decide)).trans f4571
  have f4588 := (hn4578 395 20 (by decide)).trans f4572
  have f4589 := (hn4578 395 21 (by decide)).trans f4573
  have f4590 := (hn4578 386 12 (by decide)).trans f4574
  clear hn4578 f4563 f4564 f4565 f4566 f4567 f4568 f4569 f4570 f4571 f4572 f4573 f4574 hv4561 hU4560 M4559
  refine w_lo dX9_begins_46 rfl rfl rfl rfl ?_
  refine w_gf dX9_begins_47 rfl hU4576.1 rfl ((hU4576).2 386 57 rfl |>.trans zq_386_57) ?_
  refine w_lo dX9_begins_50 rfl rfl rfl rfl ?_
  refine w_ic dX9_begins_51 zi_0 ?_
  refine w_is dX9_begins_52 hU4576 rfl (k := 9) zt_9 (Nat.le_of_ble_eq_true rfl) ?_
  intro M4591 hU4592 hv4593 hn4594
  have f4595 := (hn4594 395 11 (by decide)).trans f4579
  have f4596 := (hn4594 395 12 (by decide)).trans f4580
  have f4597 := (hn4594 395 13 (by decide)).trans f4581
  have f4598 := (hn4594 395 14 (by decide)).trans f4582
  have f4599 := (hn4594 395 15 (by decide)).trans f4583
  have f4600 := (hn4594 395 16 (by decide)).trans f4584
  have f4601 := (hn4594 395 17 (by decide)).trans f4585
  have f4602 := (hn4594 395 18 (by decide)).trans f4586
  have f4603 := (hn4594 395 19 (by decide)).trans f4587
  have f4604 := (hn4594 395 20 (by decide)).trans f4588
  have f4605 := (hn4594 395 21 (by decide)).trans f4589
  have f4606 := (hn4594 386 12 (by decide)).trans f4590
  clear hn4594 f4579 f4580 f4581 f4582 f4583 f4584 f4585 f4586 f4587 f4588 f4589 f4590 hv4577 hU4576 M4575
  refine w_lo dX9_begins_53 rfl rfl rfl rfl ?_
  refine w_lo dX9_begins_54 rfl rfl rfl rfl ?_
  refine w_iv dX9_begins_55 rfl rfl (As := [.int 9]) rfl rfl hU4592.1 rfl (Nat.le_of_ble_eq_true rfl) ?_
  refine ZV.of (ini := false) rfl (Nat.le_of_ble_eq_true rfl) (by decide +kernel) ?_
  show ZW _ 8 9 false none cX9_clears _ (0, [some (.ref 386), some (.int 9)], [], M4591)
  refine w_lo dX9_clears_0 rfl rfl rfl rfl ?_
  refine w_gf dX9_clears_1 rfl hU4592.1 rfl ((hU4592).2 386 52 rfl |>.trans zq_386_52) ?_
  refine w_lo dX9_clears_4 rfl rfl rfl rfl ?_
  refine w_ic dX9_clears_5 zi_m1 ?_
  refine w_is dX9_clears_6 hU4592 rfl (k := 9) zt_9 (Nat.le_of_ble_eq_true rfl) ?_
  intro M4607 hU4608 hv4609 hn4610
  have f4611 := (hn4610 395 11 (by decide)).trans f4595
  have f4612 := (hn4610 395 12 (by decide)).trans f4596
  have f4613 := (hn4610 395 13 (by decide)).trans f4597
  have f4614 := (hn4610 395 14 (by decide)).trans f4598
  have f4615 := (hn4610 395 15 (by decide)).trans f4599
  have f4616 := (hn4610 395 16 (by decide)).trans f4600
  have f4617 := (hn4610 395 17 (by decide)).trans f4601
  have f4618 := (hn4610 395 18 (by decide)).trans f4602
  have f4619 := (hn4610 395 19 (by decide)).trans f4603
  have f4620 := (hn4610 395 20 (by decide)).trans f4604
  have f4621 := (hn4610 395 21 (by decide)).trans f4605
  have f4622 := (hn4610 386 12 (by decide)).trans f4606
  clear hn4610 f4595 f4596 f4597 f4598 f4599 f4600 f4601 f4602 f4603 f4604 f4605 f4606 hv4593 hU4592 M4591
  refine w_lo dX9_clears_7 rfl rfl rfl rfl ?_
  refine w_gf dX9_clears_8 rfl hU4608.1 rfl ((hU4608).2 386 53 rfl |>.trans zq_386_53) ?_
  refine w_lo dX9_clears_11 rfl rfl rfl rfl ?_
  refine w_ic dX9_clears_12 zi_0 ?_
  refine w_is dX9_clears_13 hU4608 rfl (k := 9) zt_9 (Nat.le_of_ble_eq_true rfl) ?_
  intro M4623 hU4624 hv4625 hn4626
  have f4627 := (hn4626 395 11 (by decide)).trans f4611
  have f4628 := (hn4626 395 12 (by decide)).trans f4612
  have f4629 := (hn4626 395 13 (by decide)).trans f4613
  have f4630 := (hn4626 395 14 (by decide)).trans f4614
  have f4631 := (hn4626 395 15 (by decide)).trans f4615
  have f4632 := (hn4626 395 16 (by decide)).trans f4616
  have f4633 := (hn4626 395 17 (by decide)).trans f4617
  have f4634 := (hn4626 395 18 (by decide)).trans f4618
  have f4635 := (hn4626 395 19 (by decide)).trans f4619
  have f4636 := (hn4626 395 20 (by decide)).trans f4620
  have f4637 := (hn4626 395 21 (by decide)).trans f4621
  have f4638 := (hn4626 386 12 (by decide)).trans f4622
  clear hn4626 f4611 f4612 f4613 f4614 f4615 f4616 f4617 f4618 f4619 f4620 f4621 f4622 hv4609 hU4608 M4607
  refine w_lo dX9_clears_14 rfl rfl rfl rfl ?_
  refine w_gf dX9_clears_15 rfl hU4624.1 rfl ((hU4624).2 386 54 rfl |>.trans zq_386_54) ?_
  refine w_lo dX9_clears_18 rfl rfl rfl rfl ?_
  refine w_ic dX9_clears_19 zi_m1 ?_
  refine w_is dX9_clears_20 hU4624 rfl (k := 9) zt_9 (Nat.le_of_ble_eq_true rfl) ?_
  intro M4639 hU4640 hv4641 hn4642
  have f4643 := (hn4642 395 11 (by decide)).trans f4627
  have f4644 := (hn4642 395 12 (by decide)).trans f4628
  have f4645 := (hn4642 395 13 (by decide)).trans f4629
  have f4646 := (hn4642 395 14 (by decide)).trans f4630
  have f4647 := (hn4642 395 15 (by decide)).trans f4631
  have f4648 := (hn4642 395 16 (by decide)).trans f4632
  have f4649 := (hn4642 395 17 (by decide)).trans f4633
  have f4650 := (hn4642 395 18 (by decide)).trans f4634
  have f4651 := (hn4642 395 19 (by decide)).trans f4635
  have f4652 := (hn4642 395 20 (by decide)).trans f4636
  have f4653 := (hn4642 395 21 (by decide)).trans f4637
  have f4654 := (hn4642 386 12 (by decide)).trans f4638
  clear hn4642 f4627 f4628 f4629 f4630 f4631 f4632 f4633 f4634 f4635 f4636 f4637 f4638 hv4625 hU4624 M4623
  refine w_lo dX9_clears_21 rfl rfl rfl rfl ?_
  refine w_gf dX9_clears_22 rfl hU4640.1 rfl ((hU4640).2 386 55 rfl |>.trans zq_386_55) ?_
  refine w_lo dX9_clears_25 rfl rfl rfl rfl ?_
  refine w_ic dX9_clears_26 zi_0 ?_
  refine w_is dX9_clears_27 hU4640 rfl (k := 9) zt_9 (Nat.le_of_ble_eq_true rfl) ?_
  intro M4655 hU4656 hv4657 hn4658
  have f4659 := (hn4658 395 11 (by decide)).trans f4643
  have f4660 := (hn4658 395 12 (by decide)).trans f4644
  have f4661 := (hn4658 395 13 (by decide)).trans f4645
  have f4662 := (hn4658 395 14 (by decide)).trans f4646
  have f4663 := (hn4658 395 15 (by decide)).trans f4647
  have f4664 := (hn4658 395 16 (by decide)).trans f4648
  have f4665 := (hn4658 395 17 (by decide)).trans f4649
  have f4666 := (hn4658 395 18 (by decide)).trans f4650
  have f4667 := (hn4658 395 19 (by decide)).trans f4651
  have f4668 := (hn4658 395 20 (by decide)).trans f4652
  have f4669 := (hn4658 395 21 (by decide)).trans f4653
  have f4670 := (hn4658 386 12 (by decide)).trans f4654
  clear hn4658 f4643 f4644 f4645 f4646 f4647 f4648 f4649 f4650 f4651 f4652 f4653 f4654 hv4641 hU4640 M4639
  refine w_lo dX9_clears_28 rfl rfl rfl rfl ?_
  refine w_gf dX9_clears_29 rfl hU4656.1 rfl ((hU4656).2 386 56 rfl |>.trans zq_386_56) ?_
  refine w_lo dX9_clears_32 rfl rfl rfl rfl ?_
  refine w_ic dX9_clears_33 zi_0 ?_
  refine w_is dX9_clears_34 hU4656 rfl (k := 9) zt_9 (Nat.le_of_ble_eq_true rfl) ?_
  intro M4671 hU4672 hv4673 hn4674
  have f4675 := (hn4674 395 11 (by decide)).trans f4659
  have f4676 := (hn4674 395 12 (by decide)).trans f4660
  have f4677 := (hn4674 395 13 (by decide)).trans f4661
  have f4678 := (hn4674 395 14 (by decide)).trans f4662
  have f4679 := (hn4674 395 15 (by decide)).trans f4663
  have f4680 := (hn4674 395 16 (by decide)).trans f4664
  have f4681 := (hn4674 395 17 (by decide)).trans f4665
  have f4682 := (hn4674 395 18 (by decide)).trans f4666
  have f4683 := (hn4674 395 19 (by decide)).trans f4667
  have f4684 := (hn4674 395 20 (by decide)).trans f4668
  have f4685 := (hn4674 395 21 (by decide)).trans f4669
  have f4686 := (hn4674 386 12 (by decide)).trans f4670
  clear hn4674 f4659 f4660 f4661 f4662 f4663 f4664 f4665 f4666 f4667 f4668 f4669 f4670 hv4657 hU4656 M4655
  refine w_lo dX9_clears_35 rfl rfl rfl rfl ?_
  refine w_gf dX9_clears_36 rfl hU4672.1 rfl ((hU4672).2 386 58 rfl |>.trans zq_386_58) ?_
  refine w_lo dX9_clears_39 rfl rfl rfl rfl ?_
  refine w_ic dX9_clears_40 zi_0 ?_
  refine w_is dX9_clears_41 hU4672 rfl (k := 9) zt_9 (Nat.le_of_ble_eq_true rfl) ?_
  intro M4687 hU4688 hv4689 hn4690
  have f4691 := (hn4690 395 11 (by decide)).trans f4675
  have f4692 := (hn4690 395 12 (by decide)).trans f4676
  have f4693 := (hn4690 395 13 (by decide)).trans f4677
  have f4694 := (hn4690 395 14 (by decide)).trans f4678
  have f4695 := (hn4690 395 15 (by decide)).trans f4679
  have f4696 := (hn4690 395 16 (by decide)).trans f4680
  have f4697 := (hn4690 395 17 (by decide)).trans f4681
  have f4698 := (hn4690 395 18 (by decide)).trans f4682
  have f4699 := (hn4690 395 19 (by decide)).trans f4683
  have f4700 := (hn4690 395 20 (by decide)).trans f4684
  have f4701 := (hn4690 395 21 (by decide)).trans f4685
  have f4702 := (hn4690 386 12 (by decide)).trans f4686
  clear hn4690 f4675 f4676 f4677 f4678 f4679 f4680 f4681 f4682 f4683 f4684 f4685 f4686 hv4673 hU4672 M4671
  refine w_lo dX9_clears_42 rfl rfl rfl rfl ?_
  refine w_gf dX9_clears_43 rfl hU4688.1 rfl ((hU4688).2 386 59 rfl |>.trans zq_386_59) ?_
  refine w_lo dX9_clears_46 rfl rfl rfl rfl ?_
  refine w_ic dX9_clears_47 zi_0 ?_
  refine w_is dX9_clears_48 hU4688 rfl (k := 9) zt_9 (Nat.le_of_ble_eq_true rfl) ?_
  intro M4703 hU4704 hv4705 hn4706
  have f4707 := (hn4706 395 11 (by decide)).trans f4691
  have f4708 := (hn4706 395 12 (by decide)).trans f4692
  have f4709 := (hn4706 395 13 (by decide)).trans f4693
  have f4710 := (hn4706 395 14 (by decide)).trans f4694
  have f4711 := (hn4706 395 15 (by decide)).trans f4695
  have f4712 := (hn4706 395 16 (by decide)).trans f4696
  have f4713 := (hn4706 395 17 (by decide)).trans f4697
  have f4714 := (hn4706 395 18 (by decide)).trans f4698
  have f4715 := (hn4706 395 19 (by decide)).trans f4699
  have f4716 := (hn4706 395 20 (by decide)).trans f4700
  have f4717 := (hn4706 395 21 (by decide)).trans f4701
  have f4718 := (hn4706 386 12 (by decide)).trans f4702
  clear hn4706 f4691 f4692 f4693 f4694 f4695 f4696 f4697 f4698 f4699 f4700 f4701 f4702 hv4689 hU4688 M4687
  refine w_en dX9_clears_49 rfl ?_
  show ZW _ 9 9 false none cX9_begins _ (58, [some (.ref 386), some (.int 9)], [], M4703)
  refine w_lo (ml' := [some (.ref 386), some (.int 10)]) dX9_begins_58 rfl rfl rfl rfl ?_
  refine w_gt dX9_begins_61 (t := 26) rfl ?_
  refine w_lo dX9_begins_26 rfl rfl rfl rfl ?_
  refine w_bi dX9_begins_27 (c := 12) (by decide) ?_
  refine w_cge_f dX9_begins_29 (t := 64) rfl (by decide) ?_
  refine w_lo dX9_begins_32 rfl rfl rfl rfl ?_
  refine w_gf dX9_begins_33 rfl hU4704.1 rfl ((hU4704).2 386 50 rfl |>.trans zq_386_50) ?_
  refine w_lo dX9_begins_36 rfl rfl rfl rfl ?_
  refine w_lo dX9_begins_37 rfl rfl rfl rfl ?_
  refine w_is dX9_begins_38 hU4704 rfl (k := 10) zt_10 (Nat.le_of_ble_eq_true rfl) ?_
  intro M4719 hU4720 hv4721 hn4722
  have f4723 := (hn4722 395 11 (by decide)).trans f4707
  have f4724 := (hn4722 395 12 (by decide)).trans f4708
  have f4725 := (hn4722 395 13 (by decide)).trans f4709
  have f4726 := (hn4722 395 14 (by decide)).trans f4710
  have f4727 := (hn4722 395 15 (by decide)).trans f4711
  have f4728 := (hn4722 395 16 (by decide)).trans f4712
  have f4729 := (hn4722 395 17 (by decide)).trans f4713
  have f4730 := (hn4722 395 18 (by decide)).trans f4714
  have f4731 := (hn4722 395 19 (by decide)).trans f4715
  have f4732 := (hn4722 395 20 (by decide)).trans f4716
  have f4733 := (hn4722 395 21 (by decide)).trans f4717
  have f4734 := (hn4722 386 12 (by decide)).trans f4718
  clear hn4722 f4707 f4708 f4709 f4710 f4711 f4712 f4713 f4714 f4715 f4716 f4717 f4718 hv4705 hU4704 M4703
  refine w_lo dX9_begins_39 rfl rfl rfl rfl ?_
  refine w_gf dX9_begins_40 rfl hU4720.1 rfl ((hU4720).2 386 51 rfl |>.trans zq_386_51) ?_
  refine w_lo dX9_begins_43 rfl rfl rfl rfl ?_
  refine w_ic dX9_begins_44 zi_1 ?_
  refine w_is dX9_begins_45 hU4720 rfl (k := 10) zt_10 (Nat.le_of_ble_eq_true rfl) ?_
  intro M4735 hU4736 hv4737 hn4738
  have f4739 := (hn4738 395 11 (by decide)).trans f4723
  have f4740 := (hn4738 395 12 (by decide)).trans f4724
  have f4741 := (hn4738 395 13 (by decide)).trans f4725
  have f4742 := (hn4738 395 14 (by decide)).trans f4726
  have f4743 := (hn4738 395 15 (by decide)).trans f4727
  have f4744 := (hn4738 395 16 (by decide)).trans f4728
  have f4745 := (hn4738 395 17 (by decide)).trans f4729
  have f4746 := (hn4738 395 18 (by decide)).trans f4730
  have f4747 := (hn4738 395 19 (by decide)).trans f4731
  have f4748 := (hn4738 395 20 (by decide)).trans f4732
  have f4749 := (hn4738 395 21 (by decide)).trans f4733
  have f4750 := (hn4738 386 12 (by decide)).trans f4734
  clear hn4738 f4723 f4724 f4725 f4726 f4727 f4728 f4729 f4730 f4731 f4732 f4733 f4734 hv4721 hU4720 M4719
  refine w_lo dX9_begins_46 rfl rfl rfl rfl ?_
  refine w_gf dX9_begins_47 rfl hU4736.1 rfl ((hU4736).2 386 57 rfl |>.trans zq_386_57) ?_
  refine w_lo dX9_begins_50 rfl rfl rfl rfl ?_
  refine w_ic dX9_begins_51 zi_0 ?_
  refine w_is dX9_begins_52 hU4736 rfl (k := 10) zt_10 (Nat.le_of_ble_eq_true rfl) ?_
  intro M4751 hU4752 hv4753 hn4754
  have f4755 := (hn4754 395 11 (by decide)).trans f4739
  have f4756 := (hn4754 395 12 (by decide)).trans f4740
  have f4757 := (hn4754 395 13 (by decide)).trans f4741
  have f4758 := (hn4754 395 14 (by decide)).trans f4742
  have f4759 := (hn4754 395 15 (by decide)).trans f4743
  have f4760 := (hn4754 395 16 (by decide)).trans f4744
  have f4761 := (hn4754 395 17 (by decide)).trans f4745
  have f4762 := (hn4754 395 18 (by decide)).trans f4746
  have f4763 := (hn4754 395 19 (by decide)).trans f4747
  have f4764 := (hn4754 395 20 (by decide)).trans f4748
  have f4765 := (hn4754 395 21 (by decide)).trans f4749
  have f4766 := (hn4754 386 12 (by decide)).trans f4750
  clear hn4754 f4739 f4740 f4741 f4742 f4743 f4744 f4745 f4746 f4747 f4748 f4749 f4750 hv4737 hU4736 M4735
  refine w_lo dX9_begins_53 rfl rfl rfl rfl ?_
  refine w_lo dX9_begins_54 rfl rfl rfl rfl ?_
  refine w_iv dX9_begins_55 rfl rfl (As := [.int 10]) rfl rfl hU4752.1 rfl (Nat.le_of_ble_eq_true rfl) ?_
  refine ZV.of (ini := false) rfl (Nat.le_of_ble_eq_true rfl) (by decide +kernel) ?_
  show ZW _ 8 9 false none cX9_clears _ (0, [some (.ref 386), some (.int 10)], [], M4751)
  refine w_lo dX9_clears_0 rfl rfl rfl rfl ?_
  refine w_gf dX9_clears_1 rfl hU4752.1 rfl ((hU4752).2 386 52 rfl |>.trans zq_386_52) ?_
  refine w_lo dX9_clears_4 rfl rfl rfl rfl ?_
  refine w_ic dX9_clears_5 zi_m1 ?_
  refine w_is dX9_clears_6 hU4752 rfl (k := 10) zt_10 (Nat.le_of_ble_eq_true rfl) ?_
  intro M4767 hU4768 hv4769 hn4770
  have f4771 := (hn4770 395 11 (by decide)).trans f4755
  have f4772 := (hn4770 395 12 (by decide)).trans f4756
  have f4773 := (hn4770 395 13 (by decide)).trans f4757
  have f4774 := (hn4770 395 14 (by decide)).trans f4758
  have f4775 := (hn4770 395 15 (by decide)).trans f4759
  have f4776 := (hn4770 395 16 (by decide)).trans f4760
  have f4777 := (hn4770 395 17 (by decide)).trans f4761
  have f4778 := (hn4770 395 18 (by decide)).trans f4762
  have f4779 := (hn4770 395 19 (by decide)).trans f4763
  have f4780 := (hn4770 395 20 (by decide)).trans f4764
  have f4781 := (hn4770 395 21 (by decide)).trans f4765
  have f4782 := (hn4770 386 12 (by decide)).trans f4766
  clear hn4770 f4755 f4756 f4757 f4758 f4759 f4760 f4761 f4762 f4763 f4764 f4765 f4766 hv4753 hU4752 M4751
  refine w_lo dX9_clears_7 rfl rfl rfl rfl ?_
  refine w_gf dX9_clears_8 rfl hU4768.1 rfl ((hU4768).2 386 53 rfl |>.trans zq_386_53) ?_
  refine w_lo dX9_clears_11 rfl rfl rfl rfl ?_
  refine w_ic dX9_clears_12 zi_0 ?_
  refine w_is dX9_clears_13 hU4768 rfl (k := 10) zt_10 (Nat.le_of_ble_eq_true rfl) ?_
  intro M4783 hU4784 hv4785 hn4786
  have f4787 := (hn4786 395 11 (by decide)).trans f4771
  have f4788 := (hn4786 395 12 (by decide)).trans f4772
  have f4789 := (hn4786 395 13 (by decide)).trans f4773
  have f4790 := (hn4786 395 14 (by decide)).trans f4774
  have f4791 := (hn4786 395 15 (by decide)).trans f4775
  have f4792 := (hn4786 395 16 (by decide)).trans f4776
  have f4793 := (hn4786 395 17 (by decide)).trans f4777
  have f4794 := (hn4786 395 18 (by decide)).trans f4778
  have f4795 := (hn4786 395 19 (by decide)).trans f4779
  have f4796 := (hn4786 395 20 (by decide)).trans f4780
  have f4797 := (hn4786 395 21 (by decide)).trans f4781
  have f4798 := (hn4786 386 12 (by decide)).trans f4782
  clear hn4786 f4771 f4772 f4773 f4774 f4775 f4776 f4777 f4778 f4779 f4780 f4781 f4782 hv4769 hU4768 M4767
  refine w_lo dX9_clears_14 rfl rfl rfl rfl ?_
  refine w_gf dX9_clears_15 rfl hU4784.1 rfl ((hU4784).2 386 54 rfl |>.trans zq_386_54) ?_
  refine w_lo dX9_clears_18 rfl rfl rfl rfl ?_
  refine w_ic dX9_clears_19 zi_m1 ?_
  refine w_is dX9_clears_20 hU4784 rfl (k := 10) zt_10 (Nat.le_of_ble_eq_true rfl) ?_
  intro M4799 hU4800 hv4801 hn4802
  have f4803 := (hn4802 395 11 (by decide)).trans f4787
  have f4804 := (hn4802 395 12 (by decide)).trans f4788
  have f4805 := (hn4802 395 13 (by decide)).trans f4789
  have f4806 := (hn4802 395 14 (by decide)).trans f4790
  have f4807 := (hn4802 395 15 (by decide)).trans f4791
  have f4808 := (hn4802 395 16 (by decide)).trans f4792
  have f4809 := (hn4802 395 17 (by decide)).trans f4793
  have f4810 := (hn4802 395 18 (by decide)).trans f4794
  have f4811 := (hn4802 395 19 (by decide)).trans f4795
  have f4812 := (hn4802 395 20 (by decide)).trans f4796
  have f4813 := (hn4802 395 21 (by decide)).trans f4797
  have f4814 := (hn4802 386 12 (by decide)).trans f4798
  clear hn4802 f4787 f4788 f4789 f4790 f4791 f4792 f4793 f4794 f4795 f4796 f4797 f4798 hv4785 hU4784 M4783
  refine w_lo dX9_clears_21 rfl rfl rfl rfl ?_
  refine w_gf dX9_clears_22 rfl hU4800.1 rfl ((hU4800).2 386 55 rfl |>.trans zq_386_55) ?_
  refine w_lo dX9_clears_25 rfl rfl rfl rfl ?_
  refine w_ic dX9_clears_26 zi_0 ?_
  refine w_is dX9_clears_27 hU4800 rfl (k := 10) zt_10 (Nat.le_of_ble_eq_true rfl) ?_
  intro M4815 hU4816 hv4817 hn4818
  have f4819 := (hn4818 395 11 (by decide)).trans f4803
  have f4820 := (hn4818 395 12 (by decide)).trans f4804
  have f4821 := (hn4818 395 13 (by decide)).trans f4805
  have f4822 := (hn4818 395 14 (by decide)).trans f4806
  have f4823 := (hn4818 395 15 (by decide)).trans f4807
  have f4824 := (hn4818 395 16 (by decide)).trans f4808
  have f4825 := (hn4818 395 17 (by decide)).trans f4809
  have f4826 := (hn4818 395 18 (by decide)).trans f4810
  have f4827 := (hn4818 395 19 (by decide)).trans f4811
  have f4828 := (hn4818 395 20 (by decide)).trans f4812
  have f4829 := (hn4818 395 21 (by decide)).trans f4813
  have f4830 := (hn4818 386 12 (by decide)).trans f4814
  clear hn4818 f4803 f4804 f4805 f4806 f4807 f4808 f4809 f4810 f4811 f4812 f4813 f4814 hv4801 hU4800 M4799
  refine w_lo dX9_clears_28 rfl rfl rfl rfl ?_
  refine w_gf dX9_clears_29 rfl hU4816.1 rfl ((hU4816).2 386 56 rfl |>.trans zq_386_56) ?_
  refine w_lo dX9_clears_32 rfl rfl rfl rfl ?_
  refine w_ic dX9_clears_33 zi_0 ?_
  refine w_is dX9_clears_34 hU4816 rfl (k := 10) zt_10 (Nat.le_of_ble_eq_true rfl) ?_
  intro M4831 hU4832 hv4833 hn4834
  have f4835 := (hn4834 395 11 (by decide)).trans f4819
  have f4836 := (hn4834 395 12 (by decide)).trans f4820
  have f4837 := (hn4834 395 13 (by decide)).trans f4821
  have f4838 := (hn4834 395 14 (by decide)).trans f4822
  have f4839 := (hn4834 395 15 (by decide)).trans f4823
  have f4840 := (hn4834 395 16 (by decide)).trans f4824
  have f4841 := (hn4834 395 17 (by decide)).trans f4825
  have f4842 := (hn4834 395 18 (by decide)).trans f4826
  have f4843 := (hn4834 395 19 (by decide)).trans f4827
  have f4844 := (hn4834 395 20 (by decide)).trans f4828
  have f4845 := (hn4834 395 21 (by decide)).trans f4829
  have f4846 := (hn4834 386 12 (by decide)).trans f4830
  clear hn4834 f4819 f4820 f4821 f4822 f4823 f4824 f4825 f4826 f4827 f4828 f4829 f4830 hv4817 hU4816 M4815
  refine w_lo dX9_clears_35 rfl rfl rfl rfl ?_
  refine w_gf dX9_clears_36 rfl hU4832.1 rfl ((hU4832).2 386 58 rfl |>.trans zq_386_58) ?_
  refine w_lo dX9_clears_39 rfl rfl rfl rfl ?_
  refine w_ic dX9_clears_40 zi_0 ?_
  refine w_is dX9_clears_41 hU4832 rfl (k := 10) zt_10 (Nat.le_of_ble_eq_true rfl) ?_
  intro M4847 hU4848 hv4849 hn4850
  have f4851 := (hn4850 395 11 (by decide)).trans f4835
  have f4852 := (hn4850 395 12 (by decide)).trans f4836
  have f4853 := (hn4850 395 13 (by decide)).trans f4837
  have f4854 := (hn4850 395 14 (by decide)).trans f4838
  have f4855 := (hn4850 395 15 (by decide)).trans f4839
  have f4856 := (hn4850 395 16 (by decide)).trans f4840
  have f4857 := (hn4850 395 17 (by decide)).trans f4841
  have f4858 := (hn4850 395 18 (by decide)).trans f4842
  have f4859 := (hn4850 395 19 (by decide)).trans f4843
  have f4860 := (hn4850 395 20 (by decide)).trans f4844
  have f4861 := (hn4850 395 21 (by decide)).trans f4845
  have f4862 := (hn4850 386 12 (by decide)).trans f4846
  clear hn4850 f4835 f4836 f4837 f4838 f4839 f4840 f4841 f4842 f4843 f4844 f4845 f4846 hv4833 hU4832 M4831
  refine w_lo dX9_clears_42 rfl rfl rfl rfl ?_
  refine w_gf dX9_clears_43 rfl hU4848.1 rfl ((hU4848).2 386 59 rfl |>.trans zq_386_59) ?_
  refine w_lo dX9_clears_46 rfl rfl rfl rfl ?_
  refine w_ic dX9_clears_47 zi_0 ?_
  refine w_is dX9_clears_48 hU4848 rfl (k := 10) zt_10 (Nat.le_of_ble_eq_true rfl) ?_
  intro M4863 hU4864 hv4865 hn4866
  have f4867 := (hn4866 395 11 (by decide)).trans f4851
  have f4868 := (hn4866 395 12 (by decide)).trans f4852
  have f4869 := (hn4866 395 13 (by decide)).trans f4853
  have f4870 := (hn4866 395 14 (by decide)).trans f4854
  have f4871 := (hn4866 395 15 (by decide)).trans f4855
  have f4872 := (hn4866 395 16 (by decide)).trans f4856
  have f4873 := (hn4866 395 17 (by decide)).trans f4857
  have f4874 := (hn4866 395 18 (by decide)).trans f4858
  have f4875 := (hn4866 395 19 (by decide)).trans f4859
  have f4876 := (hn4866 395 20 (by decide)).trans f4860
  have f4877 := (hn4866 395 21 (by decide)).trans f4861
  have f4878 := (hn4866 386 12 (by decide)).trans f4862
  clear hn4866 f4851 f4852 f4853 f4854 f4855 f4856 f4857 f4858 f4859 f4860 f4861 f4862 hv4849 hU4848 M4847
  refine w_en dX9_clears_49 rfl ?_
  show ZW _ 9 9 false none cX9_begins _ (58, [some (.ref 386), some (.int 10)], [], M4863)
  refine w_lo (ml' := [some (.ref 386), some (.int 11)]) dX9_begins_58 rfl rfl rfl rfl ?_
  refine w_gt dX9_begins_61 (t := 26) rfl ?_
  refine w_lo dX9_begins_26 rfl rfl rfl rfl ?_
  refine w_bi dX9_begins_27 (c := 12) (by decide) ?_
  refine w_cge_f dX9_begins_29 (t := 64) rfl (by decide) ?_
  refine w_lo dX9_begins_32 rfl rfl rfl rfl ?_
  refine w_gf dX9_begins_33 rfl hU4864.1 rfl ((hU4864).2 386 50 rfl |>.trans zq_386_50) ?_
  refine w_lo dX9_begins_36 rfl rfl rfl rfl ?_
  refine w_lo dX9_begins_37 rfl rfl rfl rfl ?_
  refine w_is dX9_begins_38 hU4864 rfl (k := 11) zt_11 (Nat.le_of_ble_eq_true rfl) ?_
  intro M4879 hU4880 hv4881 hn4882
  have f4883 := (hn4882 395 11 (by decide)).trans f4867
  have f4884 := (hn4882 395 12 (by decide)).trans f4868
  have f4885 := (hn4882 395 13 (by decide)).trans f4869
  have f4886 := (hn4882 395 14 (by decide)).trans f4870
  have f4887 := (hn4882 395 15 (by decide)).trans f4871
  have f4888 := (hn4882 395 16 (by decide)).trans f4872
  have f4889 := (hn4882 395 17 (by decide)).trans f4873
  have f4890 := (hn4882 395 18 (by decide)).trans f4874
  have f4891 := (hn4882 395 19 (by decide)).trans f4875
  have f4892 := (hn4882 395 20 (by decide)).trans f4876
  have f4893 := (hn4882 395 21 (by decide)).trans f4877
  have f4894 := (hn4882 386 12 (by decide)).trans f4878
  clear hn4882 f4867 f4868 f4869 f4870 f4871 f4872 f4873 f4874 f4875 f4876 f4877 f4878 hv4865 hU4864 M4863
  refine w_lo dX9_begins_39 rfl rfl rfl rfl ?_
  refine w_gf dX9_begins_40 rfl hU4880.1 rfl ((hU4880).2 386 51 rfl |>.trans zq_386_51) ?_
  refine w_lo dX9_begins_43 rfl rfl rfl rfl ?_
  refine w_ic dX9_begins_44 zi_1 ?_
  refine w_is dX9_begins_45 hU4880 rfl (k := 11) zt_11 (Nat.le_of_ble_eq_true rfl) ?_
  intro M4895 hU4896 hv4897 hn4898
  have f4899 := (hn4898 395 11 (by decide)).trans f4883
  have f4900 := (hn4898 395 12 (by decide)).trans f4884
  have f4901 := (hn4898 395 13 (by decide)).trans f4885
  have f4902 := (hn4898 395 14 (by decide)).trans f4886
  have f4903 := (hn4898 395 15 (by decide)).trans f4887
  have f4904 := (hn4898 395 16 (by decide)).trans f4888
  have f4905 := (hn4898 395 17 (by decide)).trans f4889
  have f4906 := (hn4898 395 18 (by decide)).trans f4890
  have f4907 := (hn4898 395 19 (by decide)).trans f4891
  have f4908 := (hn4898 395 20 (by decide)).trans f4892
  have f4909 := (hn4898 395 21 (by decide)).trans f4893
  have f4910 := (hn4898 386 12 (by decide)).trans f4894
  clear hn4898 f4883 f4884 f4885 f4886 f4887 f4888 f4889 f4890 f4891 f4892 f4893 f4894 hv4881 hU4880 M4879
  refine w_lo dX9_begins_46 rfl rfl rfl rfl ?_
  refine w_gf dX9_begins_47 rfl hU4896.1 rfl ((hU4896).2 386 57 rfl |>.trans zq_386_57) ?_
  refine w_lo dX9_begins_50 rfl rfl rfl rfl ?_
  refine w_ic dX9_begins_51 zi_0 ?_
  refine w_is dX9_begins_52 hU4896 rfl (k := 11) zt_11 (Nat.le_of_ble_eq_true rfl) ?_
  intro M4911 hU4912 hv4913 hn4914
  have f4915 := (hn4914 395 11 (by decide)).trans f4899
  have f4916 := (hn4914 395 12 (by decide)).trans f4900
  have f4917 := (hn4914 395 13 (by decide)).trans f4901
  have f4918 := (hn4914 395 14 (by decide)).trans f4902
  have f4919 := (hn4914 395 15 (by decide)).trans f4903
  have f4920 := (hn4914 395 16 (by decide)).trans f4904
  have f4921 := (hn4914 395 17 (by decide)).trans f4905
  have f4922 := (hn4914 395 18 (by decide)).trans f4906
  have f4923 := (hn4914 395 19 (by decide)).trans f4907
  have f4924 := (hn4914 395 20 (by decide)).trans f4908
  have f4925 := (hn4914 395 21 (by decide)).trans f4909
  have f4926 := (hn4914 386 12 (by decide)).trans f4910
  clear hn4914 f4899 f4900 f4901 f4902 f4903 f4904 f4905 f4906 f4907 f4908 f4909 f4910 hv4897 hU4896 M4895
  refine w_lo dX9_begins_53 rfl rfl rfl rfl ?_
  refine w_lo dX9_begins_54 rfl rfl rfl rfl ?_
  refine w_iv dX9_begins_55 rfl rfl (As := [.int 11]) rfl rfl hU4912.1 rfl (Nat.le_of_ble_eq_true rfl) ?_
  refine ZV.of (ini := false) rfl (Nat.le_of_ble_eq_true rfl) (by decide +kernel) ?_
  show ZW _ 8 9 false none cX9_clears _ (0, [some (.ref 386), some (.int 11)], [], M4911)
  refine w_lo dX9_clears_0 rfl rfl rfl rfl ?_
  refine w_gf dX9_clears_1 rfl hU4912.1 rfl ((hU4912).2 386 52 rfl |>.trans zq_386_52) ?_
  refine w_lo dX9_clears_4 rfl rfl rfl rfl ?_
  refine w_ic dX9_clears_5 zi_m1 ?_
  refine w_is dX9_clears_6 hU4912 rfl (k := 11) zt_11 (Nat.le_of_ble_eq_true rfl) ?_
  intro M4927 hU4928 hv4929 hn4930
  have f4931 := (hn4930 395 11 (by decide)).trans f4915
  have f4932 := (hn4930 395 12 (by decide)).trans f4916
  have f4933 := (hn4930 395 13 (by decide)).trans f4917
  have f4934 := (hn4930 395 14 (by decide)).trans f4918
  have f4935 := (hn4930 395 15 (by decide)).trans f4919
  have f4936 := (hn4930 395 16 (by decide)).trans f4920
  have f4937 := (hn4930 395 17 (by decide)).trans f4921
  have f4938 := (hn4930 395 18 (by decide)).trans f4922
  have f4939 := (hn4930 395 19 (by decide)).trans f4923
  have f4940 := (hn4930 395 20 (by decide)).trans f4924
  have f4941 := (hn4930 395 21 (by decide)).trans f4925
  have f4942 := (hn4930 386 12 (by decide)).trans f4926
  clear hn4930 f4915 f4916 f4917 f4918 f4919 f4920 f4921 f4922 f4923 f4924 f4925 f4926 hv4913 hU4912 M4911
  refine w_lo dX9_clears_7 rfl rfl rfl rfl ?_
  refine w_gf dX9_clears_8 rfl hU4928.1 rfl ((hU4928).2 386 53 rfl |>.trans zq_386_53) ?_
  refine w_lo dX9_clears_11 rfl rfl rfl rfl ?_
  refine w_ic dX9_clears_12 zi_0 ?_
  refine w_is dX9_clears_13 hU4928 rfl (k := 11) zt_11 (Nat.le_of_ble_eq_true rfl) ?_
  intro M4943 hU4944 hv4945 hn4946
  have f4947 := (hn4946 395 11 (by decide)).trans f4931
  have f4948 := (hn4946 395 12 (by decide)).trans f4932
  have f4949 := (hn4946 395 13 (by decide)).trans f4933
  have f4950 := (hn4946 395 14 (by decide)).trans f4934
  have f4951 := (hn4946 395 15 (by decide)).trans f4935
  have f4952 := (hn4946 395 16 (by decide)).trans f4936
  have f4953 := (hn4946 395 17 (by decide)).trans f4937
  have f4954 := (hn4946 395 18 (by decide)).trans f4938
  have f4955 := (hn4946 395 19 (by decide)).trans f4939
  have f4956 := (hn4946 395 20 (by decide)).trans f4940
  have f4957 := (hn4946 395 21 (by decide)).trans f4941
  have f4958 := (hn4946 386 12 (by decide)).trans f4942
  clear hn4946 f4931 f4932 f4933 f4934 f4935 f4936 f4937 f4938 f4939 f4940 f4941 f4942 hv4929 hU4928 M4927
  refine w_lo dX9_clears_14 rfl rfl rfl rfl ?_
  refine w_gf dX9_clears_15 rfl hU4944.1 rfl ((hU4944).2 386 54 rfl |>.trans zq_386_54) ?_
  refine w_lo dX9_clears_18 rfl rfl rfl rfl ?_
  refine w_ic dX9_clears_19 zi_m1 ?_
  refine w_is dX9_clears_20 hU4944 rfl (k := 11) zt_11 (Nat.le_of_ble_eq_true rfl) ?_
  intro M4959 hU4960 hv4961 hn4962
  have f4963 := (hn4962 395 11 (by decide)).trans f4947
  have f4964 := (hn4962 395 12 (by decide)).trans f4948
  have f4965 := (hn4962 395 13 (by decide)).trans f4949
  have f4966 := (hn4962 395 14 (by decide)).trans f4950
  have f4967 := (hn4962 395 15 (by decide)).trans f4951
  have f4968 := (hn4962 395 16 (by decide)).trans f4952
  have f4969 := (hn4962 395 17 (by decide)).trans f4953
  have f4970 := (hn4962 395 18 (by decide)).trans f4954
  have f4971 := (hn4962 395 19 (by decide)).trans f4955
  have f4972 := (hn4962 395 20 (by decide)).trans f4956
  have f4973 := (hn4962 395 21 (by decide)).trans f4957
  have f4974 := (hn4962 386 12 (by decide)).trans f4958
  clear hn4962 f4947 f4948 f4949 f4950 f4951 f4952 f4953 f4954 f4955 f4956 f4957 f4958 hv4945 hU4944 M4943
  refine w_lo dX9_clears_21 rfl rfl rfl rfl ?_
  refine w_gf dX9_clears_22 rfl hU4960.1 rfl ((hU4960).2 386 55 rfl |>.trans zq_386_55) ?_
  refine w_lo dX9_clears_25 rfl rfl rfl rfl ?_
  refine w_ic dX9_clears_26 zi_0 ?_
  refine w_is dX9_clears_27 hU4960 rfl (k := 11) zt_11 (Nat.le_of_ble_eq_true rfl) ?_
  intro M4975 hU4976 hv4977 hn4978
  have f4979 := (hn4978 395 11 (by decide)).trans f4963
  have f4980 := (hn4978 395 12 (by decide)).trans f4964
  have f4981 := (hn4978 395 13 (by decide)).trans f4965
  have f4982 := (hn4978 395 14 (by decide)).trans f4966
  have f4983 := (hn4978 395 15 (by decide)).trans f4967
  have f4984 := (hn4978 395 16 (by decide)).trans f4968
  have f4985 := (hn4978 395 17 (by decide)).trans f4969
  have f4986 := (hn4978 395 18 (by decide)).trans f4970
  have f4987 := (hn4978 395 19 (by decide)).trans f4971
  have f4988 := (hn4978 395 20 (by decide)).trans f4972
  have f4989 := (hn4978 395 21 (by decide)).trans f4973
  have f4990 := (hn4978 386 12 (by decide)).trans f4974
  clear hn4978 f4963 f4964 f4965 f4966 f4967 f4968 f4969 f4970 f4971 f4972 f4973 f4974 hv4961 hU4960 M4959
  refine w_lo dX9_clears_28 rfl rfl rfl rfl ?_
  refine w_gf dX9_clears_29 rfl hU4976.1 rfl ((hU4976).2 386 56 rfl |>.trans zq_386_56) ?_
  refine w_lo dX9_clears_32 rfl rfl rfl rfl ?_
  refine w_ic dX9_clears_33 zi_0 ?_
  refine w_is dX9_clears_34 hU4976 rfl (k := 11) zt_11 (Nat.le_of_ble_eq_true rfl) ?_
  intro M4991 hU4992 hv4993 hn4994
  have f4995 := (hn4994 395 11 (by decide)).trans f4979
  have f4996 := (hn4994 395 12 (by decide)).trans f4980
  have f4997 := (hn4994 395 13 (by decide)).trans f4981
  have f4998 := (hn4994 395 14 (by decide)).trans f4982
  have f4999 := (hn4994 395 15 (by decide)).trans f4983
  have f5000 := (hn4994 395 16 (by decide)).trans f4984
  have f5001 := (hn4994 395 17 (by decide)).trans f4985
  have f5002 := (hn4994 395 18 (by decide)).trans f4986
  have f5003 := (hn4994 395 19 (by decide)).trans f4987
  have f5004 := (hn4994 395 20 (by decide)).trans f4988
  have f5005 := (hn4994 395 21 (by decide)).trans f4989
  have f5006 := (hn4994 386 12 (by decide)).trans f4990
  clear hn4994 f4979 f4980 f4981 f4982 f4983 f4984 f4985 f4986 f4987 f4988 f4989 f4990 hv4977 hU4976 M4975
  refine w_lo dX9_clears_35 rfl rfl rfl rfl ?_
  refine w_gf dX9_clears_36 rfl hU4992.1 rfl ((hU4992).2 386 58 rfl |>.trans zq_386_58) ?_
  refine w_lo dX9_clears_39 rfl rfl rfl rfl ?_
  refine w_ic dX9_clears_40 zi_0 ?_
  refine w_is dX9_clears_41 hU4992 rfl (k := 11) zt_11 (Nat.le_of_ble_eq_true rfl) ?_
  intro M5007 hU5008 hv5009 hn5010
  have f5011 := (hn5010 395 11 (by decide)).trans f4995
  have f5012 := (hn5010 395 12 (by decide)).trans f4996
  have f5013 := (hn5010 395 13 (by decide)).trans f4997
  have f5014 := (hn5010 395 14 (by decide)).trans f4998
  have f5015 := (hn5010 395 15 (by decide)).trans f4999
  have f5016 := (hn5010 395 16 (by decide)).trans f5000
  have f5017 := (hn5010 395 17 (by decide)).trans f5001
  have f5018 := (hn5010 395 18 (by decide)).trans f5002
  have f5019 := (hn5010 395 19 (by decide)).trans f5003
  have f5020 := (hn5010 395 20 (by decide)).trans f5004
  have f5021 := (hn5010 395 21 (by decide)).trans f5005
  have f5022 := (hn5010 386 12 (by decide)).trans f5006
  clear hn5010 f4995 f4996 f4997 f4998 f4999 f5000 f5001 f5002 f5003 f5004 f5005 f5006 hv4993 hU4992 M4991
  refine w_lo dX9_clears_42 rfl rfl rfl rfl ?_
  refine w_gf dX9_clears_43 rfl hU5008.1 rfl ((hU5008).2 386 59 rfl |>.trans zq_386_59) ?_
  refine w_lo dX9_clears_46 rfl rfl rfl rfl ?_
  refine w_ic dX9_clears_47 zi_0 ?_
  refine w_is dX9_clears_48 hU5008 rfl (k := 11) zt_11 (Nat.le_of_ble_eq_true rfl) ?_
  intro M5023 hU5024 hv5025 hn5026
  have f5027 := (hn5026 395 11 (by decide)).trans f5011
  have f5028 := (hn5026 395 12 (by decide)).trans f5012
  have f5029 := (hn5026 395 13 (by decide)).trans f5013
  have f5030 := (hn5026 395 14 (by decide)).trans f5014
  have f5031 := (hn5026 395 15 (by decide)).trans f5015
  have f5032 := (hn5026 395 16 (by decide)).trans f5016
  have f5033 := (hn5026 395 17 (by decide)).trans f5017
  have f5034 := (hn5026 395 18 (by decide)).trans f5018
  have f5035 := (hn5026 395 19 (by decide)).trans f5019
  have f5036 := (hn5026 395 20 (by decide)).trans f5020
  have f5037 := (hn5026 395 21 (by decide)).trans f5021
  have f5038 := (hn5026 386 12 (by decide)).trans f5022
  clear hn5026 f5011 f5012 f5013 f5014 f5015 f5016 f5017 f5018 f5019 f5020 f5021 f5022 hv5009 hU5008 M5007
  refine w_en dX9_clears_49 rfl ?_
  show ZW _ 9 9 false none cX9_begins _ (58, [some (.ref 386), some (.int 11)], [], M5023)
  refine w_lo (ml' := [some (.ref 386), some (.int 12)]) dX9_begins_58 rfl rfl rfl rfl ?_
  refine w_gt dX9_begins_61 (t := 26) rfl ?_
  refine w_lo dX9_begins_26 rfl rfl rfl rfl ?_
  refine w_bi dX9_begins_27 (c := 12) (by decide) ?_
  refine w_cge_t dX9_begins_29 (t := 64) rfl (by decide) ?_
  refine w_ic dX9_begins_64 zi_0 ?_
  refine w_lo dX9_begins_65 rfl rfl rfl rfl ?_
  refine w_lo dX9_begins_66 rfl rfl rfl rfl ?_
  refine w_bi dX9_begins_67 (c := 11) (by decide) ?_
  refine w_cge_f dX9_begins_69 (t := 105) rfl (by decide) ?_
  refine w_lo dX9_begins_72 rfl rfl rfl rfl ?_
  refine w_gf dX9_begins_73 rfl hU5024.1 rfl ((hU5024).2 386 60 rfl |>.trans zq_386_60) ?_
  refine w_lo dX9_begins_76 rfl rfl rfl rfl ?_
  refine w_ic dX9_begins_77 zi_1 ?_
  refine w_is dX9_begins_78 hU5024 rfl (k := 0) zt_0 (Nat.le_of_ble_eq_true rfl) ?_
  intro M5039 hU5040 hv5041 hn5042
  have f5043 := (hn5042 395 11 (by decide)).trans f5027
  have f5044 := (hn5042 395 12 (by decide)).trans f5028
  have f5045 := (hn5042 395 13 (by decide)).trans f5029
  have f5046 := (hn5042 395 14 (by decide)).trans f5030
  have f5047 := (hn5042 395 15 (by decide)).trans f5031
  have f5048 := (hn5042 395 16 (by decide)).trans f5032
  have f5049 := (hn5042 395 17 (by decide)).trans f5033
  have f5050 := (hn5042 395 18 (by decide)).trans f5034
  have f5051 := (hn5042 395 19 (by decide)).trans f5035
  have f5052 := (hn5042 395 20 (by decide)).trans f5036
  have f5053 := (hn5042 395 21 (by decide)).trans f5037
  have f5054 := (hn5042 386 12 (by decide)).trans f5038
  clear hn5042 f5027 f5028 f5029 f5030 f5031 f5032 f5033 f5034 f5035 f5036 f5037 f5038 hv5025 hU5024 M5023
  refine w_lo dX9_begins_79 rfl rfl rfl rfl ?_
  refine w_gf dX9_begins_80 rfl hU5040.1 rfl ((hU5040).2 386 61 rfl |>.trans zq_386_61) ?_
  refine w_lo dX9_begins_83 rfl rfl rfl rfl ?_
  refine w_lo dX9_begins_84 rfl rfl rfl rfl ?_
  refine w_gf dX9_begins_85 rfl hU5040.1 rfl ((hU5040).2 386 20 rfl |>.trans zq_386_20) ?_
  refine w_bi dX9_begins_88 (c := 11) (by decide) ?_
  refine w_lo dX9_begins_90 rfl rfl rfl rfl ?_
  refine w_gf dX9_begins_91 rfl hU5040.1 rfl f5054 ?_
  refine w_pu (st' := [.int 11, .ref 395, .int 0, .ref 430]) dX9_begins_94 rfl rfl ?_
  refine w_lo dX9_begins_95 rfl rfl rfl rfl ?_
  refine w_pu (st' := [.int 11, .ref 395, .int 0, .ref 430]) dX9_begins_96 rfl rfl ?_
  refine w_ia dX9_begins_97 hU5040.1 rfl (k := 11) zt_11 f5043 ?_
  refine w_is dX9_begins_98 hU5040 rfl (k := 0) zt_0 (Nat.le_of_ble_eq_true rfl) ?_
  intro M5055 hU5056 hv5057 hn5058
  have f5059 := (hn5058 395 12 (by decide)).trans f5044
  have f5060 := (hn5058 395 13 (by decide)).trans f5045
  have f5061 := (hn5058 395 14 (by decide)).trans f5046
  have f5062 := (hn5058 395 15 (by decide)).trans f5047
  have f5063 := (hn5058 395 16 (by decide)).trans f5048
  have f5064 := (hn5058 395 17 (by decide)).trans f5049
  have f5065 := (hn5058 395 18 (by decide)).trans f5050
  have f5066 := (hn5058 395 19 (by decide)).trans f5051
  have f5067 := (hn5058 395 20 (by decide)).trans f5052
  have f5068 := (hn5058 395 21 (by decide)).trans f5053
  have f5069 := (hn5058 386 12 (by decide)).trans f5054
  clear hn5058 f5043 f5044 f5045 f5046 f5047 f5048 f5049 f5050 f5051 f5052 f5053 f5054 hv5041 hU5040 M5039
  refine w_lo (ml' := [some (.ref 386), some (.int 1)]) dX9_begins_99 rfl rfl rfl rfl ?_
  refine w_gt dX9_begins_102 (t := 66) rfl ?_
  refine w_lo dX9_begins_66 rfl rfl rfl rfl ?_
  refine w_bi dX9_begins_67 (c := 11) (by decide) ?_
  refine w_cge_f dX9_begins_69 (t := 105) rfl (by decide) ?_
  refine w_lo dX9_begins_72 rfl rfl rfl rfl ?_
  refine w_gf dX9_begins_73 rfl hU5056.1 rfl ((hU5056).2 386 60 rfl |>.trans zq_386_60) ?_
  refine w_lo dX9_begins_76 rfl rfl rfl rfl ?_
  refine w_ic dX9_begins_77 zi_1 ?_
  refine w_is dX9_begins_78 hU5056 rfl (k := 1) zt_1 (Nat.le_of_ble_eq_true rfl) ?_
  intro M5070 hU5071 hv5072 hn5073
  have f5074 := (hn5073 395 12 (by decide)).trans f5059
  have f5075 := (hn5073 395 13 (by decide)).trans f5060
  have f5076 := (hn5073 395 14 (by decide)).trans f5061
  have f5077 := (hn5073 395 15 (by decide)).trans f5062
  have f5078 := (hn5073 395 16 (by decide)).trans f5063
  have f5079 := (hn5073 395 17 (by decide)).trans f5064
  have f5080 := (hn5073 395 18 (by decide)).trans f5065
  have f5081 := (hn5073 395 19 (by decide)).trans f5066
  have f5082 := (hn5073 395 20 (by decide)).trans f5067
  have f5083 := (hn5073 395 21 (by decide)).trans f5068
  have f5084 := (hn5073 386 12 (by decide)).trans f5069
  clear hn5073 f5059 f5060 f5061 f5062 f5063 f5064 f5065 f5066 f5067 f5068 f5069 hv5057 hU5056 M5055
  refine w_lo dX9_begins_79 rfl rfl rfl rfl ?_
  refine w_gf dX9_begins_80 rfl hU5071.1 rfl ((hU5071).2 386 61 rfl |>.trans zq_386_61) ?_
  refine w_lo dX9_begins_83 rfl rfl rfl rfl ?_
  refine w_lo dX9_begins_84 rfl rfl rfl rfl ?_
  refine w_gf dX9_begins_85 rfl hU5071.1 rfl ((hU5071).2 386 20 rfl |>.trans zq_386_20) ?_
  refine w_bi dX9_begins_88 (c := 11) (by decide) ?_
  refine w_lo dX9_begins_90 rfl rfl rfl rfl ?_
  refine w_gf dX9_begins_91 rfl hU5071.1 rfl f5084 ?_
  refine w_pu (st' := [.int 11, .ref 395, .int 1, .ref 430]) dX9_begins_94 rfl rfl ?_
  refine w_lo dX9_begins_95 rfl rfl rfl rfl ?_
  refine w_pu (st' := [.int 12, .ref 395, .int 1, .ref 430]) dX9_begins_96 rfl rfl ?_
  refine w_ia dX9_begins_97 hU5071.1 rfl (k := 12) zt_12 f5074 ?_
  refine w_is dX9_begins_98 hU5071 rfl (k := 1) zt_1 (Nat.le_of_ble_eq_true rfl) ?_
  intro M5085 hU5086 hv5087 hn5088
  have f5089 := (hn5088 395 13 (by decide)).trans f5075
  have f5090 := (hn5088 395 14 (by decide)).trans f5076
  have f5091 := (hn5088 395 15 (by decide)).trans f5077
  have f5092 := (hn5088 395 16 (by decide)).trans f5078
  have f5093 := (hn5088 395 17 (by decide)).trans f5079
  have f5094 := (hn5088 395 18 (by decide)).trans f5080
  have f5095 := (hn5088 395 19 (by decide)).trans f5081
  have f5096 := (hn5088 395 20 (by decide)).trans f5082
  have f5097 := (hn5088 395 21 (by decide)).trans f5083
  have f5098 := (hn5088 386 12 (by decide)).trans f5084
  clear hn5088 f5074 f5075 f5076 f5077 f5078 f5079 f5080 f5081 f5082 f5083 f5084 hv5072 hU5071 M5070
  refine w_lo (ml' := [some (.ref 386), some (.int 2)]) dX9_begins_99 rfl rfl rfl rfl ?_
  refine w_gt dX9_begins_102 (t := 66) rfl ?_
  refine w_lo dX9_begins_66 rfl rfl rfl rfl ?_
  refine w_bi dX9_begins_67 (c := 11) (by decide) ?_
  refine w_cge_f dX9_begins_69 (t := 105) rfl (by decide) ?_
  refine w_lo dX9_begins_72 rfl rfl rfl rfl ?_
  refine w_gf dX9_begins_73 rfl hU5086.1 rfl ((hU5086).2 386 60 rfl |>.trans zq_386_60) ?_
  refine w_lo dX9_begins_76 rfl rfl rfl rfl ?_
  refine w_ic dX9_begins_77 zi_1 ?_
  refine w_is dX9_begins_78 hU5086 rfl (k := 2) zt_2 (Nat.le_of_ble_eq_true rfl) ?_
  intro M5099 hU5100 hv5101 hn5102
  have f5103 := (hn5102 395 13 (by decide)).trans f5089
  have f5104 := (hn5102 395 14 (by decide)).trans f5090
  have f5105 := (hn5102 395 15 (by decide)).trans f5091
  have f5106 := (hn5102 395 16 (by decide)).trans f5092
  have f5107 := (hn5102 395 17 (by decide)).trans f5093
  have f5108 := (hn5102 395 18 (by decide)).trans f5094
  have f5109 := (hn5102 395 19 (by decide)).trans f5095
  have f5110 := (hn5102 395 20 (by decide)).trans f5096
  have f5111 := (hn5102 395 21 (by decide)).trans f5097
  have f5112 := (hn5102 386 12 (by decide)).trans f5098
  clear hn5102 f5089 f5090 f5091 f5092 f5093 f5094 f5095 f5096 f5097 f5098 hv5087 hU5086 M5085
  refine w_lo dX9_begins_79 rfl rfl rfl rfl ?_
  refine w_gf dX9_begins_80 rfl hU5100.1 rfl ((hU5100).2 386 61 rfl |>.trans zq_386_61) ?_
  refine w_lo dX9_begins_83 rfl rfl rfl rfl ?_
  refine w_lo dX9_begins_84 rfl rfl rfl rfl ?_
  refine w_gf dX9_begins_85 rfl hU5100.1 rfl ((hU5100).2 386 20 rfl |>.trans zq_386_20) ?_
  refine w_bi dX9_begins_88 (c := 11) (by decide) ?_
  refine w_lo dX9_begins_90 rfl rfl rfl rfl ?_
  refine w_gf dX9_begins_91 rfl hU5100.1 rfl f5112 ?_
  refine w_pu (st' := [.int 11, .ref 395, .int 2, .ref 430]) dX9_begins_94 rfl rfl ?_
  refine w_lo dX9_begins_95 rfl rfl rfl rfl ?_
  refine w_pu (st' := [.int 13, .ref 395, .int 2, .ref 430]) dX9_begins_96 rfl rfl ?_
  refine w_ia dX9_begins_97 hU5100.1 rfl (k := 13) zt_13 f5103 ?_
  refine w_is dX9_begins_98 hU5100 rfl (k := 2) zt_2 (Nat.le_of_ble_eq_true rfl) ?_
  intro M5113 hU5114 hv5115 hn5116
  have f5117 := (hn5116 395 14 (by decide)).trans f5104
  have f5118 := (hn5116 395 15 (by decide)).trans f5105
  have f5119 := (hn5116 395 16 (by decide)).trans f5106
  have f5120 := (hn5116 395 17 (by decide)).trans f5107
  have f5121 := (hn5116 395 18 (by decide)).trans f5108
  have f5122 := (hn5116 395 19 (by decide)).trans f5109
  have f5123 := (hn5116 395 20 (by decide)).trans f5110
  have f5124 := (hn5116 395 21 (by decide)).trans f5111
  have f5125 := (hn5116 386 12 (by decide)).trans f5112
  clear hn5116 f5103 f5104 f5105 f5106 f5107 f5108 f5109 f5110 f5111 f5112 hv5101 hU5100 M5099
  refine w_lo (ml' := [some (.ref 386), some (.int 3)]) dX9_begins_99 rfl rfl rfl rfl ?_
  refine w_gt dX9_begins_102 (t := 66) rfl ?_
  refine w_lo dX9_begins_66 rfl rfl rfl rfl ?_
  refine w_bi dX9_begins_67 (c := 11) (by decide) ?_
  refine w_cge_f dX9_begins_69 (t := 105) rfl (by decide) ?_
  refine w_lo dX9_begins_72 rfl rfl rfl rfl ?_
  refine w_gf dX9_begins_73 rfl hU5114.1 rfl ((hU5114).2 386 60 rfl |>.trans zq_386_60) ?_
  refine w_lo dX9_begins_76 rfl rfl rfl rfl ?_
  refine w_ic dX9_begins_77 zi_1 ?_
  refine w_is dX9_begins_78 hU5114 rfl (k := 3) zt_3 (Nat.le_of_ble_eq_true rfl) ?_
  intro M5126 hU5127 hv5128 hn5129
  have f5130 := (hn5129 395 14 (by decide)).trans f5117
  have f5131 := (hn5129 395 15 (by decide)).trans f5118
  have f5132 := (hn5129 395 16 (by decide)).trans f5119
  have f5133 := (hn5129 395 17 (by decide)).trans f5120
  have f5134 := (hn5129 395 18 (by decide)).trans f5121
  have f5135 := (hn5129 395 19 (by decide)).trans f5122
  have f5136 := (hn5129 395 20 (by decide)).trans f5123
  have f5137 := (hn5129 395 21 (by decide)).trans f5124
  have f5138 := (hn5129 386 12 (by decide)).trans f5125
  clear hn5129 f5117 f5118 f5119 f5120 f5121 f5122 f5123 f5124 f5125 hv5115 hU5114 M5113
  refine w_lo dX9_begins_79 rfl rfl rfl rfl ?_
  refine w_gf dX9_begins_80 rfl hU5127.1 rfl ((hU5127).2 386 61 rfl |>.trans zq_386_61) ?_
  refine w_lo dX9_begins_83 rfl rfl rfl rfl ?_
  refine w_lo dX9_begins_84 rfl rfl rfl rfl ?_
  refine w_gf dX9_begins_85 rfl hU5127.1 rfl ((hU5127).2 386 20 rfl |>.trans zq_386_20) ?_
  refine w_bi dX9_begins_88 (c := 11) (by decide) ?_
  refine w_lo dX9_begins_90 rfl rfl rfl rfl ?_
  refine w_gf dX9_begins_91 rfl hU5127.1 rfl f5138 ?_
  refine w_pu (st' := [.int 11, .ref 395, .int 3, .ref 430]) dX9_begins_94 rfl rfl ?_
  refine w_lo dX9_begins_95 rfl rfl rfl rfl ?_
  refine w_pu (st' := [.int 14, .ref 395, .int 3, .ref 430]) dX9_begins_96 rfl rfl ?_
  refine w_ia dX9_begins_97 hU5127.1 rfl (k := 14) zt_14 f5130 ?_
  refine w_is dX9_begins_98 hU5127 rfl (k := 3) zt_3 (Nat.le_of_ble_eq_true rfl) ?_
  intro M5139 hU5140 hv5141 hn5142
  have f5143 := (hn5142 395 15 (by decide)).trans f5131
  have f5144 := (hn5142 395 16 (by decide)).trans f5132
  have f5145 := (hn5142 395 17 (by decide)).trans f5133
  have f5146 := (hn5142 395 18 (by decide)).trans f5134
  have f5147 := (hn5142 395 19 (by decide)).trans f5135
  have f5148 := (hn5142 395 20 (by decide)).trans f5136
  have f5149 := (hn5142 395 21 (by decide)).trans f5137
  have f5150 := (hn5142 386 12 (by decide)).trans f5138
  clear hn5142 f5130 f5131 f5132 f5133 f5134 f5135 f5136 f5137 f5138 hv5128 hU5127 M5126
  refine w_lo (ml' := [some (.ref 386), some (.int 4)]) dX9_begins_99 rfl rfl rfl rfl ?_
  refine w_gt dX9_begins_102 (t := 66) rfl ?_
  refine w_lo dX9_begins_66 rfl rfl rfl rfl ?_
  refine w_bi dX9_begins_67 (c := 11) (by decide) ?_
  refine w_cge_f dX9_begins_69 (t := 105) rfl (by decide) ?_
  refine w_lo dX9_begins_72 rfl rfl rfl rfl ?_
  refine w_gf dX9_begins_73 rfl hU5140.1 rfl ((hU5140).2 386 60 rfl |>.trans zq_386_60) ?_
  refine w_lo dX9_begins_76 rfl rfl rfl rfl ?_
  refine w_ic dX9_begins_77 zi_1 ?_
  refine w_is dX9_begins_78 hU5140 rfl (k := 4) zt_4 (Nat.le_of_ble_eq_true rfl) ?_
  intro M5151 hU5152 hv5153 hn5154
  have f5155 := (hn5154 395 15 (by decide)).trans f5143
  have f5156 := (hn5154 395 16 (by decide)).trans f5144
  have f5157 := (hn5154 395 17 (by decide)).trans f5145
  have f5158 := (hn5154 395 18 (by decide)).trans f5146
  have f5159 := (hn5154 395 19 (by decide)).trans f5147
  have f5160 := (hn5154 395 20 (by decide)).trans f5148
  have f5161 := (hn5154 395 21 (by decide)).trans f5149
  have f5162 := (hn5154 386 12 (by decide)).trans f5150
  clear hn5154 f5143 f5144 f5145 f5146 f5147 f5148 f5149 f5150 hv5141 hU5140 M5139
  refine w_lo dX9_begins_79 rfl rfl rfl rfl ?_
  refine w_gf dX9_begins_80 rfl hU5152.1 rfl ((hU5152).2 386 61 rfl |>.trans zq_386_61) ?_
  refine w_lo dX9_begins_83 rfl rfl rfl rfl ?_
  refine w_lo dX9_begins_84 rfl rfl rfl rfl ?_
  refine w_gf dX9_begins_85 rfl hU5152.1 rfl ((hU5152).2 386 20 rfl |>.trans zq_386_20) ?_
  refine w_bi dX9_begins_88 (c := 11) (by decide) ?_
  refine w_lo dX9_begins_90 rfl rfl rfl rfl ?_
  refine w_gf dX9_begins_91 rfl hU5152.1 rfl f5162 ?_
  refine w_pu (st' := [.int 11, .ref 395, .int 4, .ref 430]) dX9_begins_94 rfl rfl ?_
  refine w_lo dX9_begins_95 rfl rfl rfl rfl ?_
  refine w_pu (st' := [.int 15, .ref 395, .int 4, .ref 430]) dX9_begins_96 rfl rfl ?_
  refine w_ia dX9_begins_97 hU5152.1 rfl (k := 15) zt_15 f5155 ?_
  refine w_is dX9_begins_98 hU5152 rfl (k := 4) zt_4 (Nat.le_of_ble_eq_true rfl) ?_
  intro M5163 hU5164 hv5165 hn5166
  have f5167 := (hn5166 395 16 (by decide)).trans f5156
  have f5168 := (hn5166 395 17 (by decide)).trans f5157
  have f5169 := (hn5166 395 18 (by decide)).trans f5158
  have f5170 := (hn5166 395 19 (by decide)).trans f5159
  have f5171 := (hn5166 395 20 (by decide)).trans f5160
  have f5172 := (hn5166 395 21 (by decide)).trans f5161
  have f5173 := (hn5166 386 12 (by decide)).trans f5162
  clear hn5166 f5155 f5156 f5157 f5158 f5159 f5160 f5161 f5162 hv5153 hU5152 M5151
  refine w_lo (ml' := [some (.ref 386), some (.int 5)]) dX9_begins_99 rfl rfl rfl rfl ?_
  refine w_gt dX9_begins_102 (t := 66) rfl ?_
  refine w_lo dX9_begins_66 rfl rfl rfl rfl ?_
  refine w_bi dX9_begins_67 (c := 11) (by decide) ?_
  refine w_cge_f dX9_begins_69 (t := 105) rfl (by decide) ?_
  refine w_lo dX9_begins_72 rfl rfl rfl rfl ?_
  refine w_gf dX9_begins_73 rfl hU5164.1 rfl ((hU5164).2 386 60 rfl |>.trans zq_386_60) ?_
  refine w_lo dX9_begins_76 rfl rfl rfl rfl ?_
  refine w_ic dX9_begins_77 zi_1 ?_
  refine w_is dX9_begins_78 hU5164 rfl (k := 5) zt_5 (Nat.le_of_ble_eq_true rfl) ?_
  intro M5174 hU5175 hv5176 hn5177
  have f5178 := (hn5177 395 16 (by decide)).trans f5167
  have f5179 := (hn5177 395 17 (by decide)).trans f5168
  have f5180 := (hn5177 395 18 (by decide)).trans f5169
  have f5181 := (hn5177 395 19 (by decide)).trans f5170
  have f5182 := (hn5177 395 20 (by decide)).trans f5171
  have f5183 := (hn5177 395 21 (by decide)).trans f5172
  have f5184 := (hn5177 386 12 (by decide)).trans f5173
  clear hn5177 f5167 f5168 f5169 f5170 f5171 f5172 f5173 hv5165 hU5164 M5163
  refine w_lo dX9_begins_79 rfl rfl rfl rfl ?_
  refine w_gf dX9_begins_80 rfl hU5175.1 rfl ((hU5175).2 386 61 rfl |>.trans zq_386_61) ?_
  refine w_lo dX9_begins_83 rfl rfl rfl rfl ?_
  refine w_lo dX9_begins_84 rfl rfl rfl rfl ?_
  refine w_gf dX9_begins_85 rfl hU5175.1 rfl ((hU5175).2 386 20 rfl |>.trans zq_386_20) ?_
  refine w_bi dX9_begins_88 (c := 11) (by decide) ?_
  refine w_lo dX9_begins_90 rfl rfl rfl rfl ?_
  refine w_gf dX9_begins_91 rfl hU5175.1 rfl f5184 ?_
  refine w_pu (st' := [.int 11, .ref 395, .int 5, .ref 430]) dX9_begins_94 rfl rfl ?_
  refine w_lo dX9_begins_95 rfl rfl rfl rfl ?_
  refine w_pu (st' := [.int 16, .ref 395, .int 5, .ref 430]) dX9_begins_96 rfl rfl ?_
  refine w_ia dX9_begins_97 hU5175.1 rfl (k := 16) zt_16 f5178 ?_
  refine w_is dX9_begins_98 hU5175 rfl (k := 5) zt_5 (Nat.le_of_ble_eq_true rfl) ?_
  intro M5185 hU5186 hv5187 hn5188
  have f5189 := (hn5188 395 17 (by decide)).trans f5179
  have f5190 := (hn5188 395 18 (by decide)).trans f5180
  have f5191 := (hn5188 395 19 (by decide)).trans f5181
  have f5192 := (hn5188 395 20 (by decide)).trans f5182
  have f5193 := (hn5188 395 21 (by decide)).trans f5183
  have f5194 := (hn5188 386 12 (by decide)).trans f5184
  clear hn5188 f5178 f5179 f5180 f5181 f5182 f5183 f5184 hv5176 hU5175 M5174
  refine w_lo (ml' := [some (.ref 386), some (.int 6)]) dX9_begins_99 rfl rfl rfl rfl ?_
  refine w_gt dX9_begins_102 (t := 66) rfl ?_
  refine w_lo dX9_begins_66 rfl rfl rfl rfl ?_
  refine w_bi dX9_begins_67 (c := 11) (by decide) ?_
  refine w_cge_f dX9_begins_69 (t := 105) rfl (by decide) ?_
  refine w_lo dX9_begins_72 rfl rfl rfl rfl ?_
  refine w_gf dX9_begins_73 rfl hU5186.1 rfl ((hU5186).2 386 60 rfl |>.trans zq_386_60) ?_
  refine w_lo dX9_begins_76 rfl rfl rfl rfl ?_
  refine w_ic dX9_begins_77 zi_1 ?_
  refine w_is dX9_begins_78 hU5186 rfl (k := 6) zt_6 (Nat.le_of_ble_eq_true rfl) ?_
  intro M5195 hU5196 hv5197 hn5198
  have f5199 := (hn5198 395 17 (by decide)).trans f5189
  have f5200 := (hn5198 395 18 (by decide)).trans f5190
  have f5201 := (hn5198 395 19 (by decide)).trans f5191
  have f5202 := (hn5198 395 20 (by decide)).trans f5192
  have f5203 := (hn5198 395 21 (by decide)).trans f5193
  have f5204 := (hn5198 386 12 (by decide)).trans f5194
  clear hn5198 f5189 f5190 f5191 f5192 f5193 f5194 hv5187 hU5186 M5185
  refine w_lo dX9_begins_79 rfl rfl rfl rfl ?_
  refine w_gf dX9_begins_80 rfl hU5196.1 rfl ((hU5196).2 386 61 rfl |>.trans zq_386_61) ?_
  refine w_lo dX9_begins_83 rfl rfl rfl rfl ?_
  refine w_lo dX9_begins_84 rfl rfl rfl rfl ?_
  refine w_gf dX9_begins_85 rfl hU5196.1 rfl ((hU5196).2 386 20 rfl |>.trans zq_386_20) ?_
  refine w_bi dX9_begins_88 (c := 11) (by decide) ?_
  refine w_lo dX9_begins_90 rfl rfl rfl rfl ?_
  refine w_gf dX9_begins_91 rfl hU5196.1 rfl f5204 ?_
  refine w_pu (st' := [.int 11, .ref 395, .int 6, .ref 430]) dX9_begins_94 rfl rfl ?_
  refine w_lo dX9_begins_95 rfl rfl rfl rfl ?_
  refine w_pu (st' := [.int 17, .ref 395, .int 6, .ref 430]) dX9_begins_96 rfl rfl ?_
  refine w_ia dX9_begins_97 hU5196.1 rfl (k := 17) zt_17 f5199 ?_
  refine w_is dX9_begins_98 hU5196 rfl (k := 6) zt_6 (Nat.le_of_ble_eq_true rfl) ?_
  intro M5205 hU5206 hv5207 hn5208
  have f5209 := (hn5208 395 18 (by decide)).trans f5200
  have f5210 := (hn5208 395 19 (by decide)).trans f5201
  have f5211 := (hn5208 395 20 (by decide)).trans f5202
  have f5212 := (hn5208 395 21 (by decide)).trans f5203
  have f5213 := (hn5208 386 12 (by decide)).trans f5204
  clear hn5208 f5199 f5200 f5201 f5202 f5203 f5204 hv5197 hU5196 M5195
  refine w_lo (ml' := [some (.ref 386), some (.int 7)]) dX9_begins_99 rfl rfl rfl rfl ?_
  refine w_gt dX9_begins_102 (t := 66) rfl ?_
  refine w_lo dX9_begins_66 rfl rfl rfl rfl ?_
  refine w_bi dX9_begins_67 (c := 11) (by decide) ?_
  refine w_cge_f dX9_begins_69 (t := 105) rfl (by decide) ?_
  refine w_lo dX9_begins_72 rfl rfl rfl rfl ?_
  refine w_gf dX9_begins_73 rfl hU5206.1 rfl ((hU5206).2 386 60 rfl |>.trans zq_386_60) ?_
  refine w_lo dX9_begins_76 rfl rfl rfl rfl ?_
  refine w_ic dX9_begins_77 zi_1 ?_
  refine w_is dX9_begins_78 hU5206 rfl (k := 7) zt_7 (Nat.le_of_ble_eq_true rfl) ?_
  intro M5214 hU5215 hv5216 hn5217
  have f5218 := (hn5217 395 18 (by decide)).trans f5209
  have f5219 := (hn5217 395 19 (by decide)).trans f5210
  have f5220 := (hn5217 395 20 (by decide)).trans f5211
  have f5221 := (hn5217 395 21 (by decide)).trans f5212
  have f5222 := (hn5217 386 12 (by decide)).trans f5213
  clear hn5217 f5209 f5210 f5211 f5212 f5213 hv5207 hU5206 M5205
  refine w_lo dX9_begins_79 rfl rfl rfl rfl ?_
  refine w_gf dX9_begins_80 rfl hU5215.1 rfl ((hU5215).2 386 61 rfl |>.trans zq_386_61) ?_
  refine w_lo dX9_begins_83 rfl rfl rfl rfl ?_
  refine w_lo dX9_begins_84 rfl rfl rfl rfl ?_
  refine w_gf dX9_begins_85 rfl hU5215.1 rfl ((hU5215).2 386 20 rfl |>.trans zq_386_20) ?_
  refine w_bi dX9_begins_88 (c := 11) (by decide) ?_
  refine w_lo dX9_begins_90 rfl rfl rfl rfl ?_
  refine w_gf dX9_begins_91 rfl hU5215.1 rfl f5222 ?_
  refine w_pu (st' := [.int 11, .ref 395, .int 7, .ref 430]) dX9_begins_94 rfl rfl ?_
  refine w_lo dX9_begins_95 rfl rfl rfl rfl ?_
  refine w_pu (st' := [.int 18, .ref 395, .int 7, .ref 430]) dX9_begins_96 rfl rfl ?_
  refine w_ia dX9_begins_97 hU5215.1 rfl (k := 18) zt_18 f5218 ?_
  refine w_is dX9_begins_98 hU5215 rfl (k := 7) zt_7 (Nat.le_of_ble_eq_true rfl) ?_
  intro M5223 hU5224 hv5225 hn5226
  have f5227 := (hn5226 395 19 (by decide)).trans f5219
  have f5228 := (hn5226 395 20 (by decide)).trans f5220
  have f5229 := (hn5226 395 21 (by decide)).trans f5221
  have f5230 := (hn5226 386 12 (by decide)).trans f5222
  clear hn5226 f5218 f5219 f5220 f5221 f5222 hv5216 hU5215 M5214
  refine w_lo (ml' := [some (.ref 386), some (.int 8)]) dX9_begins_99 rfl rfl rfl rfl ?_
  refine w_gt dX9_begins_102 (t := 66) rfl ?_
  refine w_lo dX9_begins_66 rfl rfl rfl rfl ?_
  refine w_bi dX9_begins_67 (c := 11) (by decide) ?_
  refine w_cge_f dX9_begins_69 (t := 105) rfl (by decide) ?_
  refine w_lo dX9_begins_72 rfl rfl rfl rfl ?_
  refine w_gf dX9_begins_73 rfl hU5224.1 rfl ((hU5224).2 386 60 rfl |>.trans zq_386_60) ?_
  refine w_lo dX9_begins_76 rfl rfl rfl rfl ?_
  refine w_ic dX9_begins_77 zi_1 ?_
  refine w_is dX9_begins_78 hU5224 rfl (k := 8) zt_8 (Nat.le_of_ble_eq_true rfl) ?_
  intro M5231 hU5232 hv5233 hn5234
  have f5235 := (hn5234 395 19 (by decide)).trans f5227
  have f5236 := (hn5234 395 20 (by decide)).trans f5228
  have f5237 := (hn5234 395 21 (by decide)).trans f5229
  have f5238 := (hn5234 386 12 (by decide)).trans f5230
  clear hn5234 f5227 f5228 f5229 f5230 hv5225 hU5224 M5223
  refine w_lo dX9_begins_79 rfl rfl rfl rfl ?_
  refine w_gf dX9_begins_80 rfl hU5232.1 rfl ((hU5232).2 386 61 rfl |>.trans zq_386_61) ?_
  refine w_lo dX9_begins_83 rfl rfl rfl rfl ?_
  refine w_lo dX9_begins_84 rfl rfl rfl rfl ?_
  refine w_gf dX9_begins_85 rfl hU5232.1 rfl ((hU5232).2 386 20 rfl |>.trans zq_386_20) ?_
  refine w_bi dX9_begins_88 (c := 11) (by decide) ?_
  refine w_lo dX9_begins_90 rfl rfl rfl rfl ?_
  refine w_gf dX9_begins_91 rfl hU5232.1 rfl f5238 ?_
  refine w_pu (st' := [.int 11, .ref 395, .int 8, .ref 430]) dX9_begins_94 rfl rfl ?_
  refine w_lo dX9_begins_95 rfl rfl rfl rfl ?_
  refine w_pu (st' := [.int 19, .ref 395, .int 8, .ref 430]) dX9_begins_96 rfl rfl ?_
  refine w_ia dX9_begins_97 hU5232.1 rfl (k := 19) zt_19 f5235 ?_
  refine w_is dX9_begins_98 hU5232 rfl (k := 8) zt_8 (Nat.le_of_ble_eq_true rfl) ?_
  intro M5239 hU5240 hv5241 hn5242
  have f5243 := (hn5242 395 20 (by decide)).trans f5236
  have f5244 := (hn5242 395 21 (by decide)).trans f5237
  have f5245 := (hn5242 386 12 (by decide)).trans f5238
  clear hn5242 f5235 f5236 f5237 f5238 hv5233 hU5232 M5231
  refine w_lo (ml' := [some (.ref 386), some (.int 9)]) dX9_begins_99 rfl rfl rfl rfl ?_
  refine w_gt dX9_begins_102 (t := 66) rfl ?_
  refine w_lo dX9_begins_66 rfl rfl rfl rfl ?_
  refine w_bi dX9_begins_67 (c := 11) (by decide) ?_
  refine w_cge_f dX9_begins_69 (t := 105) rfl (by decide) ?_
  refine w_lo dX9_begins_72 rfl rfl rfl rfl ?_
  refine w_gf dX9_begins_73 rfl hU5240.1 rfl ((hU5240).2 386 60 rfl |>.trans zq_386_60) ?_
  refine w_lo dX9_begins_76 rfl rfl rfl rfl ?_
  refine w_ic dX9_begins_77 zi_1 ?_
  refine w_is dX9_begins_78 hU5240 rfl (k := 9) zt_9 (Nat.le_of_ble_eq_true rfl) ?_
  intro M5246 hU5247 hv5248 hn5249
  have f5250 := (hn5249 395 20 (by decide)).trans f5243
  have f5251 := (hn5249 395 21 (by decide)).trans f5244
  have f5252 := (hn5249 386 12 (by decide)).trans f5245
  clear hn5249 f5243 f5244 f5245 hv5241 hU5240 M5239
  refine w_lo dX9_begins_79 rfl rfl rfl rfl ?_
  refine w_gf dX9_begins_80 rfl hU5247.1 rfl ((hU5247).2 386 61 rfl |>.trans zq_386_61) ?_
  refine w_lo dX9_begins_83 rfl rfl rfl rfl ?_
  refine w_lo dX9_begins_84 rfl rfl rfl rfl ?_
  refine w_gf dX9_begins_85 rfl hU5247.1 rfl ((hU5247).2 386 20 rfl |>.trans zq_386_20) ?_
  refine w_bi dX9_begins_88 (c := 11) (by decide) ?_
  refine w_lo dX9_begins_90 rfl rfl rfl rfl ?_
  refine w_gf dX9_begins_91 rfl hU5247.1 rfl f5252 ?_
  refine w_pu (st' := [.int 11, .ref 395, .int 9, .ref 430]) dX9_begins_94 rfl rfl ?_
  refine w_lo dX9_begins_95 rfl rfl rfl rfl ?_
  refine w_pu (st' := [.int 20, .ref 395, .int 9, .ref 430]) dX9_begins_96 rfl rfl ?_
  refine w_ia dX9_begins_97 hU5247.1 rfl (k := 20) zt_20 f5250 ?_
  refine w_is dX9_begins_98 hU5247 rfl (k := 9) zt_9 (Nat.le_of_ble_eq_true rfl) ?_
  intro M5253 hU5254 hv5255 hn5256
  have f5257 := (hn5256 395 21 (by decide)).trans f5251
  have f5258 := (hn5256 386 12 (by decide)).trans f5252
  clear hn5256 f5250 f5251 f5252 hv5248 hU5247 M5246
  refine w_lo (ml' := [some (.ref 386), some (.int 10)]) dX9_begins_99 rfl rfl rfl rfl ?_
  refine w_gt dX9_begins_102 (t := 66) rfl ?_
  refine w_lo dX9_begins_66 rfl rfl rfl rfl ?_
  refine w_bi dX9_begins_67 (c := 11) (by decide) ?_
  refine w_cge_f dX9_begins_69 (t := 105) rfl (by decide) ?_
  refine w_lo dX9_begins_72 rfl rfl rfl rfl ?_
  refine w_gf dX9_begins_73 rfl hU5254.1 rfl ((hU5254).2 386 60 rfl |>.trans zq_386_60) ?_
  refine w_lo dX9_begins_76 rfl rfl rfl rfl ?_
  refine w_ic dX9_begins_77 zi_1 ?_
  refine w_is dX9_begins_78 hU5254 rfl (k := 10) zt_10 (Nat.le_of_ble_eq_true rfl) ?_
  intro M5259 hU5260 hv5261 hn5262
  have f5263 := (hn5262 395 21 (by decide)).trans f5257
  have f5264 := (hn5262 386 12 (by decide)).trans f5258
  clear hn5262 f5257 f5258 hv5255 hU5254 M5253
  refine w_lo dX9_begins_79 rfl rfl rfl rfl ?_
  refine w_gf dX9_begins_80 rfl hU5260.1 rfl ((hU5260).2 386 61 rfl |>.trans zq_386_61) ?_
  refine w_lo dX9_begins_83 rfl rfl rfl rfl ?_
  refine w_lo dX9_begins_84 rfl rfl rfl rfl ?_
  refine w_gf dX9_begins_85 rfl hU5260.1 rfl ((hU5260).2 386 20 rfl |>.trans zq_386_20) ?_
  refine w_bi dX9_begins_88 (c := 11) (by decide) ?_
  refine w_lo dX9_begins_90 rfl rfl rfl rfl ?_
  refine w_gf dX9_begins_91 rfl hU5260.1 rfl f5264 ?_
  refine w_pu (st' := [.int 11, .ref 395, .int 10, .ref 430]) dX9_begins_94 rfl rfl ?_
  refine w_lo dX9_begins_95 rfl rfl rfl rfl ?_
  refine w_pu (st' := [.int 21, .ref 395, .int 10, .ref 430]) dX9_begins_96 rfl rfl ?_
  refine w_ia dX9_begins_97 hU5260.1 rfl (k := 21) zt_21 f5263 ?_
  refine w_is dX9_begins_98 hU5260 rfl (k := 10) zt_10 (Nat.le_of_ble_eq_true rfl) ?_
  intro M5265 hU5266 hv5267 hn5268
  clear hn5268 f5263 f5264 hv5261 hU5260 M5259
  refine w_lo (ml' := [some (.ref 386), some (.int 11)]) dX9_begins_99 rfl rfl rfl rfl ?_
  refine w_gt dX9_begins_102 (t := 66) rfl ?_
  refine w_lo dX9_begins_66 rfl rfl rfl rfl ?_
  refine w_bi dX9_begins_67 (c := 11) (by decide) ?_
  refine w_cge_t dX9_begins_69 (t := 105) rfl (by decide) ?_
  refine w_en dX9_begins_105 rfl ?_
  show ZW _ 10 9 false (some .int) cX9_dorm _ (184, [some (.ref 386), some (.int 0)], [], M5265)
  refine w_lo dX9_dorm_184 rfl rfl rfl rfl ?_
  refine w_en dX9_dorm_185 rfl ?_
  exact ⟨rfl, hU2707.1, hU5266.1⟩
