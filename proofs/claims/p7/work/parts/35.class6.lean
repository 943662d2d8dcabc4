/-! the class's methods come to an end, within the box (wip/safe/mks.py) -/
set_option maxRecDepth 100000 in
theorem k_2069 {X : List Int32} {d N : Nat} {M0 : zM} (a0 : Int32) (a1 : Int32) (hN : N ≤ 600) (hB0 : zB N M0) : ZV X (d + 2) 2069 [.ref 0, .int a0, .int a1] M0 (zRI N [] M0 (-2147483648) (2147483647) (fun _ _ => True)) := by
  have hJ0 : zJ N [] M0 M0 := zJ_refl hB0
  refine ZV.of (ini := false) rfl (Nat.le_of_ble_eq_true rfl) (by decide +kernel) ?_
  show ZW _ _ _ _ _ _ _ (0, [some (.ref 0), some (.int a0), some (.int a1)], [], M0)
  refine w_lo dX8_dream_0 rfl rfl rfl rfl ?_
  refine w_lo dX8_dream_1 rfl rfl rfl rfl ?_
  refine w_iv dX8_dream_2 rfl rfl (As := [.int a0]) rfl rfl hJ0.1.1 zs_0 (Nat.le_of_ble_eq_true rfl) ?_
  refine ZV.of (ini := false) rfl (Nat.le_of_ble_eq_true rfl) (by decide +kernel) ?_
  show ZW _ _ _ _ _ _ _ (0, [some (.ref 0), some (.int a0)], [], M0)
  refine w_lo dX8_isDream_0 rfl rfl rfl rfl ?_
  rcases zcut a0.toInt (0 : Int) with h1 | h1
  · skip
    refine w_ilt_t dX8_isDream_1 (t := 19) rfl (by omega) ?_
    refine w_ic dX8_isDream_19 zi_0 ?_
    refine w_en dX8_isDream_20 rfl ?_
    show ZW _ _ _ _ _ _ _ (5, [some (.ref 0), some (.int a0), some (.int a1)], [.int 0], M0)
    refine w_ine_f dX8_dream_5 (t := 10) rfl (by have := zt_0; omega) ?_
    refine w_ic dX8_dream_8 zi_m1 ?_
    refine w_en dX8_dream_9 rfl ?_
    exact ⟨_, _, rfl, (zbot _), (ztop _), hJ0, trivial⟩
  · skip
    refine w_ilt_f dX8_isDream_1 (t := 19) rfl (by omega) ?_
    refine w_lo dX8_isDream_4 rfl rfl rfl rfl ?_
    refine w_lo dX8_isDream_5 rfl rfl rfl rfl ?_
    obtain ⟨b2, f3, h4⟩ := zd_0_3 hJ0.1
    have h5 := zDm_b h4
    refine w_gf dX8_isDream_6 rfl hJ0.1.1 zs_0 f3 ?_
    refine w_gfi dX8_isDream_9 rfl hJ0.1 (zs_1_0 h4) (Nat.le_of_ble_eq_true rfl) (zo_1_0_2 h4) ?_
    intro x6 f7 h8 h9
    rcases zcut a0.toInt x6.toInt with h10 | h10
    · skip
      refine w_cge_f dX8_isDream_12 (t := 19) rfl (by omega) ?_
      refine w_ic dX8_isDream_15 zi_1 ?_
      refine w_gt dX8_isDream_16 (t := 20) rfl ?_
      refine w_en dX8_isDream_20 rfl ?_
      show ZW _ _ _ _ _ _ _ (5, [some (.ref 0), some (.int a0), some (.int a1)], [.int 1], M0)
      refine w_ine_t dX8_dream_5 (t := 10) rfl (by have := zt_1; omega) ?_
      refine w_lo dX8_dream_10 rfl rfl rfl rfl ?_
      rcases Int.decEq a1.toInt (0 : Int) with h11 | h11
      rotate_left
      · skip
        refine w_ts dX8_dream_11 (t := 44) (j := 0) h11 (by decide) ?_
        refine w_lo dX8_dream_44 rfl rfl rfl rfl ?_
        refine w_gf dX8_dream_45 rfl hJ0.1.1 zs_0 f3 ?_
        refine w_gf dX8_dream_48 rfl hJ0.1.1 (zs_1_0 h4) (zr_1_0_10 h4 hJ0.1) ?_
        refine w_lo dX8_dream_51 rfl rfl rfl rfl ?_
        refine w_iai dX8_dream_52 hJ0.1 (zs_1_8 h4) (by omega) (by omega) (zu_1_8 h4) ?_
        intro x15 f12 h13 h14
        refine w_eni dX8_dream_53 rfl rfl ?_
        exact ⟨_, _, rfl, (zbot _), (ztop _), hJ0, trivial⟩
      rcases Int.decEq a1.toInt (1 : Int) with h16 | h16
      rotate_left
      · skip
        refine w_ts dX8_dream_11 (t := 54) (j := 1) h16 (by decide) ?_
        refine w_lo dX8_dream_54 rfl rfl rfl rfl ?_
        refine w_gf dX8_dream_55 rfl hJ0.1.1 zs_0 f3 ?_
        refine w_gf dX8_dream_58 rfl hJ0.1.1 (zs_1_0 h4) (zr_1_0_11 h4 hJ0.1) ?_
        refine w_lo dX8_dream_61 rfl rfl rfl rfl ?_
        refine w_iai dX8_dream_62 hJ0.1 (zs_1_9 h4) (by omega) (by omega) (zu_1_9 h4) ?_
        intro x20 f17 h18 h19
        refine w_eni dX8_dream_63 rfl rfl ?_
        exact ⟨_, _, rfl, (zbot _), (ztop _), hJ0, trivial⟩
      rcases Int.decEq a1.toInt (2 : Int) with h21 | h21
      rotate_left
      · skip
        refine w_ts dX8_dream_11 (t := 64) (j := 2) h21 (by decide) ?_
        refine w_lo dX8_dream_64 rfl rfl rfl rfl ?_
        refine w_gf dX8_dream_65 rfl hJ0.1.1 zs_0 f3 ?_
        refine w_gf dX8_dream_68 rfl hJ0.1.1 (zs_1_0 h4) (zr_1_0_12 h4 hJ0.1) ?_
        refine w_lo dX8_dream_71 rfl rfl rfl rfl ?_
        refine w_iai dX8_dream_72 hJ0.1 (zs_1_10 h4) (by omega) (by omega) (zu_1_10 h4) ?_
        intro x25 f22 h23 h24
        refine w_eni dX8_dream_73 rfl rfl ?_
        exact ⟨_, _, rfl, (zbot _), (ztop _), hJ0, trivial⟩
      rcases Int.decEq a1.toInt (3 : Int) with h26 | h26
      rotate_left
      · skip
        refine w_ts dX8_dream_11 (t := 74) (j := 3) h26 (by decide) ?_
        refine w_lo dX8_dream_74 rfl rfl rfl rfl ?_
        refine w_gf dX8_dream_75 rfl hJ0.1.1 zs_0 f3 ?_
        refine w_gf dX8_dream_78 rfl hJ0.1.1 (zs_1_0 h4) (zr_1_0_13 h4 hJ0.1) ?_
        refine w_lo dX8_dream_81 rfl rfl rfl rfl ?_
        refine w_iai dX8_dream_82 hJ0.1 (zs_1_11 h4) (by omega) (by omega) (zu_1_11 h4) ?_
        intro x30 f27 h28 h29
        refine w_eni dX8_dream_83 rfl rfl ?_
        exact ⟨_, _, rfl, (zbot _), (ztop _), hJ0, trivial⟩
      rcases Int.decEq a1.toInt (4 : Int) with h31 | h31
      rotate_left
      · skip
        refine w_ts dX8_dream_11 (t := 84) (j := 4) h31 (by decide) ?_
        refine w_lo dX8_dream_84 rfl rfl rfl rfl ?_
        refine w_lo dX8_dream_85 rfl rfl rfl rfl ?_
        refine w_iv dX8_dream_86 rfl rfl (As := [.int a0]) rfl rfl hJ0.1.1 zs_0 (Nat.le_of_ble_eq_true rfl) ?_
        refine ZV.imp (k_2057 a0 (by omega) (by omega) hN hJ0.1) ?_
        rintro _ ⟨x35, M32, rfl, h36, h37, hJ33, hq34⟩
        have hJ38 := zJ_trans hJ0 hJ33 zSub_nil
        show ZW _ _ _ _ _ _ _ (89, [some (.ref 0), some (.int a0), some (.int a1)], [.int x35], M32)
        refine w_eni dX8_dream_89 rfl rfl ?_
        exact ⟨_, _, rfl, (zbot _), (ztop _), hJ38, trivial⟩
      refine w_td dX8_dream_11 (t := 90) (by omega) rfl ?_
      refine w_ic dX8_dream_90 zi_m1 ?_
      refine w_en dX8_dream_91 rfl ?_
      exact ⟨_, _, rfl, (zbot _), (ztop _), hJ0, trivial⟩
    · skip
      refine w_cge_t dX8_isDream_12 (t := 19) rfl (by omega) ?_
      refine w_ic dX8_isDream_19 zi_0 ?_
      refine w_en dX8_isDream_20 rfl ?_
      show ZW _ _ _ _ _ _ _ (5, [some (.ref 0), some (.int a0), some (.int a1)], [.int 0], M0)
      refine w_ine_f dX8_dream_5 (t := 10) rfl (by have := zt_0; omega) ?_
      refine w_ic dX8_dream_8 zi_m1 ?_
      refine w_en dX8_dream_9 rfl ?_
      exact ⟨_, _, rfl, (zbot _), (ztop _), hJ0, trivial⟩
set_option maxRecDepth 100000 in
theorem k_2070 {X : List Int32} {d N : Nat} {M0 : zM} (a0 : Int32) (a1 : Int32) (hN : N ≤ 600) (hB0 : zB N M0) : ZV X (d + 3) 2070 [.ref 0, .int a0, .int a1] M0 (zRI N [] M0 (-1) (1023) (fun _ _ => True)) := by
  have hJ0 : zJ N [] M0 M0 := zJ_refl hB0
  refine ZV.of (ini := false) rfl (Nat.le_of_ble_eq_true rfl) (by decide +kernel) ?_
  show ZW _ _ _ _ _ _ _ (0, [some (.ref 0), some (.int a0), some (.int a1), none], [], M0)
  refine w_lo dX8_tug_0 rfl rfl rfl rfl ?_
  rcases zcut a0.toInt (0 : Int) with h1 | h1
  · skip
    refine w_ilt_t dX8_tug_1 (t := 15) rfl (by omega) ?_
    refine w_ic dX8_tug_15 zi_m1 ?_
    refine w_en dX8_tug_16 rfl ?_
    exact ⟨_, _, rfl, (by have := zt_m1; omega), (by have := zt_m1; omega), hJ0, trivial⟩
  · skip
    refine w_ilt_f dX8_tug_1 (t := 15) rfl (by omega) ?_
    refine w_lo dX8_tug_4 rfl rfl rfl rfl ?_
    refine w_lo dX8_tug_5 rfl rfl rfl rfl ?_
    refine w_gf dX8_tug_6 rfl hJ0.1.1 zs_0 (zr_0_4 hJ0.1) ?_
    refine w_iv dX8_tug_9 rfl rfl (As := []) rfl rfl hJ0.1.1 zs_49 (Nat.le_of_ble_eq_true rfl) ?_
    refine ZV.of (ini := false) rfl (Nat.le_of_ble_eq_true rfl) (by decide +kernel) ?_
    show ZW _ _ _ _ _ _ _ (0, [some (.ref 49)], [], M0)
    refine w_lo dX6_told_0 rfl rfl rfl rfl ?_
    refine w_gfc dX6_told_1 rfl hJ0.1 zs_49 (Nat.le_of_ble_eq_true rfl) zo_49_14 ?_
    intro x2 f3 h4 h5
    refine w_si dX6_told_4 (c := 200) (by decide) ?_
    refine w_mnI dX6_told_7 rfl (Nat.le_of_ble_eq_true rfl) ?_
    intro x6 h7 h8 h9
    have := zt_200
    show ZW _ _ _ _ _ _ _ (10, [some (.ref 49)], [.int x6], M0)
    refine w_eni dX6_told_10 rfl rfl ?_
    show ZW _ _ _ _ _ _ _ (12, [some (.ref 0), some (.int a0), some (.int a1), none], [.int x6, .int a0], M0)
    rcases zcut a0.toInt x6.toInt with h10 | h10
    · skip
      refine w_clt_t dX8_tug_12 (t := 17) rfl (by omega) ?_
      refine w_lo dX8_tug_17 rfl rfl rfl rfl ?_
      refine w_gf dX8_tug_18 rfl hJ0.1.1 zs_0 (zr_0_4 hJ0.1) ?_
      refine w_lo dX8_tug_21 rfl rfl rfl rfl ?_
      refine w_iv dX8_tug_22 rfl rfl (As := [.int a0]) rfl rfl hJ0.1.1 zs_49 (Nat.le_of_ble_eq_true rfl) ?_
      refine ZV.imp (k_1541 49 hb_6_49 a0 (by omega) (by omega) hN hJ0.1) ?_
      rintro _ ⟨x14, M11, rfl, h15, h16, hJ12, hq13⟩
      have hJ17 := zJ_trans hJ0 hJ12 zSub_nil
      show ZW _ _ _ _ _ _ _ (25, [some (.ref 0), some (.int a0), some (.int a1), none], [.int x14], M11)
      refine w_lo (ml' := [some (.ref 0), some (.int a0), some (.int a1), some (.int x14)]) dX8_tug_25 rfl rfl rfl rfl ?_
      refine w_lo dX8_tug_26 rfl rfl rfl rfl ?_
      rcases Int.decEq a1.toInt (0 : Int) with h18 | h18
      rotate_left
      · skip
        refine w_ts dX8_tug_27 (t := 60) (j := 0) h18 (by decide) ?_
        refine w_lo dX8_tug_60 rfl rfl rfl rfl ?_
        refine w_si dX8_tug_61 (c := 1023) (by decide) ?_
        refine w_and dX8_tug_64 (m := 1023) zt_1023 (by omega) ?_
        intro x19 h20 h21
        refine w_eni dX8_tug_65 rfl rfl ?_
        exact ⟨_, _, rfl, (by omega), (by omega), hJ17, trivial⟩
      rcases Int.decEq a1.toInt (1 : Int) with h22 | h22
      rotate_left
      · skip
        refine w_ts dX8_tug_27 (t := 66) (j := 1) h22 (by decide) ?_
        refine w_lo dX8_tug_66 rfl rfl rfl rfl ?_
        refine w_bi dX8_tug_67 (c := 10) (by decide) ?_
        refine w_puI dX8_tug_69 rfl rfl ?_
        intro x23
        refine w_bi dX8_tug_70 (c := 15) (by decide) ?_
        refine w_and dX8_tug_72 (m := 15) zt_15 (by omega) ?_
        intro x24 h25 h26
        refine w_eni dX8_tug_73 rfl rfl ?_
        exact ⟨_, _, rfl, (by omega), (by omega), hJ17, trivial⟩
      rcases Int.decEq a1.toInt (2 : Int) with h27 | h27
      rotate_left
      · skip
        refine w_ts dX8_tug_27 (t := 74) (j := 2) h27 (by decide) ?_
        refine w_lo dX8_tug_74 rfl rfl rfl rfl ?_
        refine w_bi dX8_tug_75 (c := 14) (by decide) ?_
        refine w_puI dX8_tug_77 rfl rfl ?_
        intro x28
        refine w_bi dX8_tug_78 (c := 7) (by decide) ?_
        refine w_and dX8_tug_80 (m := 7) zt_7 (by omega) ?_
        intro x29 h30 h31
        refine w_eni dX8_tug_81 rfl rfl ?_
        exact ⟨_, _, rfl, (by omega), (by omega), hJ17, trivial⟩
      rcases Int.decEq a1.toInt (3 : Int) with h32 | h32
      rotate_left
      · skip
        refine w_ts dX8_tug_27 (t := 82) (j := 3) h32 (by decide) ?_
        refine w_lo dX8_tug_82 rfl rfl rfl rfl ?_
        refine w_bi dX8_tug_83 (c := 17) (by decide) ?_
        refine w_puI dX8_tug_85 rfl rfl ?_
        intro x33
        refine w_si dX8_tug_86 (c := 1023) (by decide) ?_
        refine w_and dX8_tug_89 (m := 1023) zt_1023 (by omega) ?_
        intro x34 h35 h36
        refine w_eni dX8_tug_90 rfl rfl ?_
        exact ⟨_, _, rfl, (by omega), (by omega), hJ17, trivial⟩
      rcases Int.decEq a1.toInt (4 : Int) with h37 | h37
      rotate_left
      · skip
        refine w_ts dX8_tug_27 (t := 91) (j := 4) h37 (by decide) ?_
        refine w_lo dX8_tug_91 rfl rfl rfl rfl ?_
        refine w_bi dX8_tug_92 (c := 27) (by decide) ?_
        refine w_puI dX8_tug_94 rfl rfl ?_
        intro x38
        refine w_bi dX8_tug_95 (c := 15) (by decide) ?_
        refine w_and dX8_tug_97 (m := 15) zt_15 (by omega) ?_
        intro x39 h40 h41
        refine w_eni dX8_tug_98 rfl rfl ?_
        exact ⟨_, _, rfl, (by omega), (by omega), hJ17, trivial⟩
      refine w_td dX8_tug_27 (t := 99) (by omega) rfl ?_
      refine w_ic dX8_tug_99 zi_m1 ?_
      refine w_en dX8_tug_100 rfl ?_
      exact ⟨_, _, rfl, (by have := zt_m1; omega), (by have := zt_m1; omega), hJ17, trivial⟩
    · skip
      refine w_clt_f dX8_tug_12 (t := 17) rfl (by omega) ?_
      refine w_ic dX8_tug_15 zi_m1 ?_
      refine w_en dX8_tug_16 rfl ?_
      exact ⟨_, _, rfl, (by have := zt_m1; omega), (by have := zt_m1; omega), hJ0, trivial⟩
set_option maxRecDepth 100000 in
theorem k_2071 {X : List Int32} {d N : Nat} {M0 : zM} (a0 : Int32) (a1 : Int32) (a2 : Int32) (ha20 : (0 : Int) ≤ a2.toInt) (ha21 : a2.toInt ≤ 1) (hN : N ≤ 600) (hB0 : zB N M0) : ZV X (d + 4) 2071 [.ref 0, .int a0, .int a1, .int a2] M0 (zRI N [(26, 28, 1000), (47, 49, 1000)] M0 (-1) (9999) (fun _ _ => True)) := by
  have hJ0 : zJ N [(26, 28, 1000), (47, 49, 1000)] M0 M0 := zJ_refl hB0
  refine ZV.of (ini := false) rfl (Nat.le_of_ble_eq_true rfl) (by decide +kernel) ?_
  show ZW _ _ _ _ _ _ _ (0, [some (.ref 0), some (.int a0), some (.int a1), some (.int a2), none], [], M0)
  refine w_lo dX8_law_0 rfl rfl rfl rfl ?_
  refine w_lo dX8_law_1 rfl rfl rfl rfl ?_
  refine w_iv dX8_law_2 rfl rfl (As := [.int a0]) rfl rfl hJ0.1.1 zs_0 (Nat.le_of_ble_eq_true rfl) ?_
  refine ZV.of (ini := false) rfl (Nat.le_of_ble_eq_true rfl) (by decide +kernel) ?_
  show ZW _ _ _ _ _ _ _ (0, [some (.ref 0), some (.int a0)], [], M0)
  refine w_lo dX8_isPlace_0 rfl rfl rfl rfl ?_
  rcases zcut a0.toInt (0 : Int) with h1 | h1
  · skip
    refine w_ilt_t dX8_isPlace_1 (t := 19) rfl (by omega) ?_
    refine w_ic dX8_isPlace_19 zi_0 ?_
    refine w_en dX8_isPlace_20 rfl ?_
    show ZW _ _ _ _ _ _ _ (5, [some (.ref 0), some (.int a0), some (.int a1), some (.int a2), none], [.int 0], M0)
    refine w_ieq_t dX8_law_5 (t := 15) rfl (by have := zt_0; omega) ?_
    refine w_ic dX8_law_15 zi_m1 ?_
    refine w_en dX8_law_16 rfl ?_
    exact ⟨_, _, rfl, (by have := zt_m1; omega), (by have := zt_m1; omega), hJ0, trivial⟩
  · skip
    refine w_ilt_f dX8_isPlace_1 (t := 19) rfl (by omega) ?_
    refine w_lo dX8_isPlace_4 rfl rfl rfl rfl ?_
    refine w_lo dX8_isPlace_5 rfl rfl rfl rfl ?_
    refine w_gf dX8_isPlace_6 rfl hJ0.1.1 zs_0 (zr_0_4 hJ0.1) ?_
    refine w_gfi dX8_isPlace_9 rfl hJ0.1 zs_49 (Nat.le_of_ble_eq_true rfl) zo_49_0 ?_
    intro x2 f3 h4 h5
    rcases zcut a0.toInt x2.toInt with h6 | h6
    · skip
      refine w_cge_f dX8_isPlace_12 (t := 19) rfl (by omega) ?_
      refine w_ic dX8_isPlace_15 zi_1 ?_
      refine w_gt dX8_isPlace_16 (t := 20) rfl ?_
      refine w_en dX8_isPlace_20 rfl ?_
      show ZW _ _ _ _ _ _ _ (5, [some (.ref 0), some (.int a0), some (.int a1), some (.int a2), none], [.int 1], M0)
      refine w_ieq_f dX8_law_5 (t := 15) rfl (by have := zt_1; omega) ?_
      refine w_lo dX8_law_8 rfl rfl rfl rfl ?_
      refine w_ss dX8_law_9 rfl rfl (As := [.int a1]) rfl rfl (Nat.le_of_ble_eq_true rfl) ?_
      refine ZV.of (ini := false) rfl (Nat.le_of_ble_eq_true rfl) (by decide +kernel) ?_
      show ZW _ _ _ _ _ _ _ (0, [some (.int a1)], [], M0)
      refine w_lo dX8_isForce_0 rfl rfl rfl rfl ?_
      refine w_ic dX8_isForce_1 zi_1 ?_
      rcases zcut a1.toInt (1 : Int) with h7 | h7
      · skip
        refine w_clt_t dX8_isForce_2 (t := 16) rfl (by have := zt_1; omega) ?_
        refine w_ic dX8_isForce_16 zi_0 ?_
        refine w_en dX8_isForce_17 rfl ?_
        show ZW _ _ _ _ _ _ _ (12, [some (.ref 0), some (.int a0), some (.int a1), some (.int a2), none], [.int 0], M0)
        refine w_ine_f dX8_law_12 (t := 17) rfl (by have := zt_0; omega) ?_
        refine w_ic dX8_law_15 zi_m1 ?_
        refine w_en dX8_law_16 rfl ?_
        exact ⟨_, _, rfl, (by have := zt_m1; omega), (by have := zt_m1; omega), hJ0, trivial⟩
      · skip
        refine w_clt_f dX8_isForce_2 (t := 16) rfl (by have := zt_1; omega) ?_
        refine w_lo dX8_isForce_5 rfl rfl rfl rfl ?_
        refine w_si dX8_isForce_6 (c := 9999) (by decide) ?_
        rcases zcut (9999 : Int) a1.toInt with h8 | h8
        · skip
          refine w_cgt_t dX8_isForce_9 (t := 16) rfl (by have := zt_9999; omega) ?_
          refine w_ic dX8_isForce_16 zi_0 ?_
          refine w_en dX8_isForce_17 rfl ?_
          show ZW _ _ _ _ _ _ _ (12, [some (.ref 0), some (.int a0), some (.int a1), some (.int a2), none], [.int 0], M0)
          refine w_ine_f dX8_law_12 (t := 17) rfl (by have := zt_0; omega) ?_
          refine w_ic dX8_law_15 zi_m1 ?_
          refine w_en dX8_law_16 rfl ?_
          exact ⟨_, _, rfl, (by have := zt_m1; omega), (by have := zt_m1; omega), hJ0, trivial⟩
        · skip
          refine w_cgt_f dX8_isForce_9 (t := 16) rfl (by have := zt_9999; omega) ?_
          refine w_ic dX8_isForce_12 zi_1 ?_
          refine w_gt dX8_isForce_13 (t := 17) rfl ?_
          refine w_en dX8_isForce_17 rfl ?_
          show ZW _ _ _ _ _ _ _ (12, [some (.ref 0), some (.int a0), some (.int a1), some (.int a2), none], [.int 1], M0)
          refine w_ine_t dX8_law_12 (t := 17) rfl (by have := zt_1; omega) ?_
          refine w_lo dX8_law_17 rfl rfl rfl rfl ?_
          refine w_gf dX8_law_18 rfl hJ0.1.1 zs_0 (zr_0_4 hJ0.1) ?_
          refine w_gf dX8_law_21 rfl hJ0.1.1 zs_49 (zr_49_2 hJ0.1) ?_
          refine w_lo dX8_law_24 rfl rfl rfl rfl ?_
          refine w_iai dX8_law_25 hJ0.1 zs_50 (by omega) (by omega) zu_50 ?_
          intro x12 f9 h10 h11
          refine w_lo (ml' := [some (.ref 0), some (.int a0), some (.int a1), some (.int a2), some (.int x12)]) dX8_law_26 rfl rfl rfl rfl ?_
          refine w_lo dX8_law_28 rfl rfl rfl rfl ?_
          refine w_gf dX8_law_29 rfl hJ0.1.1 zs_0 (zr_0_8 hJ0.1) ?_
          refine w_lo dX8_law_32 rfl rfl rfl rfl ?_
          obtain ⟨b13, f14, h15⟩ := zd_0_3 hJ0.1
          have h16 := zDm_b h15
          refine w_gf dX8_law_33 rfl hJ0.1.1 zs_0 f14 ?_
          refine w_lo dX8_law_36 rfl rfl rfl rfl ?_
          refine w_gf dX8_law_37 rfl hJ0.1.1 zs_0 (zr_0_4 hJ0.1) ?_
          refine w_lo dX8_law_40 rfl rfl rfl rfl ?_
          refine w_lo dX8_law_41 rfl rfl rfl rfl ?_
          refine w_iv dX8_law_42 rfl rfl (As := [.ref b13, .ref 49, .int a0, .int a1]) rfl rfl hJ0.1.1 zs_362 (Nat.le_of_ble_eq_true rfl) ?_
          refine ZV.imp (k_1793 362 hb_7_362 b13 h15 49 hb_6_49 a0 (by omega) (by omega) a1 (by omega) (ztop _) hN hJ0.1) ?_
          rintro _ ⟨M17, rfl, hJ18, hq19⟩
          have hJ20 := zJ_trans hJ0 hJ18 (zSub_cons (fun _ _ h h' hk => ((zDm_or h15).elim (fun e => zIR_a (by omega) (by omega)) (fun e => zIR_s (zIR_a (by omega) (by omega))))) zSub_nil)
          show ZW _ _ _ _ _ _ _ (45, [some (.ref 0), some (.int a0), some (.int a1), some (.int a2), some (.int x12)], [], M17)
          refine w_lo dX8_law_45 rfl rfl rfl rfl ?_
          rcases Int.decEq a2.toInt (0 : Int) with h21 | h21
          · skip
            refine w_ine_t dX8_law_46 (t := 74) rfl (by omega) ?_
            refine w_lo dX8_law_74 rfl rfl rfl rfl ?_
            have f22 := (hJ18.2 (0) 3 (zNI (by omega) zNI_nil)).trans (f14)
            refine w_gf dX8_law_75 rfl hJ20.1.1 zs_0 f22 ?_
            refine w_lo dX8_law_78 rfl rfl rfl rfl ?_
            refine w_iv dX8_law_80 rfl rfl (As := [.int x12]) rfl rfl hJ20.1.1 (zs_1_0 h15) (Nat.le_of_ble_eq_true rfl) ?_
            refine ZV.imp (k_260 b13 h15 x12 (by omega) (by omega) hN hJ20.1) ?_
            rintro _ ⟨x26, M23, rfl, h27, h28, hJ24, hq25⟩
            have hJ29 := zJ_trans hJ20 hJ24 zSub_nil
            show ZW _ _ _ _ _ _ _ (83, [some (.ref 0), some (.int a0), some (.int a1), some (.int a2), some (.int x12)], [.int x26], M23)
            rcases Int.decEq x26.toInt (0 : Int) with h30 | h30
            · skip
              refine w_ieq_f dX8_law_83 (t := 88) rfl (by omega) ?_
              refine w_lo dX8_law_86 rfl rfl rfl rfl ?_
              refine w_eni dX8_law_87 rfl rfl ?_
              exact ⟨_, _, rfl, (by omega), (by omega), hJ29, trivial⟩
            · skip
              refine w_ieq_t dX8_law_83 (t := 88) rfl (by omega) ?_
              refine w_lo dX8_law_88 rfl rfl rfl rfl ?_
              have f31 := (hJ24.2 (0) 3 zNI_nil).trans (f22)
              refine w_gf dX8_law_89 rfl hJ29.1.1 zs_0 f31 ?_
              refine w_gf dX8_law_92 rfl hJ29.1.1 (zs_1_0 h15) (zr_1_0_15 h15 hJ29.1) ?_
              refine w_ic dX8_law_95 zi_0 ?_
              refine w_lo dX8_law_96 rfl rfl rfl rfl ?_
              refine w_lo dX8_law_97 rfl rfl rfl rfl ?_
              refine w_gf dX8_law_98 rfl hJ29.1.1 zs_0 f31 ?_
              refine w_gf dX8_law_101 rfl hJ29.1.1 (zs_1_0 h15) (zr_1_0_4 h15 hJ29.1) ?_
              refine w_lo dX8_law_104 rfl rfl rfl rfl ?_
              refine w_iai dX8_law_106 hJ29.1 (zs_1_2 h15) (by omega) (by omega) (zu_1_2 h15) ?_
              intro x35 f32 h33 h34
              refine w_puI dX8_law_107 rfl rfl ?_
              intro x36
              refine w_lo dX8_law_108 rfl rfl rfl rfl ?_
              refine w_iv dX8_law_109 rfl rfl (As := [.int 0, .int x36, .int a1]) rfl rfl hJ29.1.1 (zs_1_13 h15) (Nat.le_of_ble_eq_true rfl) ?_
              refine ZV.imp (k_518 (b13 + 13) (zLw_of h15) 0 (by have := zt_0; omega) (by have := zt_0; omega) x36 a1 (by omega) (by omega) hN hJ29.1) ?_
              rintro _ ⟨x40, M37, rfl, h41, h42, hJ38, hq39⟩
              have hJ43 := zJ_trans hJ29 hJ38 (zSub_cons (fun _ _ h h' hk => ((zDm_or h15).elim (fun e => zIR_a (by omega) (by omega)) (fun e => zIR_s (zIR_a (by omega) (by omega))))) zSub_nil)
              show ZW _ _ _ _ _ _ _ (112, [some (.ref 0), some (.int a0), some (.int a1), some (.int a2), some (.int x12)], [.int x40], M37)
              refine w_eni dX8_law_112 rfl rfl ?_
              exact ⟨_, _, rfl, (by omega), (by omega), hJ43, trivial⟩
          · skip
            refine w_ine_f dX8_law_46 (t := 74) rfl (by omega) ?_
            refine w_lo dX8_law_49 rfl rfl rfl rfl ?_
            have f44 := (hJ18.2 (0) 3 (zNI (by omega) zNI_nil)).trans (f14)
            refine w_gf dX8_law_50 rfl hJ20.1.1 zs_0 f44 ?_
            refine w_gf dX8_law_53 rfl hJ20.1.1 (zs_1_0 h15) (zr_1_0_15 h15 hJ20.1) ?_
            refine w_ic dX8_law_56 zi_1 ?_
            refine w_lo dX8_law_57 rfl rfl rfl rfl ?_
            refine w_gf dX8_law_58 rfl hJ20.1.1 zs_0 f44 ?_
            refine w_gf dX8_law_61 rfl hJ20.1.1 (zs_1_0 h15) (zr_1_0_5 h15 hJ20.1) ?_
            refine w_lo dX8_law_64 rfl rfl rfl rfl ?_
            refine w_iai dX8_law_66 hJ20.1 (zs_1_3 h15) (by omega) (by omega) (zu_1_3 h15) ?_
            intro x48 f45 h46 h47
            refine w_si dX8_law_67 (c := 9999) (by decide) ?_
            refine w_iv dX8_law_70 rfl rfl (As := [.int 1, .int x48, .int 9999]) rfl rfl hJ20.1.1 (zs_1_13 h15) (Nat.le_of_ble_eq_true rfl) ?_
            refine ZV.imp (k_518 (b13 + 13) (zLw_of h15) 1 (by have := zt_1; omega) (by have := zt_1; omega) x48 9999 (by have := zt_9999; omega) (by have := zt_9999; omega) hN hJ20.1) ?_
            rintro _ ⟨x52, M49, rfl, h53, h54, hJ50, hq51⟩
            have hJ55 := zJ_trans hJ20 hJ50 (zSub_cons (fun _ _ h h' hk => ((zDm_or h15).elim (fun e => zIR_a (by omega) (by omega)) (fun e => zIR_s (zIR_a (by omega) (by omega))))) zSub_nil)
            show ZW _ _ _ _ _ _ _ (73, [some (.ref 0), some (.int a0), some (.int a1), some (.int a2), some (.int x12)], [.int x52], M49)
            refine w_eni dX8_law_73 rfl rfl ?_
            exact ⟨_, _, rfl, (by omega), (by omega), hJ55, trivial⟩
    · skip
      refine w_cge_t dX8_isPlace_12 (t := 19) rfl (by omega) ?_
      refine w_ic dX8_isPlace_19 zi_0 ?_
      refine w_en dX8_isPlace_20 rfl ?_
      show ZW _ _ _ _ _ _ _ (5, [some (.ref 0), some (.int a0), some (.int a1), some (.int a2), none], [.int 0], M0)
      refine w_ieq_t dX8_law_5 (t := 15) rfl (by have := zt_0; omega) ?_
      refine w_ic dX8_law_15 zi_m1 ?_
      refine w_en dX8_law_16 rfl ?_
      exact ⟨_, _, rfl, (by have := zt_m1; omega), (by have := zt_m1; omega), hJ0, trivial⟩
set_option maxRecDepth 100000 in
theorem k_2074 {X : List Int32} {d N : Nat} {M0 : zM}  (hN : N ≤ 600) (hB0 : zB N M0) : ZV X (d + 4) 2074 [.ref 0] M0 (zRV N [(77, 78, 0), (79, 346, 0), (77, 78, 1), (79, 346, 1), (80, 359, 1000), (79, 346, 14), (0, 1, 15)] M0 (fun _ => True)) := by
  have hJ0 : zJ N [(77, 78, 0), (79, 346, 0), (77, 78, 1), (79, 346, 1), (80, 359, 1000), (79, 346, 14), (0, 1, 15)] M0 M0 := zJ_refl hB0
  refine ZV.of (ini := false) rfl (Nat.le_of_ble_eq_true rfl) (by decide +kernel) ?_
  show ZW _ _ _ _ _ _ _ (0, [some (.ref 0)], [], M0)
  refine w_lo dX8_startAct_0 rfl rfl rfl rfl ?_
  refine w_gf dX8_startAct_1 rfl hJ0.1.1 zs_0 (zr_0_6 hJ0.1) ?_
  refine w_lo dX8_startAct_4 rfl rfl rfl rfl ?_
  refine w_gf dX8_startAct_5 rfl hJ0.1.1 zs_0 (zr_0_4 hJ0.1) ?_
  refine w_iv dX8_startAct_8 rfl rfl (As := [.ref 49]) rfl rfl hJ0.1.1 zs_77 (Nat.le_of_ble_eq_true rfl) ?_
  refine ZV.imp (k_2 49 hb_6_49 hN hJ0.1) ?_
  rintro _ ⟨M1, rfl, hJ2, hq3⟩
  have hJ4 := zJ_trans hJ0 hJ2 (zSub_cons (fun _ _ h h' hk => zIR_e (by omega) (by omega) hk) (zSub_cons (fun _ _ h h' hk => zIR_s (zIR_e (by omega) (by omega) hk)) (zSub_cons (fun _ _ h h' hk => zIR_s (zIR_s (zIR_e (by omega) (by omega) hk))) (zSub_cons (fun _ _ h h' hk => zIR_s (zIR_s (zIR_s (zIR_e (by omega) (by omega) hk)))) (zSub_cons (fun _ _ h h' hk => zIR_s (zIR_s (zIR_s (zIR_s (zIR_a (by omega) (by omega)))))) (zSub_cons (fun _ _ h h' hk => zIR_s (zIR_s (zIR_s (zIR_s (zIR_s (zIR_e (by omega) (by omega) hk)))))) zSub_nil))))))
  show ZW _ _ _ _ _ _ _ (11, [some (.ref 0)], [], M1)
  refine w_lo dX8_startAct_11 rfl rfl rfl rfl ?_
  refine w_pu dX8_startAct_12 rfl rfl ?_
  refine w_gfi dX8_startAct_13 rfl hJ4.1 zs_0 (Nat.le_of_ble_eq_true rfl) zo_0_15 ?_
  intro x5 f6 h7 h8
  refine w_ic dX8_startAct_16 zi_1 ?_
  refine w_puI dX8_startAct_17 rfl rfl ?_
  intro x9
  refine w_pfi dX8_startAct_18 rfl hJ4 zs_0 (Nat.le_of_ble_eq_true rfl) zo_0_15 (zbot _) (ztop _) (zIR_s (zIR_s (zIR_s (zIR_s (zIR_s (zIR_s (zIR_k (by omega) (by omega)))))))) rfl rfl rfl ?_
  intro M10 hJ11 f12 hn13
  refine w_en dX8_startAct_21 rfl ?_
  exact ⟨_, rfl, hJ11, trivial⟩
set_option maxRecDepth 100000 in
theorem k_770 {X : List Int32} {d N : Nat} {M0 : zM} (p0 : Nat) (hp0 : zDm p0) (p1 : Nat) (hp1 : zRp p1) (a2 : Int32) (ha20 : (0 : Int) ≤ a2.toInt) (ha21 : a2.toInt ≤ 11) (hN : N ≤ 600) (hB0 : zB N M0) : ZV X (d + 2) 770 [.ref 359, .ref p0, .ref p1, .int a2] M0 (zRI N [] M0 (0) (1) (fun _ _ => True)) := by
  have hbp0 := zDm_b hp0
  have hbp1 := zRp_b hp1
  have hJ0 : zJ N [] M0 M0 := zJ_refl hB0
  refine ZV.of (ini := false) rfl (Nat.le_of_ble_eq_true rfl) (by decide +kernel) ?_
  show ZW _ _ _ _ _ _ _ (0, [some (.ref 359), some (.ref p0), some (.ref p1), some (.int a2)], [], M0)
  refine w_lo dX3_canBegin_0 rfl rfl rfl rfl ?_
  refine w_gf dX3_canBegin_1 rfl hJ0.1.1 (zs_6_0 hp1) (zr_6_0_3 hp1 hJ0.1) ?_
  refine w_lo dX3_canBegin_4 rfl rfl rfl rfl ?_
  refine w_bai dX3_canBegin_5 hJ0.1 (zs_6_2 hp1) (by omega) (by omega) (zu_6_2 hp1) ?_
  intro x4 f1 h2 h3
  rcases Int.decEq x4.toInt (0 : Int) with h5 | h5
  · skip
    refine w_ieq_f dX3_canBegin_6 (t := 31) rfl (by omega) ?_
    refine w_lo dX3_canBegin_9 rfl rfl rfl rfl ?_
    refine w_lo dX3_canBegin_10 rfl rfl rfl rfl ?_
    refine w_iv dX3_canBegin_11 rfl rfl (As := [.int a2]) rfl rfl hJ0.1.1 (zs_1_0 hp0) (Nat.le_of_ble_eq_true rfl) ?_
    refine ZV.imp (k_260 p0 hp0 a2 (by omega) (by omega) hN hJ0.1) ?_
    rintro _ ⟨x9, M6, rfl, h10, h11, hJ7, hq8⟩
    have hJ12 := zJ_trans hJ0 hJ7 zSub_nil
    show ZW _ _ _ _ _ _ _ (14, [some (.ref 359), some (.ref p0), some (.ref p1), some (.int a2)], [.int x9], M6)
    rcases Int.decEq x9.toInt (0 : Int) with h13 | h13
    · skip
      refine w_ine_t dX3_canBegin_14 (t := 31) rfl (by omega) ?_
      refine w_ic dX3_canBegin_31 zi_0 ?_
      refine w_en dX3_canBegin_32 rfl ?_
      exact ⟨_, _, rfl, (by have := zt_0; omega), (by have := zt_0; omega), hJ12, trivial⟩
    · skip
      refine w_ine_f dX3_canBegin_14 (t := 31) rfl (by omega) ?_
      refine w_lo dX3_canBegin_17 rfl rfl rfl rfl ?_
      refine w_gf dX3_canBegin_18 rfl hJ12.1.1 (zs_6_0 hp1) (zr_6_0_4 hp1 hJ12.1) ?_
      refine w_lo dX3_canBegin_21 rfl rfl rfl rfl ?_
      refine w_iai dX3_canBegin_22 hJ12.1 (zs_6_3 hp1) (by omega) (by omega) (zu_6_3 hp1) ?_
      intro x17 f14 h15 h16
      refine w_ic dX3_canBegin_23 zi_m1 ?_
      rcases Int.decEq x17.toInt (-1 : Int) with h18 | h18
      · skip
        refine w_cne_t dX3_canBegin_24 (t := 31) rfl (by have := zt_m1; omega) ?_
        refine w_ic dX3_canBegin_31 zi_0 ?_
        refine w_en dX3_canBegin_32 rfl ?_
        exact ⟨_, _, rfl, (by have := zt_0; omega), (by have := zt_0; omega), hJ12, trivial⟩
      · skip
        refine w_cne_f dX3_canBegin_24 (t := 31) rfl (by have := zt_m1; omega) ?_
        refine w_ic dX3_canBegin_27 zi_1 ?_
        refine w_gt dX3_canBegin_28 (t := 32) rfl ?_
        refine w_en dX3_canBegin_32 rfl ?_
        exact ⟨_, _, rfl, (by have := zt_1; omega), (by have := zt_1; omega), hJ12, trivial⟩
  · skip
    refine w_ieq_t dX3_canBegin_6 (t := 31) rfl (by omega) ?_
    refine w_ic dX3_canBegin_31 zi_0 ?_
    refine w_en dX3_canBegin_32 rfl ?_
    exact ⟨_, _, rfl, (by have := zt_0; omega), (by have := zt_0; omega), hJ0, trivial⟩
set_option maxRecDepth 100000 in
theorem k_771 {X : List Int32} {d N : Nat} {M0 : zM} (p0 : Nat) (hp0 : zDm p0) (p1 : Nat) (hp1 : zRp p1) (a2 : Int32) (ha20 : (0 : Int) ≤ a2.toInt) (ha21 : a2.toInt ≤ 11) (a3 : Int32) (ha30 : (0 : Int) ≤ a3.toInt) (ha31 : a3.toInt ≤ 5) (a4 : Int32) (ha40 : (0 : Int) ≤ a4.toInt) (ha41 : a4.toInt ≤ 1) (tv : Int32) (hftv : zvl M0 (p1) 14 = some (.int tv)) (hrtv0 : 0 ≤ tv.toInt) (hrtv1 : tv.toInt + 1 ≤ 3000 * (N : Int)) (hN : N ≤ 600) (hB0 : zB N M0) : ZV X (d + 6) 771 [.ref 359, .ref p0, .ref p1, .int a2, .int a3, .int a4] M0 (zRI N [(p0 + 19, p0 + 21, 1000), (p1 + 2, p1 + 11, 1000), (p1 + 13, p1 + 14, 1000), (p1, p1 + 1, 14), (360, 361, 1), (361, 362, 1000)] M0 (0) (63) (fun v M' => (∃ w : Int32, zvl M' (p1) 14 = some (.int w) ∧ (w.toInt = tv.toInt + 1) ∧ True))) := by
  have hbp0 := zDm_b hp0
  have hbp1 := zRp_b hp1
  have hJ0 : zJ N [(p0 + 19, p0 + 21, 1000), (p1 + 2, p1 + 11, 1000), (p1 + 13, p1 + 14, 1000), (p1, p1 + 1, 14), (360, 361, 1), (361, 362, 1000)] M0 M0 := zJ_refl hB0
  refine ZV.of (ini := false) rfl (Nat.le_of_ble_eq_true rfl) (by decide +kernel) ?_
  have main : ∀ n : Nat,
      (∀ (M : zM) (v19_3 : Int32) (v19_4 : Int32) (u19_5 : Int32) (o19_6 : Option Value) (o19_7 : Option Value) (o19_8 : Option Value) (o19_9 : Option Value) (o19_10 : Option Value) (o19_11 : Option Value) (q_19 : Int32), zJ N [(p0 + 19, p0 + 21, 1000), (p1 + 2, p1 + 11, 1000), (p1 + 13, p1 + 14, 1000), (p1, p1 + 1, 14), (360, 361, 1), (361, 362, 1000)] M0 M → ((0 : Int) ≤ v19_3.toInt) → (v19_3.toInt ≤ 11) → ((0 : Int) ≤ v19_4.toInt) → (v19_4.toInt ≤ 5) → (zvl M (p1) 14 = some (.int q_19)) → (q_19.toInt = tv.toInt) → 88 < (n : Int) → ZW X (d + 5) 3 false (some .int) cX3_begins (zRI N [(p0 + 19, p0 + 21, 1000), (p1 + 2, p1 + 11, 1000), (p1 + 13, p1 + 14, 1000), (p1, p1 + 1, 14), (360, 361, 1), (361, 362, 1000)] M0 (0) (63) (fun v M' => (∃ w : Int32, zvl M' (p1) 14 = some (.int w) ∧ (w.toInt = tv.toInt + 1) ∧ True))) (19, [some (.ref 359), some (.ref p0), some (.ref p1), some (.int v19_3), some (.int v19_4), some (.int u19_5), o19_6, o19_7, o19_8, o19_9, o19_10, o19_11], [], M)) ∧
      (∀ (M : zM) (v40_3 : Int32) (v40_4 : Int32) (u40_5 : Int32) (v40_6 : Int32) (o40_7 : Option Value) (o40_8 : Option Value) (o40_9 : Option Value) (o40_10 : Option Value) (o40_11 : Option Value) (s40_0 : Int32) (q_40 : Int32), zJ N [(p0 + 19, p0 + 21, 1000), (p1 + 2, p1 + 11, 1000), (p1 + 13, p1 + 14, 1000), (p1, p1 + 1, 14), (360, 361, 1), (361, 362, 1000)] M0 M → ((0 : Int) ≤ v40_3.toInt) → (v40_3.toInt ≤ 11) → ((0 : Int) ≤ v40_4.toInt) → (v40_4.toInt ≤ 5) → ((0 : Int) ≤ v40_6.toInt) → (v40_6.toInt ≤ 1) → ((-2147483648 : Int) ≤ s40_0.toInt) → (s40_0.toInt ≤ 2147483647) → (zvl M (p1) 14 = some (.int q_40)) → (q_40.toInt = tv.toInt) → 87 < (n : Int) → ZW X (d + 5) 3 false (some .int) cX3_begins (zRI N [(p0 + 19, p0 + 21, 1000), (p1 + 2, p1 + 11, 1000), (p1 + 13, p1 + 14, 1000), (p1, p1 + 1, 14), (360, 361, 1), (361, 362, 1000)] M0 (0) (63) (fun v M' => (∃ w : Int32, zvl M' (p1) 14 = some (.int w) ∧ (w.toInt = tv.toInt + 1) ∧ True))) (40, [some (.ref 359), some (.ref p0), some (.ref p1), some (.int v40_3), some (.int v40_4), some (.int u40_5), some (.int v40_6), o40_7, o40_8, o40_9, o40_10, o40_11], [.int s40_0], M)) ∧
      (∀ (M : zM) (v57_3 : Int32) (v57_4 : Int32) (u57_5 : Int32) (u57_6 : Int32) (v57_7 : Int32) (o57_8 : Option Value) (o57_9 : Option Value) (o57_10 : Option Value) (o57_11 : Option Value) (s57_0 : Int32) (q_57 : Int32), zJ N [(p0 + 19, p0 + 21, 1000), (p1 + 2, p1 + 11, 1000), (p1 + 13, p1 + 14, 1000), (p1, p1 + 1, 14), (360, 361, 1), (361, 362, 1000)] M0 M → ((0 : Int) ≤ v57_3.toInt) → (v57_3.toInt ≤ 11) → ((0 : Int) ≤ v57_4.toInt) → (v57_4.toInt ≤ 5) → ((-2147483648 : Int) ≤ v57_7.toInt) → (v57_7.toInt ≤ 2147483647) → ((-1 : Int) ≤ s57_0.toInt) → (s57_0.toInt ≤ 11) → (zvl M (p1) 14 = some (.int q_57)) → (q_57.toInt = tv.toInt) → 86 < (n : Int) → ZW X (d + 5) 3 false (some .int) cX3_begins (zRI N [(p0 + 19, p0 + 21, 1000), (p1 + 2, p1 + 11, 1000), (p1 + 13, p1 + 14, 1000), (p1, p1 + 1, 14), (360, 361, 1), (361, 362, 1000)] M0 (0) (63) (fun v M' => (∃ w : Int32, zvl M' (p1) 14 = some (.int w) ∧ (w.toInt = tv.toInt + 1) ∧ True))) (57, [some (.ref 359), some (.ref p0), some (.ref p1), some (.int v57_3), some (.int v57_4), some (.int u57_5), some (.int u57_6), some (.int v57_7), o57_8, o57_9, o57_10, o57_11], [.int s57_0], M)) ∧
      (∀ (M : zM) (u122_3 : Int32) (v122_4 : Int32) (u122_5 : Int32) (u122_6 : Int32) (v122_7 : Int32) (v122_8 : Int32) (v122_9 : Int32) (o122_10 : Option Value) (o122_11 : Option Value) (q_122 : Int32), zJ N [(p0 + 19, p0 + 21, 1000), (p1 + 2, p1 + 11, 1000), (p1 + 13, p1 + 14, 1000), (p1, p1 + 1, 14), (360, 361, 1), (361, 362, 1000)] M0 M → ((0 : Int) ≤ v122_4.toInt) → (v122_4.toInt ≤ 5) → ((-2147483648 : Int) ≤ v122_7.toInt) → (v122_7.toInt ≤ 2147483647) → ((-1 : Int) ≤ v122_8.toInt) → (v122_8.toInt ≤ 11) → ((0 : Int) ≤ v122_9.toInt) → (v122_9.toInt ≤ 12) → (zvl M (p1) 14 = some (.int q_122)) → (q_122.toInt = tv.toInt + 1) → 6 * (12 - v122_9.toInt) + 1 < (n : Int) → ZW X (d + 5) 3 false (some .int) cX3_begins (zRI N [(p0 + 19, p0 + 21, 1000), (p1 + 2, p1 + 11, 1000), (p1 + 13, p1 + 14, 1000), (p1, p1 + 1, 14), (360, 361, 1), (361, 362, 1000)] M0 (0) (63) (fun v M' => (∃ w : Int32, zvl M' (p1) 14 = some (.int w) ∧ (w.toInt = tv.toInt + 1) ∧ True))) (122, [some (.ref 359), some (.ref p0), some (.ref p1), some (.int u122_3), some (.int v122_4), some (.int u122_5), some (.int u122_6), some (.int v122_7), some (.int v122_8), some (.int v122_9), o122_10, o122_11], [], M)) := by
    intro n
    induction n with
    | zero =>
      exact ⟨(fun M v19_3 v19_4 u19_5 o19_6 o19_7 o19_8 o19_9 o19_10 o19_11 q_19 hJ v19_30 v19_31 v19_40 v19_41 hfq_19 hrq_190 hn => absurd hn (by omega)), (fun M v40_3 v40_4 u40_5 v40_6 o40_7 o40_8 o40_9 o40_10 o40_11 s40_0 q_40 hJ v40_30 v40_31 v40_40 v40_41 v40_60 v40_61 s40_00 s40_01 hfq_40 hrq_400 hn => absurd hn (by omega)), (fun M v57_3 v57_4 u57_5 u57_6 v57_7 o57_8 o57_9 o57_10 o57_11 s57_0 q_57 hJ v57_30 v57_31 v57_40 v57_41 v57_70 v57_71 s57_00 s57_01 hfq_57 hrq_570 hn => absurd hn (by omega)), (fun M u122_3 v122_4 u122_5 u122_6 v122_7 v122_8 v122_9 o122_10 o122_11 q_122 hJ v122_40 v122_41 v122_70 v122_71 v122_80 v122_81 v122_90 v122_91 hfq_122 hrq_1220 hn => absurd hn (by omega))⟩
    | succ n ih =>
      obtain ⟨ih19, ih40, ih57, ih122⟩ := ih
      refine ⟨?_, ?_, ?_, ?_⟩
      · intro M v19_3 v19_4 u19_5 o19_6 o19_7 o19_8 o19_9 o19_10 o19_11 q_19 hJ v19_30 v19_31 v19_40 v19_41 hfq_19 hrq_190 hn
        refine w_ic dX3_begins_19 zi_0 ?_
        refine w_lo (ml' := [some (.ref 359), some (.ref p0), some (.ref p1), some (.int v19_3), some (.int v19_4), some (.int u19_5), some (.int 0), o19_7, o19_8, o19_9, o19_10, o19_11]) dX3_begins_20 rfl rfl rfl rfl ?_
        refine w_lo dX3_begins_22 rfl rfl rfl rfl ?_
        refine w_ieq_t dX3_begins_24 (t := 36) rfl (by have := zt_0; omega) ?_
        refine w_lo dX3_begins_36 rfl rfl rfl rfl ?_
        refine w_gfi dX3_begins_37 rfl hJ.1 (zs_6_0 hp1) (Nat.le_of_ble_eq_true rfl) (zo_6_0_1 hp1) ?_
        intro x1 f2 h3 h4
        exact ih40 M v19_3 v19_4 u19_5 0 o19_7 o19_8 o19_9 o19_10 o19_11 x1 q_19 hJ (by omega) (by omega) (by omega) (by omega) (by have := zt_0; omega) (by have := zt_0; omega) (zbot _) (ztop _) hfq_19 (by have := zt_0; omega) (by have := zt_0; omega)
      · intro M v40_3 v40_4 u40_5 v40_6 o40_7 o40_8 o40_9 o40_10 o40_11 s40_0 q_40 hJ v40_30 v40_31 v40_40 v40_41 v40_60 v40_61 s40_00 s40_01 hfq_40 hrq_400 hn
        refine w_lo (ml' := [some (.ref 359), some (.ref p0), some (.ref p1), some (.int v40_3), some (.int v40_4), some (.int u40_5), some (.int v40_6), some (.int s40_0), o40_8, o40_9, o40_10, o40_11]) dX3_begins_40 rfl rfl rfl rfl ?_
        refine w_lo dX3_begins_42 rfl rfl rfl rfl ?_
        rcases Int.decEq v40_6.toInt (0 : Int) with h5 | h5
        · skip
          refine w_ieq_f dX3_begins_44 (t := 56) rfl (by omega) ?_
          refine w_lo dX3_begins_47 rfl rfl rfl rfl ?_
          refine w_gf dX3_begins_48 rfl hJ.1.1 (zs_6_0 hp1) (zr_6_0_8 hp1 hJ.1) ?_
          refine w_lo dX3_begins_51 rfl rfl rfl rfl ?_
          refine w_iai dX3_begins_52 hJ.1 (zs_6_7 hp1) (by omega) (by omega) (zu_6_7 hp1) ?_
          intro x9 f6 h7 h8
          refine w_gt dX3_begins_53 (t := 57) rfl ?_
          exact ih57 M v40_3 v40_4 u40_5 v40_6 s40_0 o40_8 o40_9 o40_10 o40_11 x9 q_40 hJ (by omega) (by omega) (by omega) (by omega) (zbot _) (ztop _) (by omega) (by omega) hfq_40 (by omega) (by omega)
        · skip
          refine w_ieq_t dX3_begins_44 (t := 56) rfl (by omega) ?_
          refine w_lo dX3_begins_56 rfl rfl rfl rfl ?_
          exact ih57 M v40_3 v40_4 u40_5 v40_6 s40_0 o40_8 o40_9 o40_10 o40_11 v40_3 q_40 hJ (by omega) (by omega) (by omega) (by omega) (zbot _) (ztop _) (by omega) (by omega) hfq_40 (by omega) (by omega)
      · intro M v57_3 v57_4 u57_5 u57_6 v57_7 o57_8 o57_9 o57_10 o57_11 s57_0 q_57 hJ v57_30 v57_31 v57_40 v57_41 v57_70 v57_71 s57_00 s57_01 hfq_57 hrq_570 hn
        refine w_lo (ml' := [some (.ref 359), some (.ref p0), some (.ref p1), some (.int v57_3), some (.int v57_4), some (.int u57_5), some (.int u57_6), some (.int v57_7), some (.int s57_0), o57_9, o57_10, o57_11]) dX3_begins_57 rfl rfl rfl rfl ?_
        refine w_lo dX3_begins_59 rfl rfl rfl rfl ?_
        refine w_gf dX3_begins_60 rfl hJ.1.1 (zs_6_0 hp1) (zr_6_0_6 hp1 hJ.1) ?_
        refine w_lo dX3_begins_63 rfl rfl rfl rfl ?_
        refine w_ic dX3_begins_64 zi_m1 ?_
        refine w_isi dX3_begins_65 hJ (zs_6_5 hp1) (by omega) (by omega) (zu_6_5 hp1) (by have := zt_m1; omega) (by have := zt_m1; omega) (zIR_s (zIR_a (by omega) (by omega))) ?_
        intro M10 hJ11 f12 hn13
        refine w_lo dX3_begins_66 rfl rfl rfl rfl ?_
        refine w_gf dX3_begins_67 rfl hJ11.1.1 (zs_6_0 hp1) (zr_6_0_4 hp1 hJ11.1) ?_
        refine w_lo dX3_begins_70 rfl rfl rfl rfl ?_
        refine w_lo dX3_begins_71 rfl rfl rfl rfl ?_
        refine w_isi dX3_begins_73 hJ11 (zs_6_3 hp1) (by omega) (by omega) (zu_6_3 hp1) (by omega) (by omega) (zIR_s (zIR_a (by omega) (by omega))) ?_
        intro M14 hJ15 f16 hn17
        refine w_lo dX3_begins_74 rfl rfl rfl rfl ?_
        refine w_gf dX3_begins_75 rfl hJ15.1.1 (zs_6_0 hp1) (zr_6_0_5 hp1 hJ15.1) ?_
        refine w_lo dX3_begins_78 rfl rfl rfl rfl ?_
        refine w_lo dX3_begins_79 rfl rfl rfl rfl ?_
        refine w_gf dX3_begins_80 rfl hJ15.1.1 (zs_1_0 hp0) (zr_1_0_11 hp0 hJ15.1) ?_
        refine w_lo dX3_begins_83 rfl rfl rfl rfl ?_
        refine w_iai dX3_begins_85 hJ15.1 (zs_1_9 hp0) (by omega) (by omega) (zu_1_9 hp0) ?_
        intro x21 f18 h19 h20
        refine w_isi dX3_begins_86 hJ15 (zs_6_4 hp1) (by omega) (by omega) (zu_6_4 hp1) (zbot _) (ztop _) (zIR_s (zIR_a (by omega) (by omega))) ?_
        intro M22 hJ23 f24 hn25
        refine w_lo dX3_begins_87 rfl rfl rfl rfl ?_
        refine w_lo dX3_begins_88 rfl rfl rfl rfl ?_
        refine w_lo dX3_begins_89 rfl rfl rfl rfl ?_
        refine w_lo dX3_begins_91 rfl rfl rfl rfl ?_
        refine w_lo dX3_begins_93 rfl rfl rfl rfl ?_
        have f28 := (hn25 (p1) 14 (Or.inl (by omega))).trans ((hn17 (p1) 14 (Or.inl (by omega))).trans ((hn13 (p1) 14 (Or.inl (by omega))).trans (hfq_57)))
        refine w_iv dX3_begins_95 rfl rfl (As := [.int v57_3, .int v57_4, .int v57_7, .int s57_0]) rfl rfl hJ23.1.1 (zs_6_0 hp1) (Nat.le_of_ble_eq_true rfl) ?_
        refine ZV.imp (k_1544 p1 hp1 v57_3 (by omega) (by omega) v57_4 (by omega) (by omega) v57_7 s57_0 (by omega) (by omega) q_57 f28 (by omega) (by omega) hN hJ23.1) ?_
        rintro _ ⟨M26, rfl, hJ27, hq29⟩
        have hJ30 := zJ_trans hJ23 hJ27 (zSub_cons (fun _ _ h h' hk => zIR_s (zIR_s (zIR_a (by omega) (by omega)))) (zSub_cons (fun _ _ h h' hk => zIR_s (zIR_s (zIR_s (zIR_e (by omega) (by omega) hk)))) zSub_nil))
        obtain ⟨x31, f32, h33, -⟩ := hq29
        show ZW _ _ _ _ _ _ _ (98, [some (.ref 359), some (.ref p0), some (.ref p1), some (.int v57_3), some (.int v57_4), some (.int u57_5), some (.int u57_6), some (.int v57_7), some (.int s57_0), o57_9, o57_10, o57_11], [], M26)
        refine w_lo dX3_begins_98 rfl rfl rfl rfl ?_
        refine w_gf dX3_begins_99 rfl hJ30.1.1 zs_359 (zr_359_1 hJ30.1) ?_
        refine w_lo dX3_begins_102 rfl rfl rfl rfl ?_
        refine w_lo dX3_begins_103 rfl rfl rfl rfl ?_
        refine w_lo dX3_begins_104 rfl rfl rfl rfl ?_
        refine w_lo dX3_begins_105 rfl rfl rfl rfl ?_
        refine w_iv dX3_begins_106 rfl rfl (As := [.int v57_3]) rfl rfl hJ30.1.1 (zs_6_0 hp1) (Nat.le_of_ble_eq_true rfl) ?_
        refine ZV.imp (k_1540 p1 hp1 v57_3 (by omega) (by omega) hN hJ30.1) ?_
        rintro _ ⟨x37, M34, rfl, h38, h39, hJ35, hq36⟩
        have hJ40 := zJ_trans hJ30 hJ35 zSub_nil
        show ZW _ _ _ _ _ _ _ (109, [some (.ref 359), some (.ref p0), some (.ref p1), some (.int v57_3), some (.int v57_4), some (.int u57_5), some (.int u57_6), some (.int v57_7), some (.int s57_0), o57_9, o57_10, o57_11], [.int x37, .ref p1, .ref p0, .ref 360], M34)
        refine w_lo dX3_begins_109 rfl rfl rfl rfl ?_
        refine w_gf dX3_begins_110 rfl hJ40.1.1 (zs_1_0 hp0) (zr_1_0_10 hp0 hJ40.1) ?_
        refine w_lo dX3_begins_113 rfl rfl rfl rfl ?_
        refine w_iai dX3_begins_115 hJ40.1 (zs_1_8 hp0) (by omega) (by omega) (zu_1_8 hp0) ?_
        intro x44 f41 h42 h43
        refine w_iv dX3_begins_116 rfl rfl (As := [.ref p0, .ref p1, .int x37, .int x44]) rfl rfl hJ40.1.1 zs_360 (Nat.le_of_ble_eq_true rfl) ?_
        refine ZV.imp (k_1794 360 hb_7_360 p0 hp0 p1 hp1 x37 (by omega) (by omega) x44 hN hJ40.1) ?_
        rintro _ ⟨M45, rfl, hJ46, hq47⟩
        have hJ48 := zJ_trans hJ40 hJ46 (zSub_cons (fun _ _ h h' hk => zIR_a (by omega) (by omega)) (zSub_cons (fun _ _ h h' hk => zIR_s (zIR_s (zIR_s (zIR_s (zIR_e (by omega) (by omega) hk))))) (zSub_cons (fun _ _ h h' hk => zIR_s (zIR_s (zIR_s (zIR_s (zIR_s (zIR_a (by omega) (by omega))))))) zSub_nil)))
        show ZW _ _ _ _ _ _ _ (119, [some (.ref 359), some (.ref p0), some (.ref p1), some (.int v57_3), some (.int v57_4), some (.int u57_5), some (.int u57_6), some (.int v57_7), some (.int s57_0), o57_9, o57_10, o57_11], [], M45)
        refine w_ic dX3_begins_119 zi_0 ?_
        refine w_lo (ml' := [some (.ref 359), some (.ref p0), some (.ref p1), some (.int v57_3), some (.int v57_4), some (.int u57_5), some (.int u57_6), some (.int v57_7), some (.int s57_0), some (.int 0), o57_10, o57_11]) dX3_begins_120 rfl rfl rfl rfl ?_
        have f49 := (hJ46.2 (p1) 14 (zNI (by omega) (zNI_k (by decide) (by decide) (zNI (by omega) zNI_nil)))).trans ((hJ35.2 (p1) 14 zNI_nil).trans (f32))
        exact ih122 M45 v57_3 v57_4 u57_5 u57_6 v57_7 s57_0 0 o57_10 o57_11 x31 hJ48 (by omega) (by omega) (zbot _) (ztop _) (by omega) (by omega) (by have := zt_0; omega) (by have := zt_0; omega) f49 (by have := zt_0; omega) (by have := zt_0; omega)
      · intro M u122_3 v122_4 u122_5 u122_6 v122_7 v122_8 v122_9 o122_10 o122_11 q_122 hJ v122_40 v122_41 v122_70 v122_71 v122_80 v122_81 v122_90 v122_91 hfq_122 hrq_1220 hn
        refine w_lo dX3_begins_122 rfl rfl rfl rfl ?_
        refine w_lo dX3_begins_124 rfl rfl rfl rfl ?_
        refine w_gfi dX3_begins_125 rfl hJ.1 (zs_6_0 hp1) (Nat.le_of_ble_eq_true rfl) (zo_6_0_0 hp1) ?_
        intro x50 f51 h52 h53
        rcases zcut v122_9.toInt x50.toInt with h54 | h54
        · skip
          refine w_cge_f dX3_begins_128 (t := 257) rfl (by omega) ?_
          refine w_lo dX3_begins_131 rfl rfl rfl rfl ?_
          refine w_gf dX3_begins_132 rfl hJ.1.1 zs_359 (zr_359_1 hJ.1) ?_
          refine w_gf dX3_begins_135 rfl hJ.1.1 zs_360 (zr_360_0 hJ.1) ?_
          refine w_lo dX3_begins_138 rfl rfl rfl rfl ?_
          refine w_iai dX3_begins_140 hJ.1 zs_361 (by omega) (by omega) zu_361 ?_
          intro x58 f55 h56 h57
          refine w_lo (ml' := [some (.ref 359), some (.ref p0), some (.ref p1), some (.int u122_3), some (.int v122_4), some (.int u122_5), some (.int u122_6), some (.int v122_7), some (.int v122_8), some (.int v122_9), some (.int x58), o122_11]) dX3_begins_141 rfl rfl rfl rfl ?_
          refine w_lo dX3_begins_143 rfl rfl rfl rfl ?_
          refine w_gf dX3_begins_144 rfl hJ.1.1 (zs_6_0 hp1) (zr_6_0_2 hp1 hJ.1) ?_
          refine w_lo dX3_begins_147 rfl rfl rfl rfl ?_
          refine w_iai dX3_begins_149 hJ.1 (zs_6_1 hp1) (by omega) (by omega) (zu_6_1 hp1) ?_
          intro x62 f59 h60 h61
          refine w_lo (ml' := [some (.ref 359), some (.ref p0), some (.ref p1), some (.int u122_3), some (.int v122_4), some (.int u122_5), some (.int u122_6), some (.int v122_7), some (.int v122_8), some (.int v122_9), some (.int x58), some (.int x62)]) dX3_begins_150 rfl rfl rfl rfl ?_
          refine w_lo dX3_begins_152 rfl rfl rfl rfl ?_
          rcases zcut (0 : Int) x58.toInt with h63 | h63
          · skip
            refine w_ile_f dX3_begins_154 (t := 251) rfl (by omega) ?_
            refine w_lo dX3_begins_157 rfl rfl rfl rfl ?_
            refine w_lo dX3_begins_158 rfl rfl rfl rfl ?_
            refine w_lo dX3_begins_160 rfl rfl rfl rfl ?_
            refine w_iv dX3_begins_162 rfl rfl (As := [.int x62, .int x58]) rfl rfl hJ.1.1 (zs_6_0 hp1) (Nat.le_of_ble_eq_true rfl) ?_
            refine ZV.imp (k_1545 p1 hp1 x62 (by omega) (by omega) x58 (by omega) (ztop _) hN hJ.1) ?_
            rintro _ ⟨M64, rfl, hJ65, hq66⟩
            have hJ67 := zJ_trans hJ hJ65 (zSub_cons (fun _ _ h h' hk => zIR_s (zIR_a (by omega) (by omega))) zSub_nil)
            show ZW _ _ _ _ _ _ _ (165, [some (.ref 359), some (.ref p0), some (.ref p1), some (.int u122_3), some (.int v122_4), some (.int u122_5), some (.int u122_6), some (.int v122_7), some (.int v122_8), some (.int v122_9), some (.int x58), some (.int x62)], [], M64)
            refine w_lo dX3_begins_165 rfl rfl rfl rfl ?_
            refine w_gf dX3_begins_166 rfl hJ67.1.1 zs_359 (zr_359_1 hJ67.1) ?_
            refine w_gfi dX3_begins_169 rfl hJ67.1 zs_360 (Nat.le_of_ble_eq_true rfl) zo_360_1 ?_
            intro x68 f69 h70 h71
            refine w_lo dX3_begins_172 rfl rfl rfl rfl ?_
            refine w_puI dX3_begins_174 rfl rfl ?_
            intro x72
            refine w_ic dX3_begins_175 zi_1 ?_
            refine w_and dX3_begins_176 (m := 1) zt_1 (by omega) ?_
            intro x73 h74 h75
            refine w_ic dX3_begins_177 zi_1 ?_
            rcases Int.decEq x73.toInt (1 : Int) with h76 | h76
            · skip
              refine w_cne_t dX3_begins_178 (t := 190) rfl (by have := zt_1; omega) ?_
              refine w_lo dX3_begins_190 rfl rfl rfl rfl ?_
              refine w_lo dX3_begins_192 rfl rfl rfl rfl ?_
              refine w_gf dX3_begins_193 rfl hJ67.1.1 (zs_1_0 hp0) (zr_1_0_12 hp0 hJ67.1) ?_
              refine w_lo dX3_begins_196 rfl rfl rfl rfl ?_
              refine w_iai dX3_begins_198 hJ67.1 (zs_1_10 hp0) (by omega) (by omega) (zu_1_10 hp0) ?_
              intro x80 f77 h78 h79
              rcases zcut x58.toInt x80.toInt with h81 | h81
              · skip
                refine w_clt_t dX3_begins_199 (t := 251) rfl (by omega) ?_
                refine w_inc (kk := 9) dX3_begins_251 rfl (m := 1) (by decide) (by omega) ?_
                intro x82 h83
                refine ⟨_, rfl, ?_⟩
                show ZW _ _ _ _ _ _ _ (254, [some (.ref 359), some (.ref p0), some (.ref p1), some (.int u122_3), some (.int v122_4), some (.int u122_5), some (.int u122_6), some (.int v122_7), some (.int v122_8), some (.int x82), some (.int x58), some (.int x62)], [], M64)
                refine w_gt dX3_begins_254 (t := 122) rfl ?_
                have f84 := (hJ65.2 (p1) 14 (zNI (by omega) zNI_nil)).trans (hfq_122)
                exact ih122 M64 u122_3 v122_4 u122_5 u122_6 v122_7 v122_8 x82 (some (.int x58)) (some (.int x62)) q_122 hJ67 (by omega) (by omega) (zbot _) (ztop _) (by omega) (by omega) (by omega) (by omega) f84 (by omega) (by omega)
              · skip
                refine w_clt_f dX3_begins_199 (t := 251) rfl (by omega) ?_
                refine w_lo dX3_begins_202 rfl rfl rfl rfl ?_
                refine w_gf dX3_begins_203 rfl hJ67.1.1 (zs_6_0 hp1) (zr_6_0_6 hp1 hJ67.1) ?_
                refine w_lo dX3_begins_206 rfl rfl rfl rfl ?_
                refine w_iai dX3_begins_208 hJ67.1 (zs_6_5 hp1) (by omega) (by omega) (zu_6_5 hp1) ?_
                intro x88 f85 h86 h87
                refine w_ic dX3_begins_209 zi_m1 ?_
                rcases Int.decEq x88.toInt (-1 : Int) with h89 | h89
                · skip
                  refine w_cne_t dX3_begins_210 (t := 251) rfl (by have := zt_m1; omega) ?_
                  refine w_inc (kk := 9) dX3_begins_251 rfl (m := 1) (by decide) (by omega) ?_
                  intro x90 h91
                  refine ⟨_, rfl, ?_⟩
                  show ZW _ _ _ _ _ _ _ (254, [some (.ref 359), some (.ref p0), some (.ref p1), some (.int u122_3), some (.int v122_4), some (.int u122_5), some (.int u122_6), some (.int v122_7), some (.int v122_8), some (.int x90), some (.int x58), some (.int x62)], [], M64)
                  refine w_gt dX3_begins_254 (t := 122) rfl ?_
                  have f92 := (hJ65.2 (p1) 14 (zNI (by omega) zNI_nil)).trans (hfq_122)
                  exact ih122 M64 u122_3 v122_4 u122_5 u122_6 v122_7 v122_8 x90 (some (.int x58)) (some (.int x62)) q_122 hJ67 (by omega) (by omega) (zbot _) (ztop _) (by omega) (by omega) (by omega) (by omega) f92 (by omega) (by omega)
                · skip
                  refine w_cne_f dX3_begins_210 (t := 251) rfl (by have := zt_m1; omega) ?_
                  refine w_lo dX3_begins_213 rfl rfl rfl rfl ?_
                  refine w_lo dX3_begins_214 rfl rfl rfl rfl ?_
                  refine w_lo dX3_begins_215 rfl rfl rfl rfl ?_
                  refine w_lo dX3_begins_216 rfl rfl rfl rfl ?_
                  refine w_iv dX3_begins_218 rfl rfl (As := [.ref p0, .ref p1, .int x62]) rfl rfl hJ67.1.1 zs_359 (Nat.le_of_ble_eq_true rfl) ?_
                  refine ZV.imp (k_770 p0 hp0 p1 hp1 x62 (by omega) (by omega) hN hJ67.1) ?_
                  rintro _ ⟨x96, M93, rfl, h97, h98, hJ94, hq95⟩
                  have hJ99 := zJ_trans hJ67 hJ94 zSub_nil
                  show ZW _ _ _ _ _ _ _ (221, [some (.ref 359), some (.ref p0), some (.ref p1), some (.int u122_3), some (.int v122_4), some (.int u122_5), some (.int u122_6), some (.int v122_7), some (.int v122_8), some (.int v122_9), some (.int x58), some (.int x62)], [.int x96], M93)
                  rcases Int.decEq x96.toInt (0 : Int) with h100 | h100
                  · skip
                    refine w_ieq_f dX3_begins_221 (t := 251) rfl (by omega) ?_
                    refine w_lo dX3_begins_224 rfl rfl rfl rfl ?_
                    refine w_gf dX3_begins_225 rfl hJ99.1.1 (zs_6_0 hp1) (zr_6_0_6 hp1 hJ99.1) ?_
                    refine w_lo dX3_begins_228 rfl rfl rfl rfl ?_
                    refine w_lo dX3_begins_230 rfl rfl rfl rfl ?_
                    refine w_isi dX3_begins_232 hJ99 (zs_6_5 hp1) (by omega) (by omega) (zu_6_5 hp1) (by omega) (by omega) (zIR_s (zIR_a (by omega) (by omega))) ?_
                    intro M101 hJ102 f103 hn104
                    refine w_lo dX3_begins_233 rfl rfl rfl rfl ?_
                    refine w_gf dX3_begins_234 rfl hJ102.1.1 (zs_6_0 hp1) (zr_6_0_7 hp1 hJ102.1) ?_
                    refine w_lo dX3_begins_237 rfl rfl rfl rfl ?_
                    refine w_lo dX3_begins_239 rfl rfl rfl rfl ?_
                    refine w_isi dX3_begins_241 hJ102 (zs_6_6 hp1) (by omega) (by omega) (zu_6_6 hp1) (zbot _) (ztop _) (zIR_s (zIR_a (by omega) (by omega))) ?_
                    intro M105 hJ106 f107 hn108
                    refine w_lo dX3_begins_242 rfl rfl rfl rfl ?_
                    refine w_gf dX3_begins_243 rfl hJ106.1.1 (zs_6_0 hp1) (zr_6_0_8 hp1 hJ106.1) ?_
                    refine w_lo dX3_begins_246 rfl rfl rfl rfl ?_
                    refine w_lo dX3_begins_248 rfl rfl rfl rfl ?_
                    refine w_isi dX3_begins_250 hJ106 (zs_6_7 hp1) (by omega) (by omega) (zu_6_7 hp1) (by omega) (by omega) (zIR_s (zIR_a (by omega) (by omega))) ?_
                    intro M109 hJ110 f111 hn112
                    refine w_inc (kk := 9) dX3_begins_251 rfl (m := 1) (by decide) (by omega) ?_
                    intro x113 h114
                    refine ⟨_, rfl, ?_⟩
                    show ZW _ _ _ _ _ _ _ (254, [some (.ref 359), some (.ref p0), some (.ref p1), some (.int u122_3), some (.int v122_4), some (.int u122_5), some (.int u122_6), some (.int v122_7), some (.int v122_8), some (.int x113), some (.int x58), some (.int x62)], [], M109)
                    refine w_gt dX3_begins_254 (t := 122) rfl ?_
                    have f115 := (hn112 (p1) 14 (Or.inl (by omega))).trans ((hn108 (p1) 14 (Or.inl (by omega))).trans ((hn104 (p1) 14 (Or.inl (by omega))).trans ((hJ94.2 (p1) 14 zNI_nil).trans ((hJ65.2 (p1) 14 (zNI (by omega) zNI_nil)).trans (hfq_122)))))
                    exact ih122 M109 u122_3 v122_4 u122_5 u122_6 v122_7 v122_8 x113 (some (.int x58)) (some (.int x62)) q_122 hJ110 (by omega) (by omega) (zbot _) (ztop _) (by omega) (by omega) (by omega) (by omega) f115 (by omega) (by omega)
                  · skip
                    refine w_ieq_t dX3_begins_221 (t := 251) rfl (by omega) ?_
                    refine w_inc (kk := 9) dX3_begins_251 rfl (m := 1) (by decide) (by omega) ?_
                    intro x116 h117
                    refine ⟨_, rfl, ?_⟩
                    show ZW _ _ _ _ _ _ _ (254, [some (.ref 359), some (.ref p0), some (.ref p1), some (.int u122_3), some (.int v122_4), some (.int u122_5), some (.int u122_6), some (.int v122_7), some (.int v122_8), some (.int x116), some (.int x58), some (.int x62)], [], M93)
                    refine w_gt dX3_begins_254 (t := 122) rfl ?_
                    have f118 := (hJ94.2 (p1) 14 zNI_nil).trans ((hJ65.2 (p1) 14 (zNI (by omega) zNI_nil)).trans (hfq_122))
                    exact ih122 M93 u122_3 v122_4 u122_5 u122_6 v122_7 v122_8 x116 (some (.int x58)) (some (.int x62)) q_122 hJ99 (by omega) (by omega) (zbot _) (ztop _) (by omega) (by omega) (by omega) (by omega) f118 (by omega) (by omega)
            · skip
              refine w_cne_f dX3_begins_178 (t := 190) rfl (by have := zt_1; omega) ?_
              refine w_lo dX3_begins_181 rfl rfl rfl rfl ?_
              refine w_lo dX3_begins_182 rfl rfl rfl rfl ?_
              refine w_iv dX3_begins_184 rfl rfl (As := [.int x62]) rfl rfl hJ67.1.1 (zs_6_0 hp1) (Nat.le_of_ble_eq_true rfl) ?_
              refine ZV.imp (k_1546 p1 hp1 x62 (by omega) (by omega) hN hJ67.1) ?_
              rintro _ ⟨M119, rfl, hJ120, hq121⟩
              have hJ122 := zJ_trans hJ67 hJ120 (zSub_cons (fun _ _ h h' hk => zIR_s (zIR_a (by omega) (by omega))) zSub_nil)
              show ZW _ _ _ _ _ _ _ (187, [some (.ref 359), some (.ref p0), some (.ref p1), some (.int u122_3), some (.int v122_4), some (.int u122_5), some (.int u122_6), some (.int v122_7), some (.int v122_8), some (.int v122_9), some (.int x58), some (.int x62)], [], M119)
              refine w_gt dX3_begins_187 (t := 251) rfl ?_
              refine w_inc (kk := 9) dX3_begins_251 rfl (m := 1) (by decide) (by omega) ?_
              intro x123 h124
              refine ⟨_, rfl, ?_⟩
              show ZW _ _ _ _ _ _ _ (254, [some (.ref 359), some (.ref p0), some (.ref p1), some (.int u122_3), some (.int v122_4), some (.int u122_5), some (.int u122_6), some (.int v122_7), some (.int v122_8), some (.int x123), some (.int x58), some (.int x62)], [], M119)
              refine w_gt dX3_begins_254 (t := 122) rfl ?_
              have f125 := (hJ120.2 (p1) 14 (zNI (by omega) zNI_nil)).trans ((hJ65.2 (p1) 14 (zNI (by omega) zNI_nil)).trans (hfq_122))
              exact ih122 M119 u122_3 v122_4 u122_5 u122_6 v122_7 v122_8 x123 (some (.int x58)) (some (.int x62)) q_122 hJ122 (by omega) (by omega) (zbot _) (ztop _) (by omega) (by omega) (by omega) (by omega) f125 (by omega) (by omega)
          · skip
            refine w_ile_t dX3_begins_154 (t := 251) rfl (by omega) ?_
            refine w_inc (kk := 9) dX3_begins_251 rfl (m := 1) (by decide) (by omega) ?_
            intro x126 h127
            refine ⟨_, rfl, ?_⟩
            show ZW _ _ _ _ _ _ _ (254, [some (.ref 359), some (.ref p0), some (.ref p1), some (.int u122_3), some (.int v122_4), some (.int u122_5), some (.int u122_6), some (.int v122_7), some (.int v122_8), some (.int x126), some (.int x58), some (.int x62)], [], M)
            refine w_gt dX3_begins_254 (t := 122) rfl ?_
            exact ih122 M u122_3 v122_4 u122_5 u122_6 v122_7 v122_8 x126 (some (.int x58)) (some (.int x62)) q_122 hJ (by omega) (by omega) (zbot _) (ztop _) (by omega) (by omega) (by omega) (by omega) hfq_122 (by omega) (by omega)
        · skip
          refine w_cge_t dX3_begins_128 (t := 257) rfl (by omega) ?_
          refine w_lo dX3_begins_257 rfl rfl rfl rfl ?_
          refine w_gf dX3_begins_258 rfl hJ.1.1 zs_359 (zr_359_1 hJ.1) ?_
          refine w_gfi dX3_begins_261 rfl hJ.1 zs_360 (Nat.le_of_ble_eq_true rfl) zo_360_1 ?_
          intro x128 f129 h130 h131
          refine w_ss dX3_begins_264 rfl rfl (As := [.int x128]) rfl rfl (Nat.le_of_ble_eq_true rfl) ?_
          refine ZV.imp (k_2816 x128 (by omega) (by omega) hN hJ.1) ?_
          rintro _ ⟨x135, M132, rfl, h136, h137, hJ133, hq134⟩
          have hJ138 := zJ_trans hJ hJ133 zSub_nil
          show ZW _ _ _ _ _ _ _ (267, [some (.ref 359), some (.ref p0), some (.ref p1), some (.int u122_3), some (.int v122_4), some (.int u122_5), some (.int u122_6), some (.int v122_7), some (.int v122_8), some (.int v122_9), o122_10, o122_11], [.int x135], M132)
          refine w_eni dX3_begins_267 rfl rfl ?_
          have f139 := (hJ133.2 (p1) 14 zNI_nil).trans (hfq_122)
          exact ⟨_, _, rfl, (by omega), (by omega), hJ138, ⟨q_122, f139, (by omega), trivial⟩⟩
  obtain ⟨ih19, ih40, ih57, ih122⟩ := main 93
  show ZW _ _ _ _ _ _ _ (0, [some (.ref 359), some (.ref p0), some (.ref p1), some (.int a2), some (.int a3), some (.int a4), none, none, none, none, none, none], [], M0)
  refine w_lo dX3_begins_0 rfl rfl rfl rfl ?_
  rcases Int.decEq a4.toInt (0 : Int) with h140 | h140
  · skip
    refine w_ieq_f dX3_begins_2 (t := 19) rfl (by omega) ?_
    refine w_lo dX3_begins_5 rfl rfl rfl rfl ?_
    refine w_gf dX3_begins_6 rfl hJ0.1.1 (zs_6_0 hp1) (zr_6_0_8 hp1 hJ0.1) ?_
    refine w_lo dX3_begins_9 rfl rfl rfl rfl ?_
    refine w_iai dX3_begins_10 hJ0.1 (zs_6_7 hp1) (by omega) (by omega) (zu_6_7 hp1) ?_
    intro x144 f141 h142 h143
    refine w_ic dX3_begins_11 zi_m1 ?_
    rcases Int.decEq x144.toInt (-1 : Int) with h145 | h145
    · skip
      refine w_ceq_f dX3_begins_12 (t := 19) rfl (by have := zt_m1; omega) ?_
      refine w_ic dX3_begins_15 zi_1 ?_
      refine w_gt dX3_begins_16 (t := 20) rfl ?_
      refine w_lo (ml' := [some (.ref 359), some (.ref p0), some (.ref p1), some (.int a2), some (.int a3), some (.int a4), some (.int 1), none, none, none, none, none]) dX3_begins_20 rfl rfl rfl rfl ?_
      refine w_lo dX3_begins_22 rfl rfl rfl rfl ?_
      refine w_ieq_f dX3_begins_24 (t := 36) rfl (by have := zt_1; omega) ?_
      refine w_lo dX3_begins_27 rfl rfl rfl rfl ?_
      refine w_gf dX3_begins_28 rfl hJ0.1.1 (zs_6_0 hp1) (zr_6_0_7 hp1 hJ0.1) ?_
      refine w_lo dX3_begins_31 rfl rfl rfl rfl ?_
      refine w_iai dX3_begins_32 hJ0.1 (zs_6_6 hp1) (by omega) (by omega) (zu_6_6 hp1) ?_
      intro x149 f146 h147 h148
      refine w_gt dX3_begins_33 (t := 40) rfl ?_
      exact ih40 M0 a2 a3 a4 1 none none none none none x149 tv hJ0 (by omega) (by omega) (by omega) (by omega) (by have := zt_1; omega) (by have := zt_1; omega) (zbot _) (ztop _) hftv (by have := zt_1; omega) (by have := zt_1; omega)
    · skip
      refine w_ceq_t dX3_begins_12 (t := 19) rfl (by have := zt_m1; omega) ?_
      exact ih19 M0 a2 a3 a4 none none none none none none tv hJ0 (by omega) (by omega) (by omega) (by omega) hftv (by omega) (by omega)
  · skip
    refine w_ieq_t dX3_begins_2 (t := 19) rfl (by omega) ?_
    exact ih19 M0 a2 a3 a4 none none none none none none tv hJ0 (by omega) (by omega) (by omega) (by omega) hftv (by omega) (by omega)
set_option maxRecDepth 100000 in
theorem k_772 {X : List Int32} {d N : Nat} {M0 : zM} (a0 : Int32) (hN : N ≤ 600) (hB0 : zB N M0) : ZV X (d + 1) 772 [.ref 359, .int a0] M0 (zRI N [(359, 360, 0)] M0 (-2147483648) (2147483647) (fun _ _ => True)) := by
  have hJ0 : zJ N [(359, 360, 0)] M0 M0 := zJ_refl hB0
  refine ZV.of (ini := false) rfl (Nat.le_of_ble_eq_true rfl) (by decide +kernel) ?_
  show ZW _ _ _ _ _ _ _ (0, [some (.ref 359), some (.int a0)], [], M0)
  refine w_lo dX3_draw_0 rfl rfl rfl rfl ?_
  refine w_me (st' := [.long (1103515245 : Int64), .ref 359]) dX3_draw_1 rfl rfl rfl rfl rfl ?_
  refine w_lo dX3_draw_4 rfl rfl rfl rfl ?_
  refine w_gfi dX3_draw_5 rfl hJ0.1 zs_359 (Nat.le_of_ble_eq_true rfl) zo_359_0 ?_
  intro x1 f2 h3 h4
  refine w_i2l dX3_draw_8 ?_
  intro y5 h6
  have := ztop x1; have := zbot x1
  refine w_lmulc dX3_draw_9 ztl_1103515245 (by have := ztl_1103515245; omega) ?_
  intro y7 h8
  have := ztl_1103515245
  refine w_me (st' := [.long (12345 : Int64), .long y7, .ref 359]) dX3_draw_10 rfl rfl rfl rfl rfl ?_
  refine w_ladd dX3_draw_13 (by have := ztl_12345; omega) ?_
  intro y9 h10
  have := ztl_12345
  refine w_me (st' := [.long (2147483647 : Int64), .long y9, .ref 359]) dX3_draw_14 rfl rfl rfl rfl rfl ?_
  refine w_puL dX3_draw_17 rfl rfl ?_
  intro y11
  refine w_puI dX3_draw_18 rfl rfl ?_
  intro x12
  refine w_pfi dX3_draw_19 rfl hJ0 zs_359 (Nat.le_of_ble_eq_true rfl) zo_359_0 (zbot _) (ztop _) (zIR_k (by omega) (by omega)) rfl rfl rfl ?_
  intro M13 hJ14 f15 hn16
  refine w_lo dX3_draw_22 rfl rfl rfl rfl ?_
  refine w_ic dX3_draw_23 zi_1 ?_
  rcases zcut a0.toInt (1 : Int) with h17 | h17
  · skip
    refine w_cge_f dX3_draw_24 (t := 31) rfl (by have := zt_1; omega) ?_
    refine w_ic dX3_draw_27 zi_0 ?_
    refine w_gt dX3_draw_28 (t := 40) rfl ?_
    refine w_en dX3_draw_40 rfl ?_
    exact ⟨_, _, rfl, (zbot _), (ztop _), hJ14, trivial⟩
  · skip
    refine w_cge_t dX3_draw_24 (t := 31) rfl (by have := zt_1; omega) ?_
    refine w_lo dX3_draw_31 rfl rfl rfl rfl ?_
    refine w_gf dX3_draw_32 rfl hJ14.1.1 zs_359 f15 ?_
    refine w_bi dX3_draw_35 (c := 64) (by decide) ?_
    refine w_divT dX3_draw_37 (by have := zt_64; omega) ?_
    intro x18
    refine w_lo dX3_draw_38 rfl rfl rfl rfl ?_
    refine w_remT dX3_draw_39 (by omega) ?_
    intro x19
    refine w_eni dX3_draw_40 rfl rfl ?_
    exact ⟨_, _, rfl, (zbot _), (ztop _), hJ14, trivial⟩
set_option maxRecDepth 100000 in
theorem k_773 {X : List Int32} {d N : Nat} {M0 : zM} (p0 : Nat) (hp0 : zDm p0) (hN : N ≤ 600) (hB0 : zB N M0) : ZV X (d + 2) 773 [.ref 359, .ref p0] M0 (zRI N [(359, 360, 0)] M0 (0) (5) (fun _ _ => True)) := by
  have hbp0 := zDm_b hp0
  have hJ0 : zJ N [(359, 360, 0)] M0 M0 := zJ_refl hB0
  refine ZV.of (ini := false) rfl (Nat.le_of_ble_eq_true rfl) (by decide +kernel) ?_
  have main : ∀ n : Nat,
      (∀ (M : zM) (v4_2 : Int32) (v4_3 : Int32) (o4_4 : Option Value) (o4_5 : Option Value), zJ N [(359, 360, 0)] M0 M → ((-2147483648 : Int) ≤ v4_2.toInt) → (v4_2.toInt ≤ 2147483647) → ((0 : Int) ≤ v4_3.toInt) → (v4_3.toInt ≤ 6) → 4 * (6 - v4_3.toInt) + 34 < (n : Int) → ZW X (d + 1) 3 false (some .int) cX3_drawnDream (zRI N [(359, 360, 0)] M0 (0) (5) (fun _ _ => True)) (4, [some (.ref 359), some (.ref p0), some (.int v4_2), some (.int v4_3), o4_4, o4_5], [], M)) ∧
      (∀ (M : zM) (o39_0 : Option Value) (u39_2 : Int32) (v39_3 : Int32) (v39_4 : Int32) (v39_5 : Int32), zJ N [(359, 360, 0)] M0 M → ((-2147483648 : Int) ≤ v39_3.toInt) → (v39_3.toInt ≤ 2147483647) → ((-2147483648 : Int) ≤ v39_4.toInt) → (v39_4.toInt ≤ 2147483647) → ((0 : Int) ≤ v39_5.toInt) → (v39_5.toInt ≤ 6) → 4 * (6 - v39_5.toInt) + 1 < (n : Int) → ZW X (d + 1) 3 false (some .int) cX3_drawnDream (zRI N [(359, 360, 0)] M0 (0) (5) (fun _ _ => True)) (39, [o39_0, some (.ref p0), some (.int u39_2), some (.int v39_3), some (.int v39_4), some (.int v39_5)], [], M)) := by
    intro n
    induction n with
    | zero =>
      exact ⟨(fun M v4_2 v4_3 o4_4 o4_5 hJ v4_20 v4_21 v4_30 v4_31 hn => absurd hn (by omega)), (fun M o39_0 u39_2 v39_3 v39_4 v39_5 hJ v39_30 v39_31 v39_40 v39_41 v39_50 v39_51 hn => absurd hn (by omega))⟩
    | succ n ih =>
      obtain ⟨ih4, ih39⟩ := ih
      refine ⟨?_, ?_⟩
      · intro M v4_2 v4_3 o4_4 o4_5 hJ v4_20 v4_21 v4_30 v4_31 hn
        refine w_lo dX3_drawnDream_4 rfl rfl rfl rfl ?_
        refine w_lo dX3_drawnDream_5 rfl rfl rfl rfl ?_
        refine w_gfi dX3_drawnDream_6 rfl hJ.1 (zs_1_0 hp0) (Nat.le_of_ble_eq_true rfl) (zo_1_0_2 hp0) ?_
        intro x1 f2 h3 h4
        rcases zcut v4_3.toInt x1.toInt with h5 | h5
        · skip
          refine w_cge_f dX3_drawnDream_9 (t := 27) rfl (by omega) ?_
          refine w_lo dX3_drawnDream_12 rfl rfl rfl rfl ?_
          refine w_lo dX3_drawnDream_13 rfl rfl rfl rfl ?_
          refine w_gf dX3_drawnDream_14 rfl hJ.1.1 (zs_1_0 hp0) (zr_1_0_13 hp0 hJ.1) ?_
          refine w_lo dX3_drawnDream_17 rfl rfl rfl rfl ?_
          refine w_iai dX3_drawnDream_18 hJ.1 (zs_1_11 hp0) (by omega) (by omega) (zu_1_11 hp0) ?_
          intro x9 f6 h7 h8
          refine w_puI dX3_drawnDream_19 rfl rfl ?_
          intro x10
          refine w_lo (ml' := [some (.ref 359), some (.ref p0), some (.int x10), some (.int v4_3), o4_4, o4_5]) dX3_drawnDream_20 rfl rfl rfl rfl ?_
          refine w_inc (kk := 3) dX3_drawnDream_21 rfl (m := 1) (by decide) (by omega) ?_
          intro x11 h12
          refine ⟨_, rfl, ?_⟩
          show ZW _ _ _ _ _ _ _ (24, [some (.ref 359), some (.ref p0), some (.int x10), some (.int x11), o4_4, o4_5], [], M)
          refine w_gt dX3_drawnDream_24 (t := 4) rfl ?_
          exact ih4 M x10 x11 o4_4 o4_5 hJ (zbot _) (ztop _) (by omega) (by omega) (by omega)
        · skip
          refine w_cge_t dX3_drawnDream_9 (t := 27) rfl (by omega) ?_
          refine w_lo dX3_drawnDream_27 rfl rfl rfl rfl ?_
          refine w_lo dX3_drawnDream_28 rfl rfl rfl rfl ?_
          refine w_iv dX3_drawnDream_29 rfl rfl (As := [.int v4_2]) rfl rfl hJ.1.1 zs_359 (Nat.le_of_ble_eq_true rfl) ?_
          refine ZV.imp (k_772 v4_2 hN hJ.1) ?_
          rintro _ ⟨x16, M13, rfl, h17, h18, hJ14, hq15⟩
          have hJ19 := zJ_trans hJ hJ14 (zSub_cons (fun _ _ h h' hk => zIR_e (by omega) (by omega) hk) zSub_nil)
          show ZW _ _ _ _ _ _ _ (32, [some (.ref 359), some (.ref p0), some (.int v4_2), some (.int v4_3), o4_4, o4_5], [.int x16], M13)
          refine w_lo (ml' := [some (.ref 359), some (.ref p0), some (.int v4_2), some (.int x16), o4_4, o4_5]) dX3_drawnDream_32 rfl rfl rfl rfl ?_
          refine w_ic dX3_drawnDream_33 zi_0 ?_
          refine w_lo (ml' := [some (.ref 359), some (.ref p0), some (.int v4_2), some (.int x16), some (.int 0), o4_5]) dX3_drawnDream_34 rfl rfl rfl rfl ?_
          refine w_ic dX3_drawnDream_36 zi_0 ?_
          refine w_lo (ml' := [some (.ref 359), some (.ref p0), some (.int v4_2), some (.int x16), some (.int 0), some (.int 0)]) dX3_drawnDream_37 rfl rfl rfl rfl ?_
          exact ih39 M13 (some (.ref 359)) v4_2 x16 0 0 hJ19 (zbot _) (ztop _) (zbot _) (ztop _) (by have := zt_0; omega) (by have := zt_0; omega) (by have := zt_0; omega)
      · intro M o39_0 u39_2 v39_3 v39_4 v39_5 hJ v39_30 v39_31 v39_40 v39_41 v39_50 v39_51 hn
        refine w_lo dX3_drawnDream_39 rfl rfl rfl rfl ?_
        refine w_lo dX3_drawnDream_41 rfl rfl rfl rfl ?_
        refine w_gfi dX3_drawnDream_42 rfl hJ.1 (zs_1_0 hp0) (Nat.le_of_ble_eq_true rfl) (zo_1_0_2 hp0) ?_
        intro x20 f21 h22 h23
        rcases zcut v39_5.toInt x20.toInt with h24 | h24
        · skip
          refine w_cge_f dX3_drawnDream_45 (t := 75) rfl (by omega) ?_
          refine w_lo dX3_drawnDream_48 rfl rfl rfl rfl ?_
          refine w_lo dX3_drawnDream_50 rfl rfl rfl rfl ?_
          refine w_gf dX3_drawnDream_51 rfl hJ.1.1 (zs_1_0 hp0) (zr_1_0_13 hp0 hJ.1) ?_
          refine w_lo dX3_drawnDream_54 rfl rfl rfl rfl ?_
          refine w_iai dX3_drawnDream_56 hJ.1 (zs_1_11 hp0) (by omega) (by omega) (zu_1_11 hp0) ?_
          intro x28 f25 h26 h27
          refine w_puI dX3_drawnDream_57 rfl rfl ?_
          intro x29
          refine w_lo (ml' := [o39_0, some (.ref p0), some (.int u39_2), some (.int v39_3), some (.int x29), some (.int v39_5)]) dX3_drawnDream_58 rfl rfl rfl rfl ?_
          refine w_lo dX3_drawnDream_60 rfl rfl rfl rfl ?_
          refine w_lo dX3_drawnDream_62 rfl rfl rfl rfl ?_
          rcases zcut v39_3.toInt x29.toInt with h30 | h30
          · skip
            refine w_cle_f dX3_drawnDream_63 (t := 69) rfl (by omega) ?_
            refine w_lo dX3_drawnDream_66 rfl rfl rfl rfl ?_
            refine w_eni dX3_drawnDream_68 rfl rfl ?_
            exact ⟨_, _, rfl, (by omega), (by omega), hJ, trivial⟩
          · skip
            refine w_cle_t dX3_drawnDream_63 (t := 69) rfl (by omega) ?_
            refine w_inc (kk := 5) dX3_drawnDream_69 rfl (m := 1) (by decide) (by omega) ?_
            intro x31 h32
            refine ⟨_, rfl, ?_⟩
            show ZW _ _ _ _ _ _ _ (72, [o39_0, some (.ref p0), some (.int u39_2), some (.int v39_3), some (.int x29), some (.int x31)], [], M)
            refine w_gt dX3_drawnDream_72 (t := 39) rfl ?_
            exact ih39 M o39_0 u39_2 v39_3 x29 x31 hJ (zbot _) (ztop _) (zbot _) (ztop _) (by omega) (by omega) (by omega)
        · skip
          refine w_cge_t dX3_drawnDream_45 (t := 75) rfl (by omega) ?_
          refine w_ic dX3_drawnDream_75 zi_0 ?_
          refine w_en dX3_drawnDream_76 rfl ?_
          exact ⟨_, _, rfl, (by have := zt_0; omega), (by have := zt_0; omega), hJ, trivial⟩
  obtain ⟨ih4, ih39⟩ := main 71
  show ZW _ _ _ _ _ _ _ (0, [some (.ref 359), some (.ref p0), none, none, none, none], [], M0)
  refine w_ic dX3_drawnDream_0 zi_0 ?_
  refine w_lo (ml' := [some (.ref 359), some (.ref p0), some (.int 0), none, none, none]) dX3_drawnDream_1 rfl rfl rfl rfl ?_
  refine w_ic dX3_drawnDream_2 zi_0 ?_
  refine w_lo (ml' := [some (.ref 359), some (.ref p0), some (.int 0), some (.int 0), none, none]) dX3_drawnDream_3 rfl rfl rfl rfl ?_
  exact ih4 M0 0 0 none none hJ0 (zbot _) (ztop _) (by have := zt_0; omega) (by have := zt_0; omega) (by have := zt_0; omega)
set_option maxRecDepth 100000 in
theorem k_769 {X : List Int32} {d N : Nat} {M0 : zM} (p0 : Nat) (hp0 : zDm p0) (p1 : Nat) (hp1 : zRp p1) (tv : Int32) (hftv : zvl M0 (p1) 14 = some (.int tv)) (hrtv0 : 0 ≤ tv.toInt) (hrtv1 : tv.toInt + 24 ≤ 3000 * (N : Int)) (hN : N ≤ 600) (hB0 : zB N M0) : ZV X (d + 7) 769 [.ref 359, .ref p0, .ref p1] M0 (zRV N [(p0 + 19, p0 + 21, 1000), (p1, p1 + 1, 1), (p1 + 2, p1 + 11, 1000), (p1 + 13, p1 + 14, 1000), (p1, p1 + 1, 14), (359, 360, 0), (360, 361, 1), (361, 362, 1000)] M0 (fun M' => (∃ w : Int32, zvl M' (p1) 14 = some (.int w) ∧ (tv.toInt ≤ w.toInt) ∧ (w.toInt ≤ tv.toInt + 24) ∧ True))) := by
  have hbp0 := zDm_b hp0
  have hbp1 := zRp_b hp1
  have hJ0 : zJ N [(p0 + 19, p0 + 21, 1000), (p1, p1 + 1, 1), (p1 + 2, p1 + 11, 1000), (p1 + 13, p1 + 14, 1000), (p1, p1 + 1, 14), (359, 360, 0), (360, 361, 1), (361, 362, 1000)] M0 M0 := zJ_refl hB0
  refine ZV.of (ini := false) rfl (Nat.le_of_ble_eq_true rfl) (by decide +kernel) ?_
  have main : ∀ n : Nat,
      (∀ (M : zM) (v2_3 : Int32) (o2_4 : Option Value) (o2_5 : Option Value) (q_2 : Int32), zJ N [(p0 + 19, p0 + 21, 1000), (p1, p1 + 1, 1), (p1 + 2, p1 + 11, 1000), (p1 + 13, p1 + 14, 1000), (p1, p1 + 1, 14), (359, 360, 0), (360, 361, 1), (361, 362, 1000)] M0 M → ((0 : Int) ≤ v2_3.toInt) → (v2_3.toInt ≤ 12) → (zvl M (p1) 14 = some (.int q_2)) → (tv.toInt ≤ q_2.toInt) → (q_2.toInt ≤ tv.toInt + v2_3.toInt) → 5 * (12 - v2_3.toInt) + 143 < (n : Int) → ZW X (d + 6) 3 false none cX3_minute (zRV N [(p0 + 19, p0 + 21, 1000), (p1, p1 + 1, 1), (p1 + 2, p1 + 11, 1000), (p1 + 13, p1 + 14, 1000), (p1, p1 + 1, 14), (359, 360, 0), (360, 361, 1), (361, 362, 1000)] M0 (fun M' => (∃ w : Int32, zvl M' (p1) 14 = some (.int w) ∧ (tv.toInt ≤ w.toInt) ∧ (w.toInt ≤ tv.toInt + 24) ∧ True))) (2, [some (.ref 359), some (.ref p0), some (.ref p1), some (.int v2_3), o2_4, o2_5], [], M)) ∧
      (∀ (M : zM) (v72_3 : Int32) (o72_4 : Option Value) (o72_5 : Option Value) (q_72 : Int32), zJ N [(p0 + 19, p0 + 21, 1000), (p1, p1 + 1, 1), (p1 + 2, p1 + 11, 1000), (p1 + 13, p1 + 14, 1000), (p1, p1 + 1, 14), (359, 360, 0), (360, 361, 1), (361, 362, 1000)] M0 M → ((0 : Int) ≤ v72_3.toInt) → (v72_3.toInt ≤ 12) → (zvl M (p1) 14 = some (.int q_72)) → (tv.toInt ≤ q_72.toInt) → (q_72.toInt ≤ tv.toInt + 12 + v72_3.toInt) → 5 * (12 - v72_3.toInt) + 72 < (n : Int) → ZW X (d + 6) 3 false none cX3_minute (zRV N [(p0 + 19, p0 + 21, 1000), (p1, p1 + 1, 1), (p1 + 2, p1 + 11, 1000), (p1 + 13, p1 + 14, 1000), (p1, p1 + 1, 14), (359, 360, 0), (360, 361, 1), (361, 362, 1000)] M0 (fun M' => (∃ w : Int32, zvl M' (p1) 14 = some (.int w) ∧ (tv.toInt ≤ w.toInt) ∧ (w.toInt ≤ tv.toInt + 24) ∧ True))) (72, [some (.ref 359), some (.ref p0), some (.ref p1), some (.int v72_3), o72_4, o72_5], [], M)) ∧
      (∀ (M : zM) (o145_0 : Option Value) (o145_1 : Option Value) (v145_3 : Int32) (o145_4 : Option Value) (o145_5 : Option Value) (q_145 : Int32), zJ N [(p0 + 19, p0 + 21, 1000), (p1, p1 + 1, 1), (p1 + 2, p1 + 11, 1000), (p1 + 13, p1 + 14, 1000), (p1, p1 + 1, 14), (359, 360, 0), (360, 361, 1), (361, 362, 1000)] M0 M → ((0 : Int) ≤ v145_3.toInt) → (v145_3.toInt ≤ 12) → (zvl M (p1) 14 = some (.int q_145)) → (tv.toInt ≤ q_145.toInt) → (q_145.toInt ≤ tv.toInt + 24) → 5 * (12 - v145_3.toInt) + 1 < (n : Int) → ZW X (d + 6) 3 false none cX3_minute (zRV N [(p0 + 19, p0 + 21, 1000), (p1, p1 + 1, 1), (p1 + 2, p1 + 11, 1000), (p1 + 13, p1 + 14, 1000), (p1, p1 + 1, 14), (359, 360, 0), (360, 361, 1), (361, 362, 1000)] M0 (fun M' => (∃ w : Int32, zvl M' (p1) 14 = some (.int w) ∧ (tv.toInt ≤ w.toInt) ∧ (w.toInt ≤ tv.toInt + 24) ∧ True))) (145, [o145_0, o145_1, some (.ref p1), some (.int v145_3), o145_4, o145_5], [], M)) := by
    intro n
    induction n with
    | zero =>
      exact ⟨(fun M v2_3 o2_4 o2_5 q_2 hJ v2_30 v2_31 hfq_2 hrq_20 hrq_21 hn => absurd hn (by omega)), (fun M v72_3 o72_4 o72_5 q_72 hJ v72_30 v72_31 hfq_72 hrq_720 hrq_721 hn => absurd hn (by omega)), (fun M o145_0 o145_1 v145_3 o145_4 o145_5 q_145 hJ v145_30 v145_31 hfq_145 hrq_1450 hrq_1451 hn => absurd hn (by omega))⟩
    | succ n ih =>
      obtain ⟨ih2, ih72, ih145⟩ := ih
      refine ⟨?_, ?_, ?_⟩
      · intro M v2_3 o2_4 o2_5 q_2 hJ v2_30 v2_31 hfq_2 hrq_20 hrq_21 hn
        refine w_lo dX3_minute_2 rfl rfl rfl rfl ?_
        refine w_lo dX3_minute_3 rfl rfl rfl rfl ?_
        refine w_gfi dX3_minute_4 rfl hJ.1 (zs_6_0 hp1) (Nat.le_of_ble_eq_true rfl) (zo_6_0_0 hp1) ?_
        intro x1 f2 h3 h4
        rcases zcut v2_3.toInt x1.toInt with h5 | h5
        · skip
          refine w_cge_f dX3_minute_7 (t := 70) rfl (by omega) ?_
          refine w_lo dX3_minute_10 rfl rfl rfl rfl ?_
          refine w_gf dX3_minute_11 rfl hJ.1.1 (zs_6_0 hp1) (zr_6_0_2 hp1 hJ.1) ?_
          refine w_lo dX3_minute_14 rfl rfl rfl rfl ?_
          refine w_iai dX3_minute_15 hJ.1 (zs_6_1 hp1) (by omega) (by omega) (zu_6_1 hp1) ?_
          intro x9 f6 h7 h8
          refine w_lo (ml' := [some (.ref 359), some (.ref p0), some (.ref p1), some (.int v2_3), some (.int x9), o2_5]) dX3_minute_16 rfl rfl rfl rfl ?_
          refine w_lo dX3_minute_18 rfl rfl rfl rfl ?_
          refine w_gf dX3_minute_19 rfl hJ.1.1 (zs_6_0 hp1) (zr_6_0_6 hp1 hJ.1) ?_
          refine w_lo dX3_minute_22 rfl rfl rfl rfl ?_
          refine w_iai dX3_minute_24 hJ.1 (zs_6_5 hp1) (by omega) (by omega) (zu_6_5 hp1) ?_
          intro x13 f10 h11 h12
          refine w_lo (ml' := [some (.ref 359), some (.ref p0), some (.ref p1), some (.int v2_3), some (.int x9), some (.int x13)]) dX3_minute_25 rfl rfl rfl rfl ?_
          refine w_lo dX3_minute_27 rfl rfl rfl rfl ?_
          refine w_ic dX3_minute_29 zi_m1 ?_
          rcases Int.decEq x13.toInt (-1 : Int) with h14 | h14
          · skip
            refine w_ceq_f dX3_minute_30 (t := 56) rfl (by have := zt_m1; omega) ?_
            refine w_lo dX3_minute_33 rfl rfl rfl rfl ?_
            refine w_lo dX3_minute_34 rfl rfl rfl rfl ?_
            refine w_lo dX3_minute_35 rfl rfl rfl rfl ?_
            refine w_lo dX3_minute_36 rfl rfl rfl rfl ?_
            refine w_iv dX3_minute_38 rfl rfl (As := [.ref p0, .ref p1, .int x9]) rfl rfl hJ.1.1 zs_359 (Nat.le_of_ble_eq_true rfl) ?_
            refine ZV.imp (k_770 p0 hp0 p1 hp1 x9 (by omega) (by omega) hN hJ.1) ?_
            rintro _ ⟨x18, M15, rfl, h19, h20, hJ16, hq17⟩
            have hJ21 := zJ_trans hJ hJ16 zSub_nil
            show ZW _ _ _ _ _ _ _ (41, [some (.ref 359), some (.ref p0), some (.ref p1), some (.int v2_3), some (.int x9), some (.int x13)], [.int x18], M15)
            rcases Int.decEq x18.toInt (0 : Int) with h22 | h22
            · skip
              refine w_ieq_f dX3_minute_41 (t := 56) rfl (by omega) ?_
              refine w_lo dX3_minute_44 rfl rfl rfl rfl ?_
              refine w_lo dX3_minute_45 rfl rfl rfl rfl ?_
              refine w_lo dX3_minute_46 rfl rfl rfl rfl ?_
              refine w_lo dX3_minute_47 rfl rfl rfl rfl ?_
              refine w_lo dX3_minute_49 rfl rfl rfl rfl ?_
              refine w_ic dX3_minute_51 zi_1 ?_
              have f25 := (hJ16.2 (p1) 14 zNI_nil).trans (hfq_2)
              refine w_iv dX3_minute_52 rfl rfl (As := [.ref p0, .ref p1, .int x9, .int x13, .int 1]) rfl rfl hJ21.1.1 zs_359 (Nat.le_of_ble_eq_true rfl) ?_
              refine ZV.imp (k_771 p0 hp0 p1 hp1 x9 (by omega) (by omega) x13 (by omega) (by omega) 1 (by have := zt_1; omega) (by have := zt_1; omega) q_2 f25 (by have := zt_1; omega) (by have := zt_1; omega) hN hJ21.1) ?_
              rintro _ ⟨x27, M23, rfl, h28, h29, hJ24, hq26⟩
              have hJ30 := zJ_trans hJ21 hJ24 (zSub_cons (fun _ _ h h' hk => zIR_a (by omega) (by omega)) (zSub_cons (fun _ _ h h' hk => zIR_s (zIR_s (zIR_a (by omega) (by omega)))) (zSub_cons (fun _ _ h h' hk => zIR_s (zIR_s (zIR_s (zIR_a (by omega) (by omega))))) (zSub_cons (fun _ _ h h' hk => zIR_s (zIR_s (zIR_s (zIR_s (zIR_e (by omega) (by omega) hk))))) (zSub_cons (fun _ _ h h' hk => zIR_s (zIR_s (zIR_s (zIR_s (zIR_s (zIR_s (zIR_e (by omega) (by omega) hk))))))) (zSub_cons (fun _ _ h h' hk => zIR_s (zIR_s (zIR_s (zIR_s (zIR_s (zIR_s (zIR_s (zIR_a (by omega) (by omega))))))))) zSub_nil))))))
              obtain ⟨x31, f32, h33, -⟩ := hq26
              have := zt_1
              show ZW _ _ _ _ _ _ _ (55, [some (.ref 359), some (.ref p0), some (.ref p1), some (.int v2_3), some (.int x9), some (.int x13)], [.int x27], M23)
              refine w_pu dX3_minute_55 rfl rfl ?_
              refine w_lo dX3_minute_56 rfl rfl rfl rfl ?_
              refine w_gf dX3_minute_57 rfl hJ30.1.1 (zs_6_0 hp1) (zr_6_0_6 hp1 hJ30.1) ?_
              refine w_lo dX3_minute_60 rfl rfl rfl rfl ?_
              refine w_ic dX3_minute_62 zi_m1 ?_
              refine w_isi dX3_minute_63 hJ30 (zs_6_5 hp1) (by omega) (by omega) (zu_6_5 hp1) (by have := zt_m1; omega) (by have := zt_m1; omega) (zIR_s (zIR_s (zIR_a (by omega) (by omega)))) ?_
              intro M34 hJ35 f36 hn37
              refine w_inc (kk := 3) dX3_minute_64 rfl (m := 1) (by decide) (by omega) ?_
              intro x38 h39
              refine ⟨_, rfl, ?_⟩
              show ZW _ _ _ _ _ _ _ (67, [some (.ref 359), some (.ref p0), some (.ref p1), some (.int x38), some (.int x9), some (.int x13)], [], M34)
              refine w_gt dX3_minute_67 (t := 2) rfl ?_
              have f40 := (hn37 (p1) 14 (Or.inl (by omega))).trans (f32)
              exact ih2 M34 x38 (some (.int x9)) (some (.int x13)) x31 hJ35 (by omega) (by omega) f40 (by omega) (by omega) (by omega)
            · skip
              refine w_ieq_t dX3_minute_41 (t := 56) rfl (by omega) ?_
              refine w_lo dX3_minute_56 rfl rfl rfl rfl ?_
              refine w_gf dX3_minute_57 rfl hJ21.1.1 (zs_6_0 hp1) (zr_6_0_6 hp1 hJ21.1) ?_
              refine w_lo dX3_minute_60 rfl rfl rfl rfl ?_
              refine w_ic dX3_minute_62 zi_m1 ?_
              refine w_isi dX3_minute_63 hJ21 (zs_6_5 hp1) (by omega) (by omega) (zu_6_5 hp1) (by have := zt_m1; omega) (by have := zt_m1; omega) (zIR_s (zIR_s (zIR_a (by omega) (by omega)))) ?_
              intro M41 hJ42 f43 hn44
              refine w_inc (kk := 3) dX3_minute_64 rfl (m := 1) (by decide) (by omega) ?_
              intro x45 h46
              refine ⟨_, rfl, ?_⟩
              show ZW _ _ _ _ _ _ _ (67, [some (.ref 359), some (.ref p0), some (.ref p1), some (.int x45), some (.int x9), some (.int x13)], [], M41)
              refine w_gt dX3_minute_67 (t := 2) rfl ?_
              have f47 := (hn44 (p1) 14 (Or.inl (by omega))).trans ((hJ16.2 (p1) 14 zNI_nil).trans (hfq_2))
              exact ih2 M41 x45 (some (.int x9)) (some (.int x13)) q_2 hJ42 (by omega) (by omega) f47 (by omega) (by omega) (by omega)
          · skip
            refine w_ceq_t dX3_minute_30 (t := 56) rfl (by have := zt_m1; omega) ?_
            refine w_lo dX3_minute_56 rfl rfl rfl rfl ?_
            refine w_gf dX3_minute_57 rfl hJ.1.1 (zs_6_0 hp1) (zr_6_0_6 hp1 hJ.1) ?_
            refine w_lo dX3_minute_60 rfl rfl rfl rfl ?_
            refine w_ic dX3_minute_62 zi_m1 ?_
            refine w_isi dX3_minute_63 hJ (zs_6_5 hp1) (by omega) (by omega) (zu_6_5 hp1) (by have := zt_m1; omega) (by have := zt_m1; omega) (zIR_s (zIR_s (zIR_a (by omega) (by omega)))) ?_
            intro M48 hJ49 f50 hn51
            refine w_inc (kk := 3) dX3_minute_64 rfl (m := 1) (by decide) (by omega) ?_
            intro x52 h53
            refine ⟨_, rfl, ?_⟩
            show ZW _ _ _ _ _ _ _ (67, [some (.ref 359), some (.ref p0), some (.ref p1), some (.int x52), some (.int x9), some (.int x13)], [], M48)
            refine w_gt dX3_minute_67 (t := 2) rfl ?_
            have f54 := (hn51 (p1) 14 (Or.inl (by omega))).trans (hfq_2)
            exact ih2 M48 x52 (some (.int x9)) (some (.int x13)) q_2 hJ49 (by omega) (by omega) f54 (by omega) (by omega) (by omega)
        · skip
          refine w_cge_t dX3_minute_7 (t := 70) rfl (by omega) ?_
          refine w_ic dX3_minute_70 zi_0 ?_
          refine w_lo (ml' := [some (.ref 359), some (.ref p0), some (.ref p1), some (.int 0), o2_4, o2_5]) dX3_minute_71 rfl rfl rfl rfl ?_
          exact ih72 M 0 o2_4 o2_5 q_2 hJ (by have := zt_0; omega) (by have := zt_0; omega) hfq_2 (by have := zt_0; omega) (by have := zt_0; omega) (by have := zt_0; omega)
      · intro M v72_3 o72_4 o72_5 q_72 hJ v72_30 v72_31 hfq_72 hrq_720 hrq_721 hn
        refine w_lo dX3_minute_72 rfl rfl rfl rfl ?_
        refine w_lo dX3_minute_73 rfl rfl rfl rfl ?_
        refine w_gfi dX3_minute_74 rfl hJ.1 (zs_6_0 hp1) (Nat.le_of_ble_eq_true rfl) (zo_6_0_0 hp1) ?_
        intro x55 f56 h57 h58
        rcases zcut v72_3.toInt x55.toInt with h59 | h59
        · skip
          refine w_cge_f dX3_minute_77 (t := 143) rfl (by omega) ?_
          refine w_lo dX3_minute_80 rfl rfl rfl rfl ?_
          refine w_gf dX3_minute_81 rfl hJ.1.1 (zs_6_0 hp1) (zr_6_0_2 hp1 hJ.1) ?_
          refine w_lo dX3_minute_84 rfl rfl rfl rfl ?_
          refine w_iai dX3_minute_85 hJ.1 (zs_6_1 hp1) (by omega) (by omega) (zu_6_1 hp1) ?_
          intro x63 f60 h61 h62
          refine w_lo (ml' := [some (.ref 359), some (.ref p0), some (.ref p1), some (.int v72_3), some (.int x63), o72_5]) dX3_minute_86 rfl rfl rfl rfl ?_
          refine w_lo dX3_minute_88 rfl rfl rfl rfl ?_
          refine w_lo dX3_minute_89 rfl rfl rfl rfl ?_
          refine w_lo dX3_minute_90 rfl rfl rfl rfl ?_
          refine w_lo dX3_minute_91 rfl rfl rfl rfl ?_
          refine w_iv dX3_minute_93 rfl rfl (As := [.ref p0, .ref p1, .int x63]) rfl rfl hJ.1.1 zs_359 (Nat.le_of_ble_eq_true rfl) ?_
          refine ZV.imp (k_770 p0 hp0 p1 hp1 x63 (by omega) (by omega) hN hJ.1) ?_
          rintro _ ⟨x67, M64, rfl, h68, h69, hJ65, hq66⟩
          have hJ70 := zJ_trans hJ hJ65 zSub_nil
          show ZW _ _ _ _ _ _ _ (96, [some (.ref 359), some (.ref p0), some (.ref p1), some (.int v72_3), some (.int x63), o72_5], [.int x67], M64)
          rcases Int.decEq x67.toInt (0 : Int) with h71 | h71
          · skip
            refine w_ieq_f dX3_minute_96 (t := 137) rfl (by omega) ?_
            refine w_lo dX3_minute_99 rfl rfl rfl rfl ?_
            refine w_bi dX3_minute_100 (c := 100) (by decide) ?_
            refine w_iv dX3_minute_102 rfl rfl (As := [.int 100]) rfl rfl hJ70.1.1 zs_359 (Nat.le_of_ble_eq_true rfl) ?_
            refine ZV.imp (k_772 100 hN hJ70.1) ?_
            rintro _ ⟨x75, M72, rfl, h76, h77, hJ73, hq74⟩
            have hJ78 := zJ_trans hJ70 hJ73 (zSub_cons (fun _ _ h h' hk => zIR_s (zIR_s (zIR_s (zIR_s (zIR_s (zIR_e (by omega) (by omega) hk)))))) zSub_nil)
            show ZW _ _ _ _ _ _ _ (105, [some (.ref 359), some (.ref p0), some (.ref p1), some (.int v72_3), some (.int x63), o72_5], [.int x75], M72)
            refine w_lo dX3_minute_105 rfl rfl rfl rfl ?_
            refine w_gf dX3_minute_106 rfl hJ78.1.1 (zs_1_0 hp0) (zr_1_0_6 hp0 hJ78.1) ?_
            refine w_lo dX3_minute_109 rfl rfl rfl rfl ?_
            refine w_iai dX3_minute_111 hJ78.1 (zs_1_4 hp0) (by omega) (by omega) (zu_1_4 hp0) ?_
            intro x82 f79 h80 h81
            rcases zcut x75.toInt x82.toInt with h83 | h83
            · skip
              refine w_cge_f dX3_minute_112 (t := 137) rfl (by omega) ?_
              refine w_lo dX3_minute_115 rfl rfl rfl rfl ?_
              refine w_gfi dX3_minute_116 rfl hJ78.1 (zs_1_0 hp0) (Nat.le_of_ble_eq_true rfl) (zo_1_0_2 hp0) ?_
              intro x84 f85 h86 h87
              rcases zcut (0 : Int) x84.toInt with h88 | h88
              · skip
                refine w_ile_f dX3_minute_119 (t := 137) rfl (by omega) ?_
                refine w_lo dX3_minute_122 rfl rfl rfl rfl ?_
                refine w_lo dX3_minute_123 rfl rfl rfl rfl ?_
                refine w_lo dX3_minute_124 rfl rfl rfl rfl ?_
                refine w_lo dX3_minute_125 rfl rfl rfl rfl ?_
                refine w_lo dX3_minute_127 rfl rfl rfl rfl ?_
                refine w_lo dX3_minute_128 rfl rfl rfl rfl ?_
                refine w_iv dX3_minute_129 rfl rfl (As := [.ref p0]) rfl rfl hJ78.1.1 zs_359 (Nat.le_of_ble_eq_true rfl) ?_
                refine ZV.imp (k_773 p0 hp0 hN hJ78.1) ?_
                rintro _ ⟨x92, M89, rfl, h93, h94, hJ90, hq91⟩
                have hJ95 := zJ_trans hJ78 hJ90 (zSub_cons (fun _ _ h h' hk => zIR_s (zIR_s (zIR_s (zIR_s (zIR_s (zIR_e (by omega) (by omega) hk)))))) zSub_nil)
                show ZW _ _ _ _ _ _ _ (132, [some (.ref 359), some (.ref p0), some (.ref p1), some (.int v72_3), some (.int x63), o72_5], [.int x92, .int x63, .ref p1, .ref p0, .ref 359], M89)
                refine w_ic dX3_minute_132 zi_0 ?_
                have f98 := (hJ90.2 (p1) 14 (zNI_k (by decide) (by decide) zNI_nil)).trans ((hJ73.2 (p1) 14 (zNI_k (by decide) (by decide) zNI_nil)).trans ((hJ65.2 (p1) 14 zNI_nil).trans (hfq_72)))
                refine w_iv dX3_minute_133 rfl rfl (As := [.ref p0, .ref p1, .int x63, .int x92, .int 0]) rfl rfl hJ95.1.1 zs_359 (Nat.le_of_ble_eq_true rfl) ?_
                refine ZV.imp (k_771 p0 hp0 p1 hp1 x63 (by omega) (by omega) x92 (by omega) (by omega) 0 (by have := zt_0; omega) (by have := zt_0; omega) q_72 f98 (by have := zt_0; omega) (by have := zt_0; omega) hN hJ95.1) ?_
                rintro _ ⟨x100, M96, rfl, h101, h102, hJ97, hq99⟩
                have hJ103 := zJ_trans hJ95 hJ97 (zSub_cons (fun _ _ h h' hk => zIR_a (by omega) (by omega)) (zSub_cons (fun _ _ h h' hk => zIR_s (zIR_s (zIR_a (by omega) (by omega)))) (zSub_cons (fun _ _ h h' hk => zIR_s (zIR_s (zIR_s (zIR_a (by omega) (by omega))))) (zSub_cons (fun _ _ h h' hk => zIR_s (zIR_s (zIR_s (zIR_s (zIR_e (by omega) (by omega) hk))))) (zSub_cons (fun _ _ h h' hk => zIR_s (zIR_s (zIR_s (zIR_s (zIR_s (zIR_s (zIR_e (by omega) (by omega) hk))))))) (zSub_cons (fun _ _ h h' hk => zIR_s (zIR_s (zIR_s (zIR_s (zIR_s (zIR_s (zIR_s (zIR_a (by omega) (by omega))))))))) zSub_nil))))))
                obtain ⟨x104, f105, h106, -⟩ := hq99
                have := zt_0
                show ZW _ _ _ _ _ _ _ (136, [some (.ref 359), some (.ref p0), some (.ref p1), some (.int v72_3), some (.int x63), o72_5], [.int x100], M96)
                refine w_pu dX3_minute_136 rfl rfl ?_
                refine w_inc (kk := 3) dX3_minute_137 rfl (m := 1) (by decide) (by omega) ?_
                intro x107 h108
                refine ⟨_, rfl, ?_⟩
                show ZW _ _ _ _ _ _ _ (140, [some (.ref 359), some (.ref p0), some (.ref p1), some (.int x107), some (.int x63), o72_5], [], M96)
                refine w_gt dX3_minute_140 (t := 72) rfl ?_
                exact ih72 M96 x107 (some (.int x63)) o72_5 x104 hJ103 (by omega) (by omega) f105 (by omega) (by omega) (by omega)
              · skip
                refine w_ile_t dX3_minute_119 (t := 137) rfl (by omega) ?_
                refine w_inc (kk := 3) dX3_minute_137 rfl (m := 1) (by decide) (by omega) ?_
                intro x109 h110
                refine ⟨_, rfl, ?_⟩
                show ZW _ _ _ _ _ _ _ (140, [some (.ref 359), some (.ref p0), some (.ref p1), some (.int x109), some (.int x63), o72_5], [], M72)
                refine w_gt dX3_minute_140 (t := 72) rfl ?_
                have f111 := (hJ73.2 (p1) 14 (zNI_k (by decide) (by decide) zNI_nil)).trans ((hJ65.2 (p1) 14 zNI_nil).trans (hfq_72))
                exact ih72 M72 x109 (some (.int x63)) o72_5 q_72 hJ78 (by omega) (by omega) f111 (by omega) (by omega) (by omega)
            · skip
              refine w_cge_t dX3_minute_112 (t := 137) rfl (by omega) ?_
              refine w_inc (kk := 3) dX3_minute_137 rfl (m := 1) (by decide) (by omega) ?_
              intro x112 h113
              refine ⟨_, rfl, ?_⟩
              show ZW _ _ _ _ _ _ _ (140, [some (.ref 359), some (.ref p0), some (.ref p1), some (.int x112), some (.int x63), o72_5], [], M72)
              refine w_gt dX3_minute_140 (t := 72) rfl ?_
              have f114 := (hJ73.2 (p1) 14 (zNI_k (by decide) (by decide) zNI_nil)).trans ((hJ65.2 (p1) 14 zNI_nil).trans (hfq_72))
              exact ih72 M72 x112 (some (.int x63)) o72_5 q_72 hJ78 (by omega) (by omega) f114 (by omega) (by omega) (by omega)
          · skip
            refine w_ieq_t dX3_minute_96 (t := 137) rfl (by omega) ?_
            refine w_inc (kk := 3) dX3_minute_137 rfl (m := 1) (by decide) (by omega) ?_
            intro x115 h116
            refine ⟨_, rfl, ?_⟩
            show ZW _ _ _ _ _ _ _ (140, [some (.ref 359), some (.ref p0), some (.ref p1), some (.int x115), some (.int x63), o72_5], [], M64)
            refine w_gt dX3_minute_140 (t := 72) rfl ?_
            have f117 := (hJ65.2 (p1) 14 zNI_nil).trans (hfq_72)
            exact ih72 M64 x115 (some (.int x63)) o72_5 q_72 hJ70 (by omega) (by omega) f117 (by omega) (by omega) (by omega)
        · skip
          refine w_cge_t dX3_minute_77 (t := 143) rfl (by omega) ?_
          refine w_ic dX3_minute_143 zi_0 ?_
          refine w_lo (ml' := [some (.ref 359), some (.ref p0), some (.ref p1), some (.int 0), o72_4, o72_5]) dX3_minute_144 rfl rfl rfl rfl ?_
          exact ih145 M (some (.ref 359)) (some (.ref p0)) 0 o72_4 o72_5 q_72 hJ (by have := zt_0; omega) (by have := zt_0; omega) hfq_72 (by have := zt_0; omega) (by have := zt_0; omega) (by have := zt_0; omega)
      · intro M o145_0 o145_1 v145_3 o145_4 o145_5 q_145 hJ v145_30 v145_31 hfq_145 hrq_1450 hrq_1451 hn
        refine w_lo dX3_minute_145 rfl rfl rfl rfl ?_
        refine w_lo dX3_minute_146 rfl rfl rfl rfl ?_
        refine w_gfi dX3_minute_147 rfl hJ.1 (zs_6_0 hp1) (Nat.le_of_ble_eq_true rfl) (zo_6_0_0 hp1) ?_
        intro x118 f119 h120 h121
        rcases zcut v145_3.toInt x118.toInt with h122 | h122
        · skip
          refine w_cge_f dX3_minute_150 (t := 202) rfl (by omega) ?_
          refine w_lo dX3_minute_153 rfl rfl rfl rfl ?_
          refine w_gf dX3_minute_154 rfl hJ.1.1 (zs_6_0 hp1) (zr_6_0_4 hp1 hJ.1) ?_
          refine w_lo dX3_minute_157 rfl rfl rfl rfl ?_
          refine w_iai dX3_minute_158 hJ.1 (zs_6_3 hp1) (by omega) (by omega) (zu_6_3 hp1) ?_
          intro x126 f123 h124 h125
          refine w_ic dX3_minute_159 zi_m1 ?_
          rcases Int.decEq x126.toInt (-1 : Int) with h127 | h127
          · skip
            refine w_ceq_f dX3_minute_160 (t := 196) rfl (by have := zt_m1; omega) ?_
            refine w_lo dX3_minute_163 rfl rfl rfl rfl ?_
            refine w_gf dX3_minute_164 rfl hJ.1.1 (zs_6_0 hp1) (zr_6_0_5 hp1 hJ.1) ?_
            refine w_lo dX3_minute_167 rfl rfl rfl rfl ?_
            refine w_pu dX3_minute_168 rfl rfl ?_
            refine w_iai dX3_minute_169 hJ.1 (zs_6_4 hp1) (by omega) (by omega) (zu_6_4 hp1) ?_
            intro x131 f128 h129 h130
            refine w_ic dX3_minute_170 zi_1 ?_
            refine w_puI dX3_minute_171 rfl rfl ?_
            intro x132
            refine w_isi dX3_minute_172 hJ (zs_6_4 hp1) (by omega) (by omega) (zu_6_4 hp1) (zbot _) (ztop _) (zIR_s (zIR_s (zIR_a (by omega) (by omega)))) ?_
            intro M133 hJ134 f135 hn136
            refine w_lo dX3_minute_173 rfl rfl rfl rfl ?_
            refine w_gf dX3_minute_174 rfl hJ134.1.1 (zs_6_0 hp1) (zr_6_0_5 hp1 hJ134.1) ?_
            refine w_lo dX3_minute_177 rfl rfl rfl rfl ?_
            refine w_ia dX3_minute_178 hJ134.1.1 (zs_6_4 hp1) (znat (by omega)) f135 ?_
            rcases zcut (0 : Int) x132.toInt with h140 | h140
            · skip
              refine w_igt_t dX3_minute_179 (t := 196) rfl (by omega) ?_
              refine w_inc (kk := 3) dX3_minute_196 rfl (m := 1) (by decide) (by omega) ?_
              intro x141 h142
              refine ⟨_, rfl, ?_⟩
              show ZW _ _ _ _ _ _ _ (199, [o145_0, o145_1, some (.ref p1), some (.int x141), o145_4, o145_5], [], M133)
              refine w_gt dX3_minute_199 (t := 145) rfl ?_
              have f143 := (hn136 (p1) 14 (Or.inl (by omega))).trans (hfq_145)
              exact ih145 M133 o145_0 o145_1 x141 o145_4 o145_5 q_145 hJ134 (by omega) (by omega) f143 (by omega) (by omega) (by omega)
            · skip
              refine w_igt_f dX3_minute_179 (t := 196) rfl (by omega) ?_
              refine w_lo dX3_minute_182 rfl rfl rfl rfl ?_
              refine w_gf dX3_minute_183 rfl hJ134.1.1 (zs_6_0 hp1) (zr_6_0_4 hp1 hJ134.1) ?_
              refine w_lo dX3_minute_186 rfl rfl rfl rfl ?_
              refine w_ic dX3_minute_187 zi_m1 ?_
              refine w_isi dX3_minute_188 hJ134 (zs_6_3 hp1) (by omega) (by omega) (zu_6_3 hp1) (by have := zt_m1; omega) (by have := zt_m1; omega) (zIR_s (zIR_s (zIR_a (by omega) (by omega)))) ?_
              intro M144 hJ145 f146 hn147
              refine w_lo dX3_minute_189 rfl rfl rfl rfl ?_
              refine w_gf dX3_minute_190 rfl hJ145.1.1 (zs_6_0 hp1) (zr_6_0_5 hp1 hJ145.1) ?_
              refine w_lo dX3_minute_193 rfl rfl rfl rfl ?_
              refine w_ic dX3_minute_194 zi_0 ?_
              refine w_isi dX3_minute_195 hJ145 (zs_6_4 hp1) (by omega) (by omega) (zu_6_4 hp1) (zbot _) (ztop _) (zIR_s (zIR_s (zIR_a (by omega) (by omega)))) ?_
              intro M148 hJ149 f150 hn151
              refine w_inc (kk := 3) dX3_minute_196 rfl (m := 1) (by decide) (by omega) ?_
              intro x152 h153
              refine ⟨_, rfl, ?_⟩
              show ZW _ _ _ _ _ _ _ (199, [o145_0, o145_1, some (.ref p1), some (.int x152), o145_4, o145_5], [], M148)
              refine w_gt dX3_minute_199 (t := 145) rfl ?_
              have f154 := (hn151 (p1) 14 (Or.inl (by omega))).trans ((hn147 (p1) 14 (Or.inl (by omega))).trans ((hn136 (p1) 14 (Or.inl (by omega))).trans (hfq_145)))
              exact ih145 M148 o145_0 o145_1 x152 o145_4 o145_5 q_145 hJ149 (by omega) (by omega) f154 (by omega) (by omega) (by omega)
          · skip
            refine w_ceq_t dX3_minute_160 (t := 196) rfl (by have := zt_m1; omega) ?_
            refine w_inc (kk := 3) dX3_minute_196 rfl (m := 1) (by decide) (by omega) ?_
            intro x155 h156
            refine ⟨_, rfl, ?_⟩
            show ZW _ _ _ _ _ _ _ (199, [o145_0, o145_1, some (.ref p1), some (.int x155), o145_4, o145_5], [], M)
            refine w_gt dX3_minute_199 (t := 145) rfl ?_
            exact ih145 M o145_0 o145_1 x155 o145_4 o145_5 q_145 hJ (by omega) (by omega) hfq_145 (by omega) (by omega) (by omega)
        · skip
          refine w_cge_t dX3_minute_150 (t := 202) rfl (by omega) ?_
          refine w_lo dX3_minute_202 rfl rfl rfl rfl ?_
          refine w_pu dX3_minute_203 rfl rfl ?_
          refine w_gfi dX3_minute_204 rfl hJ.1 (zs_6_0 hp1) (Nat.le_of_ble_eq_true rfl) (zo_6_0_1 hp1) ?_
          intro x157 f158 h159 h160
          refine w_ic dX3_minute_207 zi_1 ?_
          refine w_puI dX3_minute_208 rfl rfl ?_
          intro x161
          refine w_pfi dX3_minute_209 rfl hJ (zs_6_0 hp1) (Nat.le_of_ble_eq_true rfl) (zo_6_0_1 hp1) (zbot _) (ztop _) (zIR_s (zIR_k (by omega) (by omega))) rfl rfl rfl ?_
          intro M162 hJ163 f164 hn165
          refine w_en dX3_minute_212 rfl ?_
          have f166 := (hn165 (p1) 14 (Or.inr (by decide))).trans (hfq_145)
          exact ⟨_, rfl, hJ163, ⟨q_145, f166, (by omega), (by omega), trivial⟩⟩
  obtain ⟨ih2, ih72, ih145⟩ := main 218
  show ZW _ _ _ _ _ _ _ (0, [some (.ref 359), some (.ref p0), some (.ref p1), none, none, none], [], M0)
  refine w_ic dX3_minute_0 zi_0 ?_
  refine w_lo (ml' := [some (.ref 359), some (.ref p0), some (.ref p1), some (.int 0), none, none]) dX3_minute_1 rfl rfl rfl rfl ?_
  exact ih2 M0 0 none none tv hJ0 (by have := zt_0; omega) (by have := zt_0; omega) hftv (by have := zt_0; omega) (by have := zt_0; omega) (by have := zt_0; omega)
set_option maxRecDepth 100000 in
theorem k_2073 {X : List Int32} {d N : Nat} {M0 : zM} (a0 : Int32) (tv : Int32) (hftv : zvl M0 (49) 14 = some (.int tv)) (hrtv0 : 0 ≤ tv.toInt) (hrtv1 : tv.toInt + 2400 ≤ 3000 * (N : Int)) (hN : N ≤ 600) (hB0 : zB N M0) : ZV X (d + 8) 2073 [.ref 0, .int a0] M0 (zRI N [(77, 78, 0), (79, 346, 0), (359, 360, 0), (49, 50, 1), (77, 78, 1), (79, 346, 1), (360, 361, 1), (26, 28, 1000), (47, 49, 1000), (51, 60, 1000), (62, 63, 1000), (80, 359, 1000), (361, 362, 1000), (385, 386, 1000), (49, 50, 14), (79, 346, 14), (0, 1, 15)] M0 (-2147483648) (2147483646) (fun _ _ => True)) := by
  have hJ0 : zJ N [(77, 78, 0), (79, 346, 0), (359, 360, 0), (49, 50, 1), (77, 78, 1), (79, 346, 1), (360, 361, 1), (26, 28, 1000), (47, 49, 1000), (51, 60, 1000), (62, 63, 1000), (80, 359, 1000), (361, 362, 1000), (385, 386, 1000), (49, 50, 14), (79, 346, 14), (0, 1, 15)] M0 M0 := zJ_refl hB0
  refine ZV.of (ini := false) rfl (Nat.le_of_ble_eq_true rfl) (by decide +kernel) ?_
  have main : ∀ n : Nat,
      (∀ (M : zM) (v55_1 : Int32) (v55_2 : Int32) (v55_3 : Int32) (q_55 : Int32), zJ N [(77, 78, 0), (79, 346, 0), (359, 360, 0), (49, 50, 1), (77, 78, 1), (79, 346, 1), (360, 361, 1), (26, 28, 1000), (47, 49, 1000), (51, 60, 1000), (62, 63, 1000), (80, 359, 1000), (361, 362, 1000), (385, 386, 1000), (49, 50, 14), (79, 346, 14), (0, 1, 15)] M0 M → ((1 : Int) ≤ v55_1.toInt) → (v55_1.toInt ≤ 99) → ((0 : Int) ≤ v55_2.toInt) → (v55_2.toInt ≤ 1800000) → ((0 : Int) ≤ v55_3.toInt) → (v55_3.toInt ≤ 99) → (zvl M (49) 14 = some (.int q_55)) → (tv.toInt ≤ q_55.toInt) → (q_55.toInt ≤ tv.toInt + 24 * v55_3.toInt) → 3 * (99 - v55_3.toInt) + 1 < (n : Int) → ZW X (d + 7) 8 false (some .int) cX8_go (zRI N [(77, 78, 0), (79, 346, 0), (359, 360, 0), (49, 50, 1), (77, 78, 1), (79, 346, 1), (360, 361, 1), (26, 28, 1000), (47, 49, 1000), (51, 60, 1000), (62, 63, 1000), (80, 359, 1000), (361, 362, 1000), (385, 386, 1000), (49, 50, 14), (79, 346, 14), (0, 1, 15)] M0 (-2147483648) (2147483646) (fun _ _ => True)) (55, [some (.ref 0), some (.int v55_1), some (.int v55_2), some (.int v55_3)], [], M)) := by
    intro n
    induction n with
    | zero =>
      exact (fun M v55_1 v55_2 v55_3 q_55 hJ v55_10 v55_11 v55_20 v55_21 v55_30 v55_31 hfq_55 hrq_550 hrq_551 hn => absurd hn (by omega))
    | succ n ih =>
      have ih55 := ih
      · intro M v55_1 v55_2 v55_3 q_55 hJ v55_10 v55_11 v55_20 v55_21 v55_30 v55_31 hfq_55 hrq_550 hrq_551 hn
        refine w_lo dX8_go_55 rfl rfl rfl rfl ?_
        refine w_lo dX8_go_56 rfl rfl rfl rfl ?_
        rcases zcut v55_3.toInt v55_1.toInt with h1 | h1
        · skip
          refine w_cge_f dX8_go_57 (t := 94) rfl (by omega) ?_
          refine w_lo dX8_go_60 rfl rfl rfl rfl ?_
          refine w_gf dX8_go_61 rfl hJ.1.1 zs_0 (zr_0_4 hJ.1) ?_
          refine w_gfi dX8_go_64 rfl hJ.1 zs_49 (Nat.le_of_ble_eq_true rfl) zo_49_1 ?_
          intro x2 f3 h4 h5
          refine w_si dX8_go_67 (c := 999) (by decide) ?_
          rcases zcut x2.toInt (999 : Int) with h6 | h6
          · skip
            refine w_cge_f dX8_go_70 (t := 94) rfl (by have := zt_999; omega) ?_
            refine w_lo dX8_go_73 rfl rfl rfl rfl ?_
            refine w_gf dX8_go_74 rfl hJ.1.1 zs_0 (zr_0_7 hJ.1) ?_
            refine w_lo dX8_go_77 rfl rfl rfl rfl ?_
            obtain ⟨b7, f8, h9⟩ := zd_0_3 hJ.1
            have h10 := zDm_b h9
            refine w_gf dX8_go_78 rfl hJ.1.1 zs_0 f8 ?_
            refine w_lo dX8_go_81 rfl rfl rfl rfl ?_
            refine w_gf dX8_go_82 rfl hJ.1.1 zs_0 (zr_0_4 hJ.1) ?_
            refine w_iv dX8_go_85 rfl rfl (As := [.ref b7, .ref 49]) rfl rfl hJ.1.1 zs_359 (Nat.le_of_ble_eq_true rfl) ?_
            refine ZV.imp (k_769 b7 h9 49 hb_6_49 q_55 hfq_55 (by omega) (by omega) hN hJ.1) ?_
            rintro _ ⟨M11, rfl, hJ12, hq13⟩
            have hJ14 := zJ_trans hJ hJ12 (zSub_cons (fun _ _ h h' hk => ((zDm_or h9).elim (fun e => zIR_s (zIR_s (zIR_s (zIR_s (zIR_s (zIR_s (zIR_s (zIR_a (by omega) (by omega))))))))) (fun e => zIR_s (zIR_s (zIR_s (zIR_s (zIR_s (zIR_s (zIR_s (zIR_s (zIR_a (by omega) (by omega)))))))))))) (zSub_cons (fun _ _ h h' hk => zIR_s (zIR_s (zIR_s (zIR_e (by omega) (by omega) hk)))) (zSub_cons (fun _ _ h h' hk => zIR_s (zIR_s (zIR_s (zIR_s (zIR_s (zIR_s (zIR_s (zIR_s (zIR_s (zIR_a (by omega) (by omega))))))))))) (zSub_cons (fun _ _ h h' hk => zIR_s (zIR_s (zIR_s (zIR_s (zIR_s (zIR_s (zIR_s (zIR_s (zIR_s (zIR_s (zIR_a (by omega) (by omega)))))))))))) (zSub_cons (fun _ _ h h' hk => zIR_s (zIR_s (zIR_s (zIR_s (zIR_s (zIR_s (zIR_s (zIR_s (zIR_s (zIR_s (zIR_s (zIR_s (zIR_s (zIR_s (zIR_e (by omega) (by omega) hk))))))))))))))) (zSub_cons (fun _ _ h h' hk => zIR_s (zIR_s (zIR_e (by omega) (by omega) hk))) (zSub_cons (fun _ _ h h' hk => zIR_s (zIR_s (zIR_s (zIR_s (zIR_s (zIR_s (zIR_e (by omega) (by omega) hk))))))) (zSub_cons (fun _ _ h h' hk => zIR_s (zIR_s (zIR_s (zIR_s (zIR_s (zIR_s (zIR_s (zIR_s (zIR_s (zIR_s (zIR_s (zIR_s (zIR_a (by omega) (by omega)))))))))))))) zSub_nil))))))))
            obtain ⟨x15, f16, h17, h18, -⟩ := hq13
            show ZW _ _ _ _ _ _ _ (88, [some (.ref 0), some (.int v55_1), some (.int v55_2), some (.int v55_3)], [], M11)
            refine w_inc (kk := 3) dX8_go_88 rfl (m := 1) (by decide) (by omega) ?_
            intro x19 h20
            refine ⟨_, rfl, ?_⟩
            show ZW _ _ _ _ _ _ _ (91, [some (.ref 0), some (.int v55_1), some (.int v55_2), some (.int x19)], [], M11)
            refine w_gt dX8_go_91 (t := 55) rfl ?_
            exact ih55 M11 v55_1 v55_2 x19 x15 hJ14 (by omega) (by omega) (by omega) (by omega) (by omega) (by omega) f16 (by omega) (by omega) (by omega)
          · skip
            refine w_cge_t dX8_go_70 (t := 94) rfl (by have := zt_999; omega) ?_
            refine w_lo dX8_go_94 rfl rfl rfl rfl ?_
            refine w_gf dX8_go_95 rfl hJ.1.1 zs_0 (zr_0_4 hJ.1) ?_
            refine w_gf dX8_go_98 rfl hJ.1.1 zs_49 hfq_55 ?_
            refine w_lo dX8_go_101 rfl rfl rfl rfl ?_
            refine w_sub dX8_go_102 (by omega) ?_
            intro x21 h22
            refine w_eni dX8_go_103 rfl rfl ?_
            exact ⟨_, _, rfl, (zbot _), (by omega), hJ, trivial⟩
        · skip
          refine w_cge_t dX8_go_57 (t := 94) rfl (by omega) ?_
          refine w_lo dX8_go_94 rfl rfl rfl rfl ?_
          refine w_gf dX8_go_95 rfl hJ.1.1 zs_0 (zr_0_4 hJ.1) ?_
          refine w_gf dX8_go_98 rfl hJ.1.1 zs_49 hfq_55 ?_
          refine w_lo dX8_go_101 rfl rfl rfl rfl ?_
          refine w_sub dX8_go_102 (by omega) ?_
          intro x23 h24
          refine w_eni dX8_go_103 rfl rfl ?_
          exact ⟨_, _, rfl, (zbot _), (by omega), hJ, trivial⟩
  have ih55 := main 309
  show ZW _ _ _ _ _ _ _ (0, [some (.ref 0), some (.int a0), none, none], [], M0)
  refine w_lo dX8_go_0 rfl rfl rfl rfl ?_
  refine w_ic dX8_go_1 zi_1 ?_
  rcases zcut a0.toInt (1 : Int) with h25 | h25
  · skip
    refine w_clt_t dX8_go_2 (t := 34) rfl (by have := zt_1; omega) ?_
    refine w_lo dX8_go_34 rfl rfl rfl rfl ?_
    refine w_ic dX8_go_35 zi_2 ?_
    refine w_iv dX8_go_36 rfl rfl (As := [.int 2]) rfl rfl hJ0.1.1 zs_0 (Nat.le_of_ble_eq_true rfl) ?_
    refine ZV.imp (k_2050 2 (by have := zt_2; omega) (by have := zt_2; omega) hN hJ0.1) ?_
    rintro _ ⟨M26, rfl, hJ27, hq28⟩
    have hJ29 := zJ_trans hJ0 hJ27 (zSub_cons (fun _ _ h h' hk => zIR_s (zIR_s (zIR_s (zIR_s (zIR_s (zIR_s (zIR_s (zIR_s (zIR_s (zIR_s (zIR_s (zIR_s (zIR_s (zIR_a (by omega) (by omega))))))))))))))) zSub_nil)
    show ZW _ _ _ _ _ _ _ (39, [some (.ref 0), some (.int a0), none, none], [], M26)
    refine w_ic dX8_go_39 zi_m1 ?_
    refine w_en dX8_go_40 rfl ?_
    exact ⟨_, _, rfl, (zbot _), (by have := zt_m1; omega), hJ29, trivial⟩
  · skip
    refine w_clt_f dX8_go_2 (t := 34) rfl (by have := zt_1; omega) ?_
    refine w_lo dX8_go_5 rfl rfl rfl rfl ?_
    refine w_bi dX8_go_6 (c := 99) (by decide) ?_
    rcases zcut (99 : Int) a0.toInt with h30 | h30
    · skip
      refine w_cgt_t dX8_go_8 (t := 34) rfl (by have := zt_99; omega) ?_
      refine w_lo dX8_go_34 rfl rfl rfl rfl ?_
      refine w_ic dX8_go_35 zi_2 ?_
      refine w_iv dX8_go_36 rfl rfl (As := [.int 2]) rfl rfl hJ0.1.1 zs_0 (Nat.le_of_ble_eq_true rfl) ?_
      refine ZV.imp (k_2050 2 (by have := zt_2; omega) (by have := zt_2; omega) hN hJ0.1) ?_
      rintro _ ⟨M31, rfl, hJ32, hq33⟩
      have hJ34 := zJ_trans hJ0 hJ32 (zSub_cons (fun _ _ h h' hk => zIR_s (zIR_s (zIR_s (zIR_s (zIR_s (zIR_s (zIR_s (zIR_s (zIR_s (zIR_s (zIR_s (zIR_s (zIR_s (zIR_a (by omega) (by omega))))))))))))))) zSub_nil)
      show ZW _ _ _ _ _ _ _ (39, [some (.ref 0), some (.int a0), none, none], [], M31)
      refine w_ic dX8_go_39 zi_m1 ?_
      refine w_en dX8_go_40 rfl ?_
      exact ⟨_, _, rfl, (zbot _), (by have := zt_m1; omega), hJ34, trivial⟩
    · skip
      refine w_cgt_f dX8_go_8 (t := 34) rfl (by have := zt_99; omega) ?_
      refine w_lo dX8_go_11 rfl rfl rfl rfl ?_
      refine w_gf dX8_go_12 rfl hJ0.1.1 zs_0 (zr_0_4 hJ0.1) ?_
      refine w_gfi dX8_go_15 rfl hJ0.1 zs_49 (Nat.le_of_ble_eq_true rfl) zo_49_0 ?_
      intro x35 f36 h37 h38
      rcases Int.decEq x35.toInt (0 : Int) with h39 | h39
      · skip
        refine w_ieq_f dX8_go_18 (t := 34) rfl (by omega) ?_
        refine w_lo dX8_go_21 rfl rfl rfl rfl ?_
        refine w_gf dX8_go_22 rfl hJ0.1.1 zs_0 (zr_0_4 hJ0.1) ?_
        refine w_gfi dX8_go_25 rfl hJ0.1 zs_49 (Nat.le_of_ble_eq_true rfl) zo_49_1 ?_
        intro x40 f41 h42 h43
        refine w_si dX8_go_28 (c := 999) (by decide) ?_
        rcases zcut x40.toInt (999 : Int) with h44 | h44
        · skip
          refine w_clt_t dX8_go_31 (t := 41) rfl (by have := zt_999; omega) ?_
          refine w_lo dX8_go_41 rfl rfl rfl rfl ?_
          refine w_iv dX8_go_42 rfl rfl (As := []) rfl rfl hJ0.1.1 zs_0 (Nat.le_of_ble_eq_true rfl) ?_
          refine ZV.imp (k_2074 hN hJ0.1) ?_
          rintro _ ⟨M45, rfl, hJ46, hq47⟩
          have hJ48 := zJ_trans hJ0 hJ46 (zSub_cons (fun _ _ h h' hk => zIR_e (by omega) (by omega) hk) (zSub_cons (fun _ _ h h' hk => zIR_s (zIR_e (by omega) (by omega) hk)) (zSub_cons (fun _ _ h h' hk => zIR_s (zIR_s (zIR_s (zIR_s (zIR_e (by omega) (by omega) hk))))) (zSub_cons (fun _ _ h h' hk => zIR_s (zIR_s (zIR_s (zIR_s (zIR_s (zIR_e (by omega) (by omega) hk)))))) (zSub_cons (fun _ _ h h' hk => zIR_s (zIR_s (zIR_s (zIR_s (zIR_s (zIR_s (zIR_s (zIR_s (zIR_s (zIR_s (zIR_s (zIR_a (by omega) (by omega))))))))))))) (zSub_cons (fun _ _ h h' hk => zIR_s (zIR_s (zIR_s (zIR_s (zIR_s (zIR_s (zIR_s (zIR_s (zIR_s (zIR_s (zIR_s (zIR_s (zIR_s (zIR_s (zIR_s (zIR_e (by omega) (by omega) hk)))))))))))))))) (zSub_cons (fun _ _ h h' hk => zIR_s (zIR_s (zIR_s (zIR_s (zIR_s (zIR_s (zIR_s (zIR_s (zIR_s (zIR_s (zIR_s (zIR_s (zIR_s (zIR_s (zIR_s (zIR_s (zIR_e (by omega) (by omega) hk))))))))))))))))) zSub_nil)))))))
          show ZW _ _ _ _ _ _ _ (45, [some (.ref 0), some (.int a0), none, none], [], M45)
          refine w_lo dX8_go_45 rfl rfl rfl rfl ?_
          refine w_gf dX8_go_46 rfl hJ48.1.1 zs_0 (zr_0_4 hJ48.1) ?_
          have f49 := (hJ46.2 (49) 14 (zNI_k (by decide) (by decide) (zNI_k (by decide) (by decide) (zNI_k (by decide) (by decide) (zNI_k (by decide) (by decide) (zNI (by omega) (zNI (by omega) (zNI_k (by decide) (by decide) zNI_nil)))))))).trans (hftv)
          refine w_gf dX8_go_49 rfl hJ48.1.1 zs_49 f49 ?_
          refine w_lo (ml' := [some (.ref 0), some (.int a0), some (.int tv), none]) dX8_go_52 rfl rfl rfl rfl ?_
          refine w_ic dX8_go_53 zi_0 ?_
          refine w_lo (ml' := [some (.ref 0), some (.int a0), some (.int tv), some (.int 0)]) dX8_go_54 rfl rfl rfl rfl ?_
          exact ih55 M45 a0 tv 0 tv hJ48 (by omega) (by omega) (by omega) (by omega) (by have := zt_0; omega) (by have := zt_0; omega) f49 (by have := zt_0; omega) (by have := zt_0; omega) (by have := zt_0; omega)
        · skip
          refine w_clt_f dX8_go_31 (t := 41) rfl (by have := zt_999; omega) ?_
          refine w_lo dX8_go_34 rfl rfl rfl rfl ?_
          refine w_ic dX8_go_35 zi_2 ?_
          refine w_iv dX8_go_36 rfl rfl (As := [.int 2]) rfl rfl hJ0.1.1 zs_0 (Nat.le_of_ble_eq_true rfl) ?_
          refine ZV.imp (k_2050 2 (by have := zt_2; omega) (by have := zt_2; omega) hN hJ0.1) ?_
          rintro _ ⟨M50, rfl, hJ51, hq52⟩
          have hJ53 := zJ_trans hJ0 hJ51 (zSub_cons (fun _ _ h h' hk => zIR_s (zIR_s (zIR_s (zIR_s (zIR_s (zIR_s (zIR_s (zIR_s (zIR_s (zIR_s (zIR_s (zIR_s (zIR_s (zIR_a (by omega) (by omega))))))))))))))) zSub_nil)
          show ZW _ _ _ _ _ _ _ (39, [some (.ref 0), some (.int a0), none, none], [], M50)
          refine w_ic dX8_go_39 zi_m1 ?_
          refine w_en dX8_go_40 rfl ?_
          exact ⟨_, _, rfl, (zbot _), (by have := zt_m1; omega), hJ53, trivial⟩
      · skip
        refine w_ieq_t dX8_go_18 (t := 34) rfl (by omega) ?_
        refine w_lo dX8_go_34 rfl rfl rfl rfl ?_
        refine w_ic dX8_go_35 zi_2 ?_
        refine w_iv dX8_go_36 rfl rfl (As := [.int 2]) rfl rfl hJ0.1.1 zs_0 (Nat.le_of_ble_eq_true rfl) ?_
        refine ZV.imp (k_2050 2 (by have := zt_2; omega) (by have := zt_2; omega) hN hJ0.1) ?_
        rintro _ ⟨M54, rfl, hJ55, hq56⟩
        have hJ57 := zJ_trans hJ0 hJ55 (zSub_cons (fun _ _ h h' hk => zIR_s (zIR_s (zIR_s (zIR_s (zIR_s (zIR_s (zIR_s (zIR_s (zIR_s (zIR_s (zIR_s (zIR_s (zIR_s (zIR_a (by omega) (by omega))))))))))))))) zSub_nil)
        show ZW _ _ _ _ _ _ _ (39, [some (.ref 0), some (.int a0), none, none], [], M54)
        refine w_ic dX8_go_39 zi_m1 ?_
        refine w_en dX8_go_40 rfl ?_
        exact ⟨_, _, rfl, (zbot _), (by have := zt_m1; omega), hJ57, trivial⟩
set_option maxRecDepth 100000 in
theorem k_2075 {X : List Int32} {d N : Nat} {M0 : zM} (a0 : Int32) (a1 : Int32) (tv : Int32) (hftv : zvl M0 (49) 14 = some (.int tv)) (hrtv0 : 0 ≤ tv.toInt) (hrtv1 : tv.toInt + 2400 ≤ 3000 * (N : Int)) (hN : N ≤ 600) (hB0 : zB N M0) : ZV X (d + 7) 2075 [.ref 0, .int a0, .int a1] M0 (zRI N [(77, 78, 0), (79, 346, 0), (77, 78, 1), (79, 346, 1), (360, 361, 1), (26, 28, 1000), (47, 49, 1000), (51, 60, 1000), (62, 63, 1000), (80, 359, 1000), (361, 362, 1000), (385, 386, 1000), (49, 50, 14), (79, 346, 14), (0, 1, 15)] M0 (-1) (63) (fun _ _ => True)) := by
  have hJ0 : zJ N [(77, 78, 0), (79, 346, 0), (77, 78, 1), (79, 346, 1), (360, 361, 1), (26, 28, 1000), (47, 49, 1000), (51, 60, 1000), (62, 63, 1000), (80, 359, 1000), (361, 362, 1000), (385, 386, 1000), (49, 50, 14), (79, 346, 14), (0, 1, 15)] M0 M0 := zJ_refl hB0
  refine ZV.of (ini := false) rfl (Nat.le_of_ble_eq_true rfl) (by decide +kernel) ?_
  show ZW _ _ _ _ _ _ _ (0, [some (.ref 0), some (.int a0), some (.int a1)], [], M0)
  refine w_lo dX8_dreams_0 rfl rfl rfl rfl ?_
  refine w_lo dX8_dreams_1 rfl rfl rfl rfl ?_
  refine w_iv dX8_dreams_2 rfl rfl (As := [.int a0]) rfl rfl hJ0.1.1 zs_0 (Nat.le_of_ble_eq_true rfl) ?_
  refine ZV.of (ini := false) rfl (Nat.le_of_ble_eq_true rfl) (by decide +kernel) ?_
  show ZW _ _ _ _ _ _ _ (0, [some (.ref 0), some (.int a0)], [], M0)
  refine w_lo dX8_isBoy_0 rfl rfl rfl rfl ?_
  rcases zcut a0.toInt (0 : Int) with h1 | h1
  · skip
    refine w_ilt_t dX8_isBoy_1 (t := 19) rfl (by omega) ?_
    refine w_ic dX8_isBoy_19 zi_0 ?_
    refine w_en dX8_isBoy_20 rfl ?_
    show ZW _ _ _ _ _ _ _ (5, [some (.ref 0), some (.int a0), some (.int a1)], [.int 0], M0)
    refine w_ieq_t dX8_dreams_5 (t := 35) rfl (by have := zt_0; omega) ?_
    refine w_lo dX8_dreams_35 rfl rfl rfl rfl ?_
    refine w_ic dX8_dreams_36 zi_2 ?_
    refine w_iv dX8_dreams_37 rfl rfl (As := [.int 2]) rfl rfl hJ0.1.1 zs_0 (Nat.le_of_ble_eq_true rfl) ?_
    refine ZV.imp (k_2050 2 (by have := zt_2; omega) (by have := zt_2; omega) hN hJ0.1) ?_
    rintro _ ⟨M2, rfl, hJ3, hq4⟩
    have hJ5 := zJ_trans hJ0 hJ3 (zSub_cons (fun _ _ h h' hk => zIR_s (zIR_s (zIR_s (zIR_s (zIR_s (zIR_s (zIR_s (zIR_s (zIR_s (zIR_s (zIR_s (zIR_a (by omega) (by omega))))))))))))) zSub_nil)
    show ZW _ _ _ _ _ _ _ (40, [some (.ref 0), some (.int a0), some (.int a1)], [], M2)
    refine w_ic dX8_dreams_40 zi_m1 ?_
    refine w_en dX8_dreams_41 rfl ?_
    exact ⟨_, _, rfl, (by have := zt_m1; omega), (by have := zt_m1; omega), hJ5, trivial⟩
  · skip
    refine w_ilt_f dX8_isBoy_1 (t := 19) rfl (by omega) ?_
    refine w_lo dX8_isBoy_4 rfl rfl rfl rfl ?_
    refine w_lo dX8_isBoy_5 rfl rfl rfl rfl ?_
    obtain ⟨b6, f7, h8⟩ := zd_0_3 hJ0.1
    have h9 := zDm_b h8
    refine w_gf dX8_isBoy_6 rfl hJ0.1.1 zs_0 f7 ?_
    refine w_gfi dX8_isBoy_9 rfl hJ0.1 (zs_1_0 h8) (Nat.le_of_ble_eq_true rfl) (zo_1_0_1 h8) ?_
    intro x10 f11 h12 h13
    rcases zcut a0.toInt x10.toInt with h14 | h14
    · skip
      refine w_cge_f dX8_isBoy_12 (t := 19) rfl (by omega) ?_
      refine w_ic dX8_isBoy_15 zi_1 ?_
      refine w_gt dX8_isBoy_16 (t := 20) rfl ?_
      refine w_en dX8_isBoy_20 rfl ?_
      show ZW _ _ _ _ _ _ _ (5, [some (.ref 0), some (.int a0), some (.int a1)], [.int 1], M0)
      refine w_ieq_f dX8_dreams_5 (t := 35) rfl (by have := zt_1; omega) ?_
      refine w_lo dX8_dreams_8 rfl rfl rfl rfl ?_
      refine w_lo dX8_dreams_9 rfl rfl rfl rfl ?_
      refine w_iv dX8_dreams_10 rfl rfl (As := [.int a1]) rfl rfl hJ0.1.1 zs_0 (Nat.le_of_ble_eq_true rfl) ?_
      refine ZV.of (ini := false) rfl (Nat.le_of_ble_eq_true rfl) (by decide +kernel) ?_
      show ZW _ _ _ _ _ _ _ (0, [some (.ref 0), some (.int a1)], [], M0)
      refine w_lo dX8_isDream_0 rfl rfl rfl rfl ?_
      rcases zcut a1.toInt (0 : Int) with h15 | h15
      · skip
        refine w_ilt_t dX8_isDream_1 (t := 19) rfl (by omega) ?_
        refine w_ic dX8_isDream_19 zi_0 ?_
        refine w_en dX8_isDream_20 rfl ?_
        show ZW _ _ _ _ _ _ _ (13, [some (.ref 0), some (.int a0), some (.int a1)], [.int 0], M0)
        refine w_ieq_t dX8_dreams_13 (t := 35) rfl (by have := zt_0; omega) ?_
        refine w_lo dX8_dreams_35 rfl rfl rfl rfl ?_
        refine w_ic dX8_dreams_36 zi_2 ?_
        refine w_iv dX8_dreams_37 rfl rfl (As := [.int 2]) rfl rfl hJ0.1.1 zs_0 (Nat.le_of_ble_eq_true rfl) ?_
        refine ZV.imp (k_2050 2 (by have := zt_2; omega) (by have := zt_2; omega) hN hJ0.1) ?_
        rintro _ ⟨M16, rfl, hJ17, hq18⟩
        have hJ19 := zJ_trans hJ0 hJ17 (zSub_cons (fun _ _ h h' hk => zIR_s (zIR_s (zIR_s (zIR_s (zIR_s (zIR_s (zIR_s (zIR_s (zIR_s (zIR_s (zIR_s (zIR_a (by omega) (by omega))))))))))))) zSub_nil)
        show ZW _ _ _ _ _ _ _ (40, [some (.ref 0), some (.int a0), some (.int a1)], [], M16)
        refine w_ic dX8_dreams_40 zi_m1 ?_
        refine w_en dX8_dreams_41 rfl ?_
        exact ⟨_, _, rfl, (by have := zt_m1; omega), (by have := zt_m1; omega), hJ19, trivial⟩
      · skip
        refine w_ilt_f dX8_isDream_1 (t := 19) rfl (by omega) ?_
        refine w_lo dX8_isDream_4 rfl rfl rfl rfl ?_
        refine w_lo dX8_isDream_5 rfl rfl rfl rfl ?_
        refine w_gf dX8_isDream_6 rfl hJ0.1.1 zs_0 f7 ?_
        refine w_gfi dX8_isDream_9 rfl hJ0.1 (zs_1_0 h8) (Nat.le_of_ble_eq_true rfl) (zo_1_0_2 h8) ?_
        intro x20 f21 h22 h23
        rcases zcut a1.toInt x20.toInt with h24 | h24
        · skip
          refine w_cge_f dX8_isDream_12 (t := 19) rfl (by omega) ?_
          refine w_ic dX8_isDream_15 zi_1 ?_
          refine w_gt dX8_isDream_16 (t := 20) rfl ?_
          refine w_en dX8_isDream_20 rfl ?_
          show ZW _ _ _ _ _ _ _ (13, [some (.ref 0), some (.int a0), some (.int a1)], [.int 1], M0)
          refine w_ieq_f dX8_dreams_13 (t := 35) rfl (by have := zt_1; omega) ?_
          refine w_lo dX8_dreams_16 rfl rfl rfl rfl ?_
          refine w_gf dX8_dreams_17 rfl hJ0.1.1 zs_0 (zr_0_7 hJ0.1) ?_
          refine w_lo dX8_dreams_20 rfl rfl rfl rfl ?_
          refine w_gf dX8_dreams_21 rfl hJ0.1.1 zs_0 f7 ?_
          refine w_lo dX8_dreams_24 rfl rfl rfl rfl ?_
          refine w_gf dX8_dreams_25 rfl hJ0.1.1 zs_0 (zr_0_4 hJ0.1) ?_
          refine w_lo dX8_dreams_28 rfl rfl rfl rfl ?_
          refine w_iv dX8_dreams_29 rfl rfl (As := [.ref b6, .ref 49, .int a0]) rfl rfl hJ0.1.1 zs_359 (Nat.le_of_ble_eq_true rfl) ?_
          refine ZV.imp (k_770 b6 h8 49 hb_6_49 a0 (by omega) (by omega) hN hJ0.1) ?_
          rintro _ ⟨x28, M25, rfl, h29, h30, hJ26, hq27⟩
          have hJ31 := zJ_trans hJ0 hJ26 zSub_nil
          show ZW _ _ _ _ _ _ _ (32, [some (.ref 0), some (.int a0), some (.int a1)], [.int x28], M25)
          rcases Int.decEq x28.toInt (0 : Int) with h32 | h32
          · skip
            refine w_ine_t dX8_dreams_32 (t := 42) rfl (by omega) ?_
            refine w_lo dX8_dreams_42 rfl rfl rfl rfl ?_
            refine w_iv dX8_dreams_43 rfl rfl (As := []) rfl rfl hJ31.1.1 zs_0 (Nat.le_of_ble_eq_true rfl) ?_
            refine ZV.imp (k_2074 hN hJ31.1) ?_
            rintro _ ⟨M33, rfl, hJ34, hq35⟩
            have hJ36 := zJ_trans hJ31 hJ34 (zSub_cons (fun _ _ h h' hk => zIR_e (by omega) (by omega) hk) (zSub_cons (fun _ _ h h' hk => zIR_s (zIR_e (by omega) (by omega) hk)) (zSub_cons (fun _ _ h h' hk => zIR_s (zIR_s (zIR_e (by omega) (by omega) hk))) (zSub_cons (fun _ _ h h' hk => zIR_s (zIR_s (zIR_s (zIR_e (by omega) (by omega) hk)))) (zSub_cons (fun _ _ h h' hk => zIR_s (zIR_s (zIR_s (zIR_s (zIR_s (zIR_s (zIR_s (zIR_s (zIR_s (zIR_a (by omega) (by omega))))))))))) (zSub_cons (fun _ _ h h' hk => zIR_s (zIR_s (zIR_s (zIR_s (zIR_s (zIR_s (zIR_s (zIR_s (zIR_s (zIR_s (zIR_s (zIR_s (zIR_s (zIR_e (by omega) (by omega) hk)))))))))))))) (zSub_cons (fun _ _ h h' hk => zIR_s (zIR_s (zIR_s (zIR_s (zIR_s (zIR_s (zIR_s (zIR_s (zIR_s (zIR_s (zIR_s (zIR_s (zIR_s (zIR_s (zIR_e (by omega) (by omega) hk))))))))))))))) zSub_nil)))))))
            show ZW _ _ _ _ _ _ _ (46, [some (.ref 0), some (.int a0), some (.int a1)], [], M33)
            refine w_lo dX8_dreams_46 rfl rfl rfl rfl ?_
            refine w_gf dX8_dreams_47 rfl hJ36.1.1 zs_0 (zr_0_7 hJ36.1) ?_
            refine w_lo dX8_dreams_50 rfl rfl rfl rfl ?_
            have f37 := (hJ34.2 (0) 3 (zNI_k (by decide) (by decide) (zNI_k (by decide) (by decide) (zNI_k (by decide) (by decide) (zNI_k (by decide) (by decide) (zNI (by omega) (zNI_k (by decide) (by decide) (zNI_k (by decide) (by decide) zNI_nil)))))))).trans ((hJ26.2 (0) 3 zNI_nil).trans (f7))
            refine w_gf dX8_dreams_51 rfl hJ36.1.1 zs_0 f37 ?_
            refine w_lo dX8_dreams_54 rfl rfl rfl rfl ?_
            refine w_gf dX8_dreams_55 rfl hJ36.1.1 zs_0 (zr_0_4 hJ36.1) ?_
            refine w_lo dX8_dreams_58 rfl rfl rfl rfl ?_
            refine w_lo dX8_dreams_59 rfl rfl rfl rfl ?_
            refine w_ic dX8_dreams_60 zi_0 ?_
            have f40 := (hJ34.2 (49) 14 (zNI_k (by decide) (by decide) (zNI_k (by decide) (by decide) (zNI_k (by decide) (by decide) (zNI_k (by decide) (by decide) (zNI (by omega) (zNI (by omega) (zNI_k (by decide) (by decide) zNI_nil)))))))).trans ((hJ26.2 (49) 14 zNI_nil).trans (hftv))
            refine w_iv dX8_dreams_61 rfl rfl (As := [.ref b6, .ref 49, .int a0, .int a1, .int 0]) rfl rfl hJ36.1.1 zs_359 (Nat.le_of_ble_eq_true rfl) ?_
            refine ZV.imp (k_771 b6 h8 49 hb_6_49 a0 (by omega) (by omega) a1 (by omega) (by omega) 0 (by have := zt_0; omega) (by have := zt_0; omega) tv f40 (by have := zt_0; omega) (by have := zt_0; omega) hN hJ36.1) ?_
            rintro _ ⟨x42, M38, rfl, h43, h44, hJ39, hq41⟩
            have hJ45 := zJ_trans hJ36 hJ39 (zSub_cons (fun _ _ h h' hk => ((zDm_or h8).elim (fun e => zIR_s (zIR_s (zIR_s (zIR_s (zIR_s (zIR_a (by omega) (by omega))))))) (fun e => zIR_s (zIR_s (zIR_s (zIR_s (zIR_s (zIR_s (zIR_a (by omega) (by omega)))))))))) (zSub_cons (fun _ _ h h' hk => zIR_s (zIR_s (zIR_s (zIR_s (zIR_s (zIR_s (zIR_s (zIR_a (by omega) (by omega))))))))) (zSub_cons (fun _ _ h h' hk => zIR_s (zIR_s (zIR_s (zIR_s (zIR_s (zIR_s (zIR_s (zIR_s (zIR_a (by omega) (by omega)))))))))) (zSub_cons (fun _ _ h h' hk => zIR_s (zIR_s (zIR_s (zIR_s (zIR_s (zIR_s (zIR_s (zIR_s (zIR_s (zIR_s (zIR_s (zIR_s (zIR_e (by omega) (by omega) hk))))))))))))) (zSub_cons (fun _ _ h h' hk => zIR_s (zIR_s (zIR_s (zIR_s (zIR_e (by omega) (by omega) hk))))) (zSub_cons (fun _ _ h h' hk => zIR_s (zIR_s (zIR_s (zIR_s (zIR_s (zIR_s (zIR_s (zIR_s (zIR_s (zIR_s (zIR_a (by omega) (by omega)))))))))))) zSub_nil))))))
            obtain ⟨x46, f47, h48, -⟩ := hq41
            have := zt_0
            show ZW _ _ _ _ _ _ _ (64, [some (.ref 0), some (.int a0), some (.int a1)], [.int x42], M38)
            refine w_eni dX8_dreams_64 rfl rfl ?_
            exact ⟨_, _, rfl, (by omega), (by omega), hJ45, trivial⟩
          · skip
            refine w_ine_f dX8_dreams_32 (t := 42) rfl (by omega) ?_
            refine w_lo dX8_dreams_35 rfl rfl rfl rfl ?_
            refine w_ic dX8_dreams_36 zi_2 ?_
            refine w_iv dX8_dreams_37 rfl rfl (As := [.int 2]) rfl rfl hJ31.1.1 zs_0 (Nat.le_of_ble_eq_true rfl) ?_
            refine ZV.imp (k_2050 2 (by have := zt_2; omega) (by have := zt_2; omega) hN hJ31.1) ?_
            rintro _ ⟨M49, rfl, hJ50, hq51⟩
            have hJ52 := zJ_trans hJ31 hJ50 (zSub_cons (fun _ _ h h' hk => zIR_s (zIR_s (zIR_s (zIR_s (zIR_s (zIR_s (zIR_s (zIR_s (zIR_s (zIR_s (zIR_s (zIR_a (by omega) (by omega))))))))))))) zSub_nil)
            show ZW _ _ _ _ _ _ _ (40, [some (.ref 0), some (.int a0), some (.int a1)], [], M49)
            refine w_ic dX8_dreams_40 zi_m1 ?_
            refine w_en dX8_dreams_41 rfl ?_
            exact ⟨_, _, rfl, (by have := zt_m1; omega), (by have := zt_m1; omega), hJ52, trivial⟩
        · skip
          refine w_cge_t dX8_isDream_12 (t := 19) rfl (by omega) ?_
          refine w_ic dX8_isDream_19 zi_0 ?_
          refine w_en dX8_isDream_20 rfl ?_
          show ZW _ _ _ _ _ _ _ (13, [some (.ref 0), some (.int a0), some (.int a1)], [.int 0], M0)
          refine w_ieq_t dX8_dreams_13 (t := 35) rfl (by have := zt_0; omega) ?_
          refine w_lo dX8_dreams_35 rfl rfl rfl rfl ?_
          refine w_ic dX8_dreams_36 zi_2 ?_
          refine w_iv dX8_dreams_37 rfl rfl (As := [.int 2]) rfl rfl hJ0.1.1 zs_0 (Nat.le_of_ble_eq_true rfl) ?_
          refine ZV.imp (k_2050 2 (by have := zt_2; omega) (by have := zt_2; omega) hN hJ0.1) ?_
          rintro _ ⟨M53, rfl, hJ54, hq55⟩
          have hJ56 := zJ_trans hJ0 hJ54 (zSub_cons (fun _ _ h h' hk => zIR_s (zIR_s (zIR_s (zIR_s (zIR_s (zIR_s (zIR_s (zIR_s (zIR_s (zIR_s (zIR_s (zIR_a (by omega) (by omega))))))))))))) zSub_nil)
          show ZW _ _ _ _ _ _ _ (40, [some (.ref 0), some (.int a0), some (.int a1)], [], M53)
          refine w_ic dX8_dreams_40 zi_m1 ?_
          refine w_en dX8_dreams_41 rfl ?_
          exact ⟨_, _, rfl, (by have := zt_m1; omega), (by have := zt_m1; omega), hJ56, trivial⟩
    · skip
      refine w_cge_t dX8_isBoy_12 (t := 19) rfl (by omega) ?_
      refine w_ic dX8_isBoy_19 zi_0 ?_
      refine w_en dX8_isBoy_20 rfl ?_
      show ZW _ _ _ _ _ _ _ (5, [some (.ref 0), some (.int a0), some (.int a1)], [.int 0], M0)
      refine w_ieq_t dX8_dreams_5 (t := 35) rfl (by have := zt_0; omega) ?_
      refine w_lo dX8_dreams_35 rfl rfl rfl rfl ?_
      refine w_ic dX8_dreams_36 zi_2 ?_
      refine w_iv dX8_dreams_37 rfl rfl (As := [.int 2]) rfl rfl hJ0.1.1 zs_0 (Nat.le_of_ble_eq_true rfl) ?_
      refine ZV.imp (k_2050 2 (by have := zt_2; omega) (by have := zt_2; omega) hN hJ0.1) ?_
      rintro _ ⟨M57, rfl, hJ58, hq59⟩
      have hJ60 := zJ_trans hJ0 hJ58 (zSub_cons (fun _ _ h h' hk => zIR_s (zIR_s (zIR_s (zIR_s (zIR_s (zIR_s (zIR_s (zIR_s (zIR_s (zIR_s (zIR_s (zIR_a (by omega) (by omega))))))))))))) zSub_nil)
      show ZW _ _ _ _ _ _ _ (40, [some (.ref 0), some (.int a0), some (.int a1)], [], M57)
      refine w_ic dX8_dreams_40 zi_m1 ?_
      refine w_en dX8_dreams_41 rfl ?_
      exact ⟨_, _, rfl, (by have := zt_m1; omega), (by have := zt_m1; omega), hJ60, trivial⟩
set_option maxRecDepth 100000 in
theorem k_2076 {X : List Int32} {d N : Nat} {M0 : zM} (a0 : Int32) (a1 : Int32) (ha10 : (0 : Int) ≤ a1.toInt) (ha11 : a1.toInt ≤ 1) (hN : N ≤ 600) (hB0 : zB N M0) : ZV X (d + 5) 2076 [.ref 0, .int a0, .int a1] M0 (zRI N [(77, 78, 0), (79, 346, 0), (77, 78, 1), (79, 346, 1), (51, 55, 1000), (80, 359, 1000), (385, 386, 1000), (79, 346, 14), (0, 1, 15)] M0 (0) (1) (fun _ _ => True)) := by
  have hJ0 : zJ N [(77, 78, 0), (79, 346, 0), (77, 78, 1), (79, 346, 1), (51, 55, 1000), (80, 359, 1000), (385, 386, 1000), (79, 346, 14), (0, 1, 15)] M0 M0 := zJ_refl hB0
  refine ZV.of (ini := false) rfl (Nat.le_of_ble_eq_true rfl) (by decide +kernel) ?_
  show ZW _ _ _ _ _ _ _ (0, [some (.ref 0), some (.int a0), some (.int a1)], [], M0)
  refine w_lo dX8_wake_0 rfl rfl rfl rfl ?_
  refine w_lo dX8_wake_1 rfl rfl rfl rfl ?_
  refine w_iv dX8_wake_2 rfl rfl (As := [.int a0]) rfl rfl hJ0.1.1 zs_0 (Nat.le_of_ble_eq_true rfl) ?_
  refine ZV.of (ini := false) rfl (Nat.le_of_ble_eq_true rfl) (by decide +kernel) ?_
  show ZW _ _ _ _ _ _ _ (0, [some (.ref 0), some (.int a0)], [], M0)
  refine w_lo dX8_isBoy_0 rfl rfl rfl rfl ?_
  rcases zcut a0.toInt (0 : Int) with h1 | h1
  · skip
    refine w_ilt_t dX8_isBoy_1 (t := 19) rfl (by omega) ?_
    refine w_ic dX8_isBoy_19 zi_0 ?_
    refine w_en dX8_isBoy_20 rfl ?_
    show ZW _ _ _ _ _ _ _ (5, [some (.ref 0), some (.int a0), some (.int a1)], [.int 0], M0)
    refine w_ieq_t dX8_wake_5 (t := 21) rfl (by have := zt_0; omega) ?_
    refine w_lo dX8_wake_21 rfl rfl rfl rfl ?_
    refine w_ic dX8_wake_22 zi_2 ?_
    refine w_iv dX8_wake_23 rfl rfl (As := [.int 2]) rfl rfl hJ0.1.1 zs_0 (Nat.le_of_ble_eq_true rfl) ?_
    refine ZV.imp (k_2050 2 (by have := zt_2; omega) (by have := zt_2; omega) hN hJ0.1) ?_
    rintro _ ⟨M2, rfl, hJ3, hq4⟩
    have hJ5 := zJ_trans hJ0 hJ3 (zSub_cons (fun _ _ h h' hk => zIR_s (zIR_s (zIR_s (zIR_s (zIR_s (zIR_s (zIR_a (by omega) (by omega)))))))) zSub_nil)
    show ZW _ _ _ _ _ _ _ (26, [some (.ref 0), some (.int a0), some (.int a1)], [], M2)
    refine w_ic dX8_wake_26 zi_0 ?_
    refine w_en dX8_wake_27 rfl ?_
    exact ⟨_, _, rfl, (by have := zt_0; omega), (by have := zt_0; omega), hJ5, trivial⟩
  · skip
    refine w_ilt_f dX8_isBoy_1 (t := 19) rfl (by omega) ?_
    refine w_lo dX8_isBoy_4 rfl rfl rfl rfl ?_
    refine w_lo dX8_isBoy_5 rfl rfl rfl rfl ?_
    obtain ⟨b6, f7, h8⟩ := zd_0_3 hJ0.1
    have h9 := zDm_b h8
    refine w_gf dX8_isBoy_6 rfl hJ0.1.1 zs_0 f7 ?_
    refine w_gfi dX8_isBoy_9 rfl hJ0.1 (zs_1_0 h8) (Nat.le_of_ble_eq_true rfl) (zo_1_0_1 h8) ?_
    intro x10 f11 h12 h13
    rcases zcut a0.toInt x10.toInt with h14 | h14
    · skip
      refine w_cge_f dX8_isBoy_12 (t := 19) rfl (by omega) ?_
      refine w_ic dX8_isBoy_15 zi_1 ?_
      refine w_gt dX8_isBoy_16 (t := 20) rfl ?_
      refine w_en dX8_isBoy_20 rfl ?_
      show ZW _ _ _ _ _ _ _ (5, [some (.ref 0), some (.int a0), some (.int a1)], [.int 1], M0)
      refine w_ieq_f dX8_wake_5 (t := 21) rfl (by have := zt_1; omega) ?_
      refine w_lo dX8_wake_8 rfl rfl rfl rfl ?_
      refine w_gf dX8_wake_9 rfl hJ0.1.1 zs_0 (zr_0_4 hJ0.1) ?_
      refine w_gf dX8_wake_12 rfl hJ0.1.1 zs_49 (zr_49_3 hJ0.1) ?_
      refine w_lo dX8_wake_15 rfl rfl rfl rfl ?_
      refine w_bai dX8_wake_16 hJ0.1 zs_51 (by omega) (by omega) zu_51 ?_
      intro x18 f15 h16 h17
      refine w_lo dX8_wake_17 rfl rfl rfl rfl ?_
      rcases Int.decEq x18.toInt a1.toInt with h19 | h19
      · skip
        refine w_ceq_f dX8_wake_18 (t := 28) rfl (by omega) ?_
        refine w_lo dX8_wake_21 rfl rfl rfl rfl ?_
        refine w_ic dX8_wake_22 zi_2 ?_
        refine w_iv dX8_wake_23 rfl rfl (As := [.int 2]) rfl rfl hJ0.1.1 zs_0 (Nat.le_of_ble_eq_true rfl) ?_
        refine ZV.imp (k_2050 2 (by have := zt_2; omega) (by have := zt_2; omega) hN hJ0.1) ?_
        rintro _ ⟨M20, rfl, hJ21, hq22⟩
        have hJ23 := zJ_trans hJ0 hJ21 (zSub_cons (fun _ _ h h' hk => zIR_s (zIR_s (zIR_s (zIR_s (zIR_s (zIR_s (zIR_a (by omega) (by omega)))))))) zSub_nil)
        show ZW _ _ _ _ _ _ _ (26, [some (.ref 0), some (.int a0), some (.int a1)], [], M20)
        refine w_ic dX8_wake_26 zi_0 ?_
        refine w_en dX8_wake_27 rfl ?_
        exact ⟨_, _, rfl, (by have := zt_0; omega), (by have := zt_0; omega), hJ23, trivial⟩
      · skip
        refine w_ceq_t dX8_wake_18 (t := 28) rfl (by omega) ?_
        refine w_lo dX8_wake_28 rfl rfl rfl rfl ?_
        refine w_iv dX8_wake_29 rfl rfl (As := []) rfl rfl hJ0.1.1 zs_0 (Nat.le_of_ble_eq_true rfl) ?_
        refine ZV.imp (k_2074 hN hJ0.1) ?_
        rintro _ ⟨M24, rfl, hJ25, hq26⟩
        have hJ27 := zJ_trans hJ0 hJ25 (zSub_cons (fun _ _ h h' hk => zIR_e (by omega) (by omega) hk) (zSub_cons (fun _ _ h h' hk => zIR_s (zIR_e (by omega) (by omega) hk)) (zSub_cons (fun _ _ h h' hk => zIR_s (zIR_s (zIR_e (by omega) (by omega) hk))) (zSub_cons (fun _ _ h h' hk => zIR_s (zIR_s (zIR_s (zIR_e (by omega) (by omega) hk)))) (zSub_cons (fun _ _ h h' hk => zIR_s (zIR_s (zIR_s (zIR_s (zIR_s (zIR_a (by omega) (by omega))))))) (zSub_cons (fun _ _ h h' hk => zIR_s (zIR_s (zIR_s (zIR_s (zIR_s (zIR_s (zIR_s (zIR_e (by omega) (by omega) hk)))))))) (zSub_cons (fun _ _ h h' hk => zIR_s (zIR_s (zIR_s (zIR_s (zIR_s (zIR_s (zIR_s (zIR_s (zIR_e (by omega) (by omega) hk))))))))) zSub_nil)))))))
        show ZW _ _ _ _ _ _ _ (32, [some (.ref 0), some (.int a0), some (.int a1)], [], M24)
        refine w_lo dX8_wake_32 rfl rfl rfl rfl ?_
        rcases Int.decEq a1.toInt (0 : Int) with h28 | h28
        · skip
          refine w_ieq_f dX8_wake_33 (t := 47) rfl (by omega) ?_
          refine w_lo dX8_wake_36 rfl rfl rfl rfl ?_
          refine w_gf dX8_wake_37 rfl hJ27.1.1 zs_0 (zr_0_4 hJ27.1) ?_
          refine w_lo dX8_wake_40 rfl rfl rfl rfl ?_
          refine w_iv dX8_wake_41 rfl rfl (As := [.int a0]) rfl rfl hJ27.1.1 zs_49 (Nat.le_of_ble_eq_true rfl) ?_
          refine ZV.imp (k_1546 49 hb_6_49 a0 (by omega) (by omega) hN hJ27.1) ?_
          rintro _ ⟨M29, rfl, hJ30, hq31⟩
          have hJ32 := zJ_trans hJ27 hJ30 (zSub_cons (fun _ _ h h' hk => zIR_s (zIR_s (zIR_s (zIR_s (zIR_a (by omega) (by omega)))))) zSub_nil)
          show ZW _ _ _ _ _ _ _ (44, [some (.ref 0), some (.int a0), some (.int a1)], [], M29)
          refine w_gt dX8_wake_44 (t := 57) rfl ?_
          refine w_ic dX8_wake_57 zi_1 ?_
          refine w_en dX8_wake_58 rfl ?_
          exact ⟨_, _, rfl, (by have := zt_1; omega), (by have := zt_1; omega), hJ32, trivial⟩
        · skip
          refine w_ieq_t dX8_wake_33 (t := 47) rfl (by omega) ?_
          refine w_lo dX8_wake_47 rfl rfl rfl rfl ?_
          refine w_gf dX8_wake_48 rfl hJ27.1.1 zs_0 (zr_0_4 hJ27.1) ?_
          refine w_gf dX8_wake_51 rfl hJ27.1.1 zs_49 (zr_49_3 hJ27.1) ?_
          refine w_lo dX8_wake_54 rfl rfl rfl rfl ?_
          refine w_ic dX8_wake_55 zi_1 ?_
          refine w_bsi dX8_wake_56 hJ27 zs_51 (by omega) (by omega) zu_51 (by have := zt_1; omega) (by have := zt_1; omega) (zIR_s (zIR_s (zIR_s (zIR_s (zIR_a (by omega) (by omega)))))) ?_
          intro M33 hJ34 f35 hn36
          refine w_ic dX8_wake_57 zi_1 ?_
          refine w_en dX8_wake_58 rfl ?_
          exact ⟨_, _, rfl, (by have := zt_1; omega), (by have := zt_1; omega), hJ34, trivial⟩
    · skip
      refine w_cge_t dX8_isBoy_12 (t := 19) rfl (by omega) ?_
      refine w_ic dX8_isBoy_19 zi_0 ?_
      refine w_en dX8_isBoy_20 rfl ?_
      show ZW _ _ _ _ _ _ _ (5, [some (.ref 0), some (.int a0), some (.int a1)], [.int 0], M0)
      refine w_ieq_t dX8_wake_5 (t := 21) rfl (by have := zt_0; omega) ?_
      refine w_lo dX8_wake_21 rfl rfl rfl rfl ?_
      refine w_ic dX8_wake_22 zi_2 ?_
      refine w_iv dX8_wake_23 rfl rfl (As := [.int 2]) rfl rfl hJ0.1.1 zs_0 (Nat.le_of_ble_eq_true rfl) ?_
      refine ZV.imp (k_2050 2 (by have := zt_2; omega) (by have := zt_2; omega) hN hJ0.1) ?_
      rintro _ ⟨M37, rfl, hJ38, hq39⟩
      have hJ40 := zJ_trans hJ0 hJ38 (zSub_cons (fun _ _ h h' hk => zIR_s (zIR_s (zIR_s (zIR_s (zIR_s (zIR_s (zIR_a (by omega) (by omega)))))))) zSub_nil)
      show ZW _ _ _ _ _ _ _ (26, [some (.ref 0), some (.int a0), some (.int a1)], [], M37)
      refine w_ic dX8_wake_26 zi_0 ?_
      refine w_en dX8_wake_27 rfl ?_
      exact ⟨_, _, rfl, (by have := zt_0; omega), (by have := zt_0; omega), hJ40, trivial⟩
set_option maxRecDepth 100000 in
theorem k_2077 {X : List Int32} {d N : Nat} {M0 : zM} (a0 : Int32) (a1 : Int32) (ha10 : (0 : Int) ≤ a1.toInt) (ha11 : a1.toInt ≤ 1) (hN : N ≤ 600) (hB0 : zB N M0) : ZV X (d + 5) 2077 [.ref 0, .int a0, .int a1] M0 (zRI N [(77, 78, 0), (79, 346, 0), (77, 78, 1), (79, 346, 1), (60, 61, 1000), (80, 359, 1000), (385, 386, 1000), (79, 346, 14), (0, 1, 15)] M0 (0) (1) (fun _ _ => True)) := by
  have hJ0 : zJ N [(77, 78, 0), (79, 346, 0), (77, 78, 1), (79, 346, 1), (60, 61, 1000), (80, 359, 1000), (385, 386, 1000), (79, 346, 14), (0, 1, 15)] M0 M0 := zJ_refl hB0
  refine ZV.of (ini := false) rfl (Nat.le_of_ble_eq_true rfl) (by decide +kernel) ?_
  show ZW _ _ _ _ _ _ _ (0, [some (.ref 0), some (.int a0), some (.int a1)], [], M0)
  refine w_lo dX8_tie_0 rfl rfl rfl rfl ?_
  refine w_lo dX8_tie_1 rfl rfl rfl rfl ?_
  refine w_iv dX8_tie_2 rfl rfl (As := [.int a0]) rfl rfl hJ0.1.1 zs_0 (Nat.le_of_ble_eq_true rfl) ?_
  refine ZV.of (ini := false) rfl (Nat.le_of_ble_eq_true rfl) (by decide +kernel) ?_
  show ZW _ _ _ _ _ _ _ (0, [some (.ref 0), some (.int a0)], [], M0)
  refine w_lo dX8_isKnot_0 rfl rfl rfl rfl ?_
  rcases zcut a0.toInt (0 : Int) with h1 | h1
  · skip
    refine w_ilt_t dX8_isKnot_1 (t := 21) rfl (by omega) ?_
    refine w_ic dX8_isKnot_21 zi_0 ?_
    refine w_en dX8_isKnot_22 rfl ?_
    show ZW _ _ _ _ _ _ _ (5, [some (.ref 0), some (.int a0), some (.int a1)], [.int 0], M0)
    refine w_ieq_t dX8_tie_5 (t := 21) rfl (by have := zt_0; omega) ?_
    refine w_lo dX8_tie_21 rfl rfl rfl rfl ?_
    refine w_ic dX8_tie_22 zi_3 ?_
    refine w_iv dX8_tie_23 rfl rfl (As := [.int 3]) rfl rfl hJ0.1.1 zs_0 (Nat.le_of_ble_eq_true rfl) ?_
    refine ZV.imp (k_2050 3 (by have := zt_3; omega) (by have := zt_3; omega) hN hJ0.1) ?_
    rintro _ ⟨M2, rfl, hJ3, hq4⟩
    have hJ5 := zJ_trans hJ0 hJ3 (zSub_cons (fun _ _ h h' hk => zIR_s (zIR_s (zIR_s (zIR_s (zIR_s (zIR_s (zIR_a (by omega) (by omega)))))))) zSub_nil)
    show ZW _ _ _ _ _ _ _ (26, [some (.ref 0), some (.int a0), some (.int a1)], [], M2)
    refine w_ic dX8_tie_26 zi_0 ?_
    refine w_en dX8_tie_27 rfl ?_
    exact ⟨_, _, rfl, (by have := zt_0; omega), (by have := zt_0; omega), hJ5, trivial⟩
  · skip
    refine w_ilt_f dX8_isKnot_1 (t := 21) rfl (by omega) ?_
    refine w_lo dX8_isKnot_4 rfl rfl rfl rfl ?_
    refine w_lo dX8_isKnot_5 rfl rfl rfl rfl ?_
    refine w_gf dX8_isKnot_6 rfl hJ0.1.1 zs_0 (zr_0_4 hJ0.1) ?_
    refine w_gfi dX8_isKnot_9 rfl hJ0.1 zs_49 (Nat.le_of_ble_eq_true rfl) zo_49_0 ?_
    intro x6 f7 h8 h9
    refine w_ic dX8_isKnot_12 zi_1 ?_
    refine w_sub dX8_isKnot_13 (by have := zt_1; omega) ?_
    intro x10 h11
    have := zt_1
    rcases zcut a0.toInt x10.toInt with h12 | h12
    · skip
      refine w_cge_f dX8_isKnot_14 (t := 21) rfl (by omega) ?_
      refine w_ic dX8_isKnot_17 zi_1 ?_
      refine w_gt dX8_isKnot_18 (t := 22) rfl ?_
      refine w_en dX8_isKnot_22 rfl ?_
      show ZW _ _ _ _ _ _ _ (5, [some (.ref 0), some (.int a0), some (.int a1)], [.int 1], M0)
      refine w_ieq_f dX8_tie_5 (t := 21) rfl (by have := zt_1; omega) ?_
      refine w_lo dX8_tie_8 rfl rfl rfl rfl ?_
      refine w_gf dX8_tie_9 rfl hJ0.1.1 zs_0 (zr_0_4 hJ0.1) ?_
      refine w_gf dX8_tie_12 rfl hJ0.1.1 zs_49 (zr_49_12 hJ0.1) ?_
      refine w_lo dX8_tie_15 rfl rfl rfl rfl ?_
      refine w_bai dX8_tie_16 hJ0.1 zs_60 (by omega) (by omega) zu_60 ?_
      intro x16 f13 h14 h15
      refine w_lo dX8_tie_17 rfl rfl rfl rfl ?_
      rcases Int.decEq x16.toInt a1.toInt with h17 | h17
      · skip
        refine w_cne_t dX8_tie_18 (t := 28) rfl (by omega) ?_
        refine w_lo dX8_tie_28 rfl rfl rfl rfl ?_
        refine w_iv dX8_tie_29 rfl rfl (As := []) rfl rfl hJ0.1.1 zs_0 (Nat.le_of_ble_eq_true rfl) ?_
        refine ZV.imp (k_2074 hN hJ0.1) ?_
        rintro _ ⟨M18, rfl, hJ19, hq20⟩
        have hJ21 := zJ_trans hJ0 hJ19 (zSub_cons (fun _ _ h h' hk => zIR_e (by omega) (by omega) hk) (zSub_cons (fun _ _ h h' hk => zIR_s (zIR_e (by omega) (by omega) hk)) (zSub_cons (fun _ _ h h' hk => zIR_s (zIR_s (zIR_e (by omega) (by omega) hk))) (zSub_cons (fun _ _ h h' hk => zIR_s (zIR_s (zIR_s (zIR_e (by omega) (by omega) hk)))) (zSub_cons (fun _ _ h h' hk => zIR_s (zIR_s (zIR_s (zIR_s (zIR_s (zIR_a (by omega) (by omega))))))) (zSub_cons (fun _ _ h h' hk => zIR_s (zIR_s (zIR_s (zIR_s (zIR_s (zIR_s (zIR_s (zIR_e (by omega) (by omega) hk)))))))) (zSub_cons (fun _ _ h h' hk => zIR_s (zIR_s (zIR_s (zIR_s (zIR_s (zIR_s (zIR_s (zIR_s (zIR_e (by omega) (by omega) hk))))))))) zSub_nil)))))))
        show ZW _ _ _ _ _ _ _ (32, [some (.ref 0), some (.int a0), some (.int a1)], [], M18)
        refine w_lo dX8_tie_32 rfl rfl rfl rfl ?_
        refine w_gf dX8_tie_33 rfl hJ21.1.1 zs_0 (zr_0_4 hJ21.1) ?_
        refine w_gf dX8_tie_36 rfl hJ21.1.1 zs_49 (zr_49_12 hJ21.1) ?_
        refine w_lo dX8_tie_39 rfl rfl rfl rfl ?_
        refine w_lo dX8_tie_40 rfl rfl rfl rfl ?_
        refine w_bsi dX8_tie_41 hJ21 zs_60 (by omega) (by omega) zu_60 (by omega) (by omega) (zIR_s (zIR_s (zIR_s (zIR_s (zIR_a (by omega) (by omega)))))) ?_
        intro M22 hJ23 f24 hn25
        refine w_ic dX8_tie_42 zi_1 ?_
        refine w_en dX8_tie_43 rfl ?_
        exact ⟨_, _, rfl, (by have := zt_1; omega), (by have := zt_1; omega), hJ23, trivial⟩
      · skip
        refine w_cne_f dX8_tie_18 (t := 28) rfl (by omega) ?_
        refine w_lo dX8_tie_21 rfl rfl rfl rfl ?_
        refine w_ic dX8_tie_22 zi_3 ?_
        refine w_iv dX8_tie_23 rfl rfl (As := [.int 3]) rfl rfl hJ0.1.1 zs_0 (Nat.le_of_ble_eq_true rfl) ?_
        refine ZV.imp (k_2050 3 (by have := zt_3; omega) (by have := zt_3; omega) hN hJ0.1) ?_
        rintro _ ⟨M26, rfl, hJ27, hq28⟩
        have hJ29 := zJ_trans hJ0 hJ27 (zSub_cons (fun _ _ h h' hk => zIR_s (zIR_s (zIR_s (zIR_s (zIR_s (zIR_s (zIR_a (by omega) (by omega)))))))) zSub_nil)
        show ZW _ _ _ _ _ _ _ (26, [some (.ref 0), some (.int a0), some (.int a1)], [], M26)
        refine w_ic dX8_tie_26 zi_0 ?_
        refine w_en dX8_tie_27 rfl ?_
        exact ⟨_, _, rfl, (by have := zt_0; omega), (by have := zt_0; omega), hJ29, trivial⟩
    · skip
      refine w_cge_t dX8_isKnot_14 (t := 21) rfl (by omega) ?_
      refine w_ic dX8_isKnot_21 zi_0 ?_
      refine w_en dX8_isKnot_22 rfl ?_
      show ZW _ _ _ _ _ _ _ (5, [some (.ref 0), some (.int a0), some (.int a1)], [.int 0], M0)
      refine w_ieq_t dX8_tie_5 (t := 21) rfl (by have := zt_0; omega) ?_
      refine w_lo dX8_tie_21 rfl rfl rfl rfl ?_
      refine w_ic dX8_tie_22 zi_3 ?_
      refine w_iv dX8_tie_23 rfl rfl (As := [.int 3]) rfl rfl hJ0.1.1 zs_0 (Nat.le_of_ble_eq_true rfl) ?_
      refine ZV.imp (k_2050 3 (by have := zt_3; omega) (by have := zt_3; omega) hN hJ0.1) ?_
      rintro _ ⟨M30, rfl, hJ31, hq32⟩
      have hJ33 := zJ_trans hJ0 hJ31 (zSub_cons (fun _ _ h h' hk => zIR_s (zIR_s (zIR_s (zIR_s (zIR_s (zIR_s (zIR_a (by omega) (by omega)))))))) zSub_nil)
      show ZW _ _ _ _ _ _ _ (26, [some (.ref 0), some (.int a0), some (.int a1)], [], M30)
      refine w_ic dX8_tie_26 zi_0 ?_
      refine w_en dX8_tie_27 rfl ?_
      exact ⟨_, _, rfl, (by have := zt_0; omega), (by have := zt_0; omega), hJ33, trivial⟩
set_option maxRecDepth 100000 in
theorem k_2078 {X : List Int32} {d N : Nat} {M0 : zM} (a0 : Int32) (a1 : Int32) (hN : N ≤ 600) (hB0 : zB N M0) : ZV X (d + 5) 2078 [.ref 0, .int a0, .int a1] M0 (zRI N [(77, 78, 0), (79, 346, 0), (77, 78, 1), (79, 346, 1), (61, 62, 1000), (80, 359, 1000), (385, 386, 1000), (79, 346, 14), (0, 1, 15)] M0 (-1) (255) (fun _ _ => True)) := by
  have hJ0 : zJ N [(77, 78, 0), (79, 346, 0), (77, 78, 1), (79, 346, 1), (61, 62, 1000), (80, 359, 1000), (385, 386, 1000), (79, 346, 14), (0, 1, 15)] M0 M0 := zJ_refl hB0
  refine ZV.of (ini := false) rfl (Nat.le_of_ble_eq_true rfl) (by decide +kernel) ?_
  show ZW _ _ _ _ _ _ _ (0, [some (.ref 0), some (.int a0), some (.int a1), none], [], M0)
  refine w_lo dX8_slack_0 rfl rfl rfl rfl ?_
  refine w_lo dX8_slack_1 rfl rfl rfl rfl ?_
  refine w_iv dX8_slack_2 rfl rfl (As := [.int a0]) rfl rfl hJ0.1.1 zs_0 (Nat.le_of_ble_eq_true rfl) ?_
  refine ZV.of (ini := false) rfl (Nat.le_of_ble_eq_true rfl) (by decide +kernel) ?_
  show ZW _ _ _ _ _ _ _ (0, [some (.ref 0), some (.int a0)], [], M0)
  refine w_lo dX8_isKnot_0 rfl rfl rfl rfl ?_
  rcases zcut a0.toInt (0 : Int) with h1 | h1
  · skip
    refine w_ilt_t dX8_isKnot_1 (t := 21) rfl (by omega) ?_
    refine w_ic dX8_isKnot_21 zi_0 ?_
    refine w_en dX8_isKnot_22 rfl ?_
    show ZW _ _ _ _ _ _ _ (5, [some (.ref 0), some (.int a0), some (.int a1), none], [.int 0], M0)
    refine w_ieq_t dX8_slack_5 (t := 18) rfl (by have := zt_0; omega) ?_
    refine w_lo dX8_slack_18 rfl rfl rfl rfl ?_
    refine w_ic dX8_slack_19 zi_3 ?_
    refine w_iv dX8_slack_20 rfl rfl (As := [.int 3]) rfl rfl hJ0.1.1 zs_0 (Nat.le_of_ble_eq_true rfl) ?_
    refine ZV.imp (k_2050 3 (by have := zt_3; omega) (by have := zt_3; omega) hN hJ0.1) ?_
    rintro _ ⟨M2, rfl, hJ3, hq4⟩
    have hJ5 := zJ_trans hJ0 hJ3 (zSub_cons (fun _ _ h h' hk => zIR_s (zIR_s (zIR_s (zIR_s (zIR_s (zIR_s (zIR_a (by omega) (by omega)))))))) zSub_nil)
    show ZW _ _ _ _ _ _ _ (23, [some (.ref 0), some (.int a0), some (.int a1), none], [], M2)
    refine w_ic dX8_slack_23 zi_m1 ?_
    refine w_en dX8_slack_24 rfl ?_
    exact ⟨_, _, rfl, (by have := zt_m1; omega), (by have := zt_m1; omega), hJ5, trivial⟩
  · skip
    refine w_ilt_f dX8_isKnot_1 (t := 21) rfl (by omega) ?_
    refine w_lo dX8_isKnot_4 rfl rfl rfl rfl ?_
    refine w_lo dX8_isKnot_5 rfl rfl rfl rfl ?_
    refine w_gf dX8_isKnot_6 rfl hJ0.1.1 zs_0 (zr_0_4 hJ0.1) ?_
    refine w_gfi dX8_isKnot_9 rfl hJ0.1 zs_49 (Nat.le_of_ble_eq_true rfl) zo_49_0 ?_
    intro x6 f7 h8 h9
    refine w_ic dX8_isKnot_12 zi_1 ?_
    refine w_sub dX8_isKnot_13 (by have := zt_1; omega) ?_
    intro x10 h11
    have := zt_1
    rcases zcut a0.toInt x10.toInt with h12 | h12
    · skip
      refine w_cge_f dX8_isKnot_14 (t := 21) rfl (by omega) ?_
      refine w_ic dX8_isKnot_17 zi_1 ?_
      refine w_gt dX8_isKnot_18 (t := 22) rfl ?_
      refine w_en dX8_isKnot_22 rfl ?_
      show ZW _ _ _ _ _ _ _ (5, [some (.ref 0), some (.int a0), some (.int a1), none], [.int 1], M0)
      refine w_ieq_f dX8_slack_5 (t := 18) rfl (by have := zt_1; omega) ?_
      refine w_lo dX8_slack_8 rfl rfl rfl rfl ?_
      rcases zcut a1.toInt (0 : Int) with h13 | h13
      · skip
        refine w_ilt_t dX8_slack_9 (t := 18) rfl (by omega) ?_
        refine w_lo dX8_slack_18 rfl rfl rfl rfl ?_
        refine w_ic dX8_slack_19 zi_3 ?_
        refine w_iv dX8_slack_20 rfl rfl (As := [.int 3]) rfl rfl hJ0.1.1 zs_0 (Nat.le_of_ble_eq_true rfl) ?_
        refine ZV.imp (k_2050 3 (by have := zt_3; omega) (by have := zt_3; omega) hN hJ0.1) ?_
        rintro _ ⟨M14, rfl, hJ15, hq16⟩
        have hJ17 := zJ_trans hJ0 hJ15 (zSub_cons (fun _ _ h h' hk => zIR_s (zIR_s (zIR_s (zIR_s (zIR_s (zIR_s (zIR_a (by omega) (by omega)))))))) zSub_nil)
        show ZW _ _ _ _ _ _ _ (23, [some (.ref 0), some (.int a0), some (.int a1), none], [], M14)
        refine w_ic dX8_slack_23 zi_m1 ?_
        refine w_en dX8_slack_24 rfl ?_
        exact ⟨_, _, rfl, (by have := zt_m1; omega), (by have := zt_m1; omega), hJ17, trivial⟩
      · skip
        refine w_ilt_f dX8_slack_9 (t := 18) rfl (by omega) ?_
        refine w_lo dX8_slack_12 rfl rfl rfl rfl ?_
        refine w_bi dX8_slack_13 (c := 99) (by decide) ?_
        rcases zcut (99 : Int) a1.toInt with h18 | h18
        · skip
          refine w_cle_f dX8_slack_15 (t := 25) rfl (by have := zt_99; omega) ?_
          refine w_lo dX8_slack_18 rfl rfl rfl rfl ?_
          refine w_ic dX8_slack_19 zi_3 ?_
          refine w_iv dX8_slack_20 rfl rfl (As := [.int 3]) rfl rfl hJ0.1.1 zs_0 (Nat.le_of_ble_eq_true rfl) ?_
          refine ZV.imp (k_2050 3 (by have := zt_3; omega) (by have := zt_3; omega) hN hJ0.1) ?_
          rintro _ ⟨M19, rfl, hJ20, hq21⟩
          have hJ22 := zJ_trans hJ0 hJ20 (zSub_cons (fun _ _ h h' hk => zIR_s (zIR_s (zIR_s (zIR_s (zIR_s (zIR_s (zIR_a (by omega) (by omega)))))))) zSub_nil)
          show ZW _ _ _ _ _ _ _ (23, [some (.ref 0), some (.int a0), some (.int a1), none], [], M19)
          refine w_ic dX8_slack_23 zi_m1 ?_
          refine w_en dX8_slack_24 rfl ?_
          exact ⟨_, _, rfl, (by have := zt_m1; omega), (by have := zt_m1; omega), hJ22, trivial⟩
        · skip
          refine w_cle_t dX8_slack_15 (t := 25) rfl (by have := zt_99; omega) ?_
          refine w_lo dX8_slack_25 rfl rfl rfl rfl ?_
          refine w_iv dX8_slack_26 rfl rfl (As := []) rfl rfl hJ0.1.1 zs_0 (Nat.le_of_ble_eq_true rfl) ?_
          refine ZV.imp (k_2074 hN hJ0.1) ?_
          rintro _ ⟨M23, rfl, hJ24, hq25⟩
          have hJ26 := zJ_trans hJ0 hJ24 (zSub_cons (fun _ _ h h' hk => zIR_e (by omega) (by omega) hk) (zSub_cons (fun _ _ h h' hk => zIR_s (zIR_e (by omega) (by omega) hk)) (zSub_cons (fun _ _ h h' hk => zIR_s (zIR_s (zIR_e (by omega) (by omega) hk))) (zSub_cons (fun _ _ h h' hk => zIR_s (zIR_s (zIR_s (zIR_e (by omega) (by omega) hk)))) (zSub_cons (fun _ _ h h' hk => zIR_s (zIR_s (zIR_s (zIR_s (zIR_s (zIR_a (by omega) (by omega))))))) (zSub_cons (fun _ _ h h' hk => zIR_s (zIR_s (zIR_s (zIR_s (zIR_s (zIR_s (zIR_s (zIR_e (by omega) (by omega) hk)))))))) (zSub_cons (fun _ _ h h' hk => zIR_s (zIR_s (zIR_s (zIR_s (zIR_s (zIR_s (zIR_s (zIR_s (zIR_e (by omega) (by omega) hk))))))))) zSub_nil)))))))
          show ZW _ _ _ _ _ _ _ (29, [some (.ref 0), some (.int a0), some (.int a1), none], [], M23)
          refine w_lo dX8_slack_29 rfl rfl rfl rfl ?_
          refine w_gf dX8_slack_30 rfl hJ26.1.1 zs_0 (zr_0_4 hJ26.1) ?_
          refine w_gf dX8_slack_33 rfl hJ26.1.1 zs_49 (zr_49_13 hJ26.1) ?_
          refine w_lo dX8_slack_36 rfl rfl rfl rfl ?_
          refine w_iai dX8_slack_37 hJ26.1 zs_61 (by omega) (by omega) zu_61 ?_
          intro x30 f27 h28 h29
          refine w_lo (ml' := [some (.ref 0), some (.int a0), some (.int a1), some (.int x30)]) dX8_slack_38 rfl rfl rfl rfl ?_
          refine w_lo dX8_slack_39 rfl rfl rfl rfl ?_
          refine w_gf dX8_slack_40 rfl hJ26.1.1 zs_0 (zr_0_4 hJ26.1) ?_
          refine w_gf dX8_slack_43 rfl hJ26.1.1 zs_49 (zr_49_13 hJ26.1) ?_
          refine w_lo dX8_slack_46 rfl rfl rfl rfl ?_
          refine w_lo dX8_slack_47 rfl rfl rfl rfl ?_
          refine w_isi dX8_slack_48 hJ26 zs_61 (by omega) (by omega) zu_61 (by omega) (by omega) (zIR_s (zIR_s (zIR_s (zIR_s (zIR_a (by omega) (by omega)))))) ?_
          intro M31 hJ32 f33 hn34
          refine w_lo dX8_slack_49 rfl rfl rfl rfl ?_
          refine w_eni dX8_slack_50 rfl rfl ?_
          exact ⟨_, _, rfl, (by omega), (by omega), hJ32, trivial⟩
    · skip
      refine w_cge_t dX8_isKnot_14 (t := 21) rfl (by omega) ?_
      refine w_ic dX8_isKnot_21 zi_0 ?_
      refine w_en dX8_isKnot_22 rfl ?_
      show ZW _ _ _ _ _ _ _ (5, [some (.ref 0), some (.int a0), some (.int a1), none], [.int 0], M0)
      refine w_ieq_t dX8_slack_5 (t := 18) rfl (by have := zt_0; omega) ?_
      refine w_lo dX8_slack_18 rfl rfl rfl rfl ?_
      refine w_ic dX8_slack_19 zi_3 ?_
      refine w_iv dX8_slack_20 rfl rfl (As := [.int 3]) rfl rfl hJ0.1.1 zs_0 (Nat.le_of_ble_eq_true rfl) ?_
      refine ZV.imp (k_2050 3 (by have := zt_3; omega) (by have := zt_3; omega) hN hJ0.1) ?_
      rintro _ ⟨M35, rfl, hJ36, hq37⟩
      have hJ38 := zJ_trans hJ0 hJ36 (zSub_cons (fun _ _ h h' hk => zIR_s (zIR_s (zIR_s (zIR_s (zIR_s (zIR_s (zIR_a (by omega) (by omega)))))))) zSub_nil)
      show ZW _ _ _ _ _ _ _ (23, [some (.ref 0), some (.int a0), some (.int a1), none], [], M35)
      refine w_ic dX8_slack_23 zi_m1 ?_
      refine w_en dX8_slack_24 rfl ?_
      exact ⟨_, _, rfl, (by have := zt_m1; omega), (by have := zt_m1; omega), hJ38, trivial⟩
set_option maxRecDepth 100000 in
theorem k_2079 {X : List Int32} {d N : Nat} {M0 : zM} (a0 : Int32) (a1 : Int32) (hN : N ≤ 600) (hB0 : zB N M0) : ZV X (d + 5) 2079 [.ref 0, .int a0, .int a1] M0 (zRI N [(77, 78, 0), (79, 346, 0), (77, 78, 1), (79, 346, 1), (50, 51, 1000), (80, 359, 1000), (385, 386, 1000), (79, 346, 14), (0, 1, 15)] M0 (0) (1) (fun _ _ => True)) := by
  have hJ0 : zJ N [(77, 78, 0), (79, 346, 0), (77, 78, 1), (79, 346, 1), (50, 51, 1000), (80, 359, 1000), (385, 386, 1000), (79, 346, 14), (0, 1, 15)] M0 M0 := zJ_refl hB0
  refine ZV.of (ini := false) rfl (Nat.le_of_ble_eq_true rfl) (by decide +kernel) ?_
  show ZW _ _ _ _ _ _ _ (0, [some (.ref 0), some (.int a0), some (.int a1)], [], M0)
  refine w_lo dX8_swap_0 rfl rfl rfl rfl ?_
  refine w_lo dX8_swap_1 rfl rfl rfl rfl ?_
  refine w_iv dX8_swap_2 rfl rfl (As := [.int a0]) rfl rfl hJ0.1.1 zs_0 (Nat.le_of_ble_eq_true rfl) ?_
  refine ZV.of (ini := false) rfl (Nat.le_of_ble_eq_true rfl) (by decide +kernel) ?_
  show ZW _ _ _ _ _ _ _ (0, [some (.ref 0), some (.int a0)], [], M0)
  refine w_lo dX8_isPlace_0 rfl rfl rfl rfl ?_
  rcases zcut a0.toInt (0 : Int) with h1 | h1
  · skip
    refine w_ilt_t dX8_isPlace_1 (t := 19) rfl (by omega) ?_
    refine w_ic dX8_isPlace_19 zi_0 ?_
    refine w_en dX8_isPlace_20 rfl ?_
    show ZW _ _ _ _ _ _ _ (5, [some (.ref 0), some (.int a0), some (.int a1)], [.int 0], M0)
    refine w_ieq_t dX8_swap_5 (t := 21) rfl (by have := zt_0; omega) ?_
    refine w_lo dX8_swap_21 rfl rfl rfl rfl ?_
    refine w_ic dX8_swap_22 zi_3 ?_
    refine w_iv dX8_swap_23 rfl rfl (As := [.int 3]) rfl rfl hJ0.1.1 zs_0 (Nat.le_of_ble_eq_true rfl) ?_
    refine ZV.imp (k_2050 3 (by have := zt_3; omega) (by have := zt_3; omega) hN hJ0.1) ?_
    rintro _ ⟨M2, rfl, hJ3, hq4⟩
    have hJ5 := zJ_trans hJ0 hJ3 (zSub_cons (fun _ _ h h' hk => zIR_s (zIR_s (zIR_s (zIR_s (zIR_s (zIR_s (zIR_a (by omega) (by omega)))))))) zSub_nil)
    show ZW _ _ _ _ _ _ _ (26, [some (.ref 0), some (.int a0), some (.int a1)], [], M2)
    refine w_ic dX8_swap_26 zi_0 ?_
    refine w_en dX8_swap_27 rfl ?_
    exact ⟨_, _, rfl, (by have := zt_0; omega), (by have := zt_0; omega), hJ5, trivial⟩
  · skip
    refine w_ilt_f dX8_isPlace_1 (t := 19) rfl (by omega) ?_
    refine w_lo dX8_isPlace_4 rfl rfl rfl rfl ?_
    refine w_lo dX8_isPlace_5 rfl rfl rfl rfl ?_
    refine w_gf dX8_isPlace_6 rfl hJ0.1.1 zs_0 (zr_0_4 hJ0.1) ?_
    refine w_gfi dX8_isPlace_9 rfl hJ0.1 zs_49 (Nat.le_of_ble_eq_true rfl) zo_49_0 ?_
    intro x6 f7 h8 h9
    rcases zcut a0.toInt x6.toInt with h10 | h10
    · skip
      refine w_cge_f dX8_isPlace_12 (t := 19) rfl (by omega) ?_
      refine w_ic dX8_isPlace_15 zi_1 ?_
      refine w_gt dX8_isPlace_16 (t := 20) rfl ?_
      refine w_en dX8_isPlace_20 rfl ?_
      show ZW _ _ _ _ _ _ _ (5, [some (.ref 0), some (.int a0), some (.int a1)], [.int 1], M0)
      refine w_ieq_f dX8_swap_5 (t := 21) rfl (by have := zt_1; omega) ?_
      refine w_lo dX8_swap_8 rfl rfl rfl rfl ?_
      refine w_lo dX8_swap_9 rfl rfl rfl rfl ?_
      refine w_iv dX8_swap_10 rfl rfl (As := [.int a1]) rfl rfl hJ0.1.1 zs_0 (Nat.le_of_ble_eq_true rfl) ?_
      refine ZV.of (ini := false) rfl (Nat.le_of_ble_eq_true rfl) (by decide +kernel) ?_
      show ZW _ _ _ _ _ _ _ (0, [some (.ref 0), some (.int a1)], [], M0)
      refine w_lo dX8_isPlace_0 rfl rfl rfl rfl ?_
      rcases zcut a1.toInt (0 : Int) with h11 | h11
      · skip
        refine w_ilt_t dX8_isPlace_1 (t := 19) rfl (by omega) ?_
        refine w_ic dX8_isPlace_19 zi_0 ?_
        refine w_en dX8_isPlace_20 rfl ?_
        show ZW _ _ _ _ _ _ _ (13, [some (.ref 0), some (.int a0), some (.int a1)], [.int 0], M0)
        refine w_ieq_t dX8_swap_13 (t := 21) rfl (by have := zt_0; omega) ?_
        refine w_lo dX8_swap_21 rfl rfl rfl rfl ?_
        refine w_ic dX8_swap_22 zi_3 ?_
        refine w_iv dX8_swap_23 rfl rfl (As := [.int 3]) rfl rfl hJ0.1.1 zs_0 (Nat.le_of_ble_eq_true rfl) ?_
        refine ZV.imp (k_2050 3 (by have := zt_3; omega) (by have := zt_3; omega) hN hJ0.1) ?_
        rintro _ ⟨M12, rfl, hJ13, hq14⟩
        have hJ15 := zJ_trans hJ0 hJ13 (zSub_cons (fun _ _ h h' hk => zIR_s (zIR_s (zIR_s (zIR_s (zIR_s (zIR_s (zIR_a (by omega) (by omega)))))))) zSub_nil)
        show ZW _ _ _ _ _ _ _ (26, [some (.ref 0), some (.int a0), some (.int a1)], [], M12)
        refine w_ic dX8_swap_26 zi_0 ?_
        refine w_en dX8_swap_27 rfl ?_
        exact ⟨_, _, rfl, (by have := zt_0; omega), (by have := zt_0; omega), hJ15, trivial⟩
      · skip
        refine w_ilt_f dX8_isPlace_1 (t := 19) rfl (by omega) ?_
        refine w_lo dX8_isPlace_4 rfl rfl rfl rfl ?_
        refine w_lo dX8_isPlace_5 rfl rfl rfl rfl ?_
        refine w_gf dX8_isPlace_6 rfl hJ0.1.1 zs_0 (zr_0_4 hJ0.1) ?_
        refine w_gf dX8_isPlace_9 rfl hJ0.1.1 zs_49 f7 ?_
        rcases zcut a1.toInt x6.toInt with h16 | h16
        · skip
          refine w_cge_f dX8_isPlace_12 (t := 19) rfl (by omega) ?_
          refine w_ic dX8_isPlace_15 zi_1 ?_
          refine w_gt dX8_isPlace_16 (t := 20) rfl ?_
          refine w_en dX8_isPlace_20 rfl ?_
          show ZW _ _ _ _ _ _ _ (13, [some (.ref 0), some (.int a0), some (.int a1)], [.int 1], M0)
          refine w_ieq_f dX8_swap_13 (t := 21) rfl (by have := zt_1; omega) ?_
          refine w_lo dX8_swap_16 rfl rfl rfl rfl ?_
          refine w_lo dX8_swap_17 rfl rfl rfl rfl ?_
          rcases Int.decEq a0.toInt a1.toInt with h17 | h17
          · skip
            refine w_cne_t dX8_swap_18 (t := 28) rfl (by omega) ?_
            refine w_lo dX8_swap_28 rfl rfl rfl rfl ?_
            refine w_iv dX8_swap_29 rfl rfl (As := []) rfl rfl hJ0.1.1 zs_0 (Nat.le_of_ble_eq_true rfl) ?_
            refine ZV.imp (k_2074 hN hJ0.1) ?_
            rintro _ ⟨M18, rfl, hJ19, hq20⟩
            have hJ21 := zJ_trans hJ0 hJ19 (zSub_cons (fun _ _ h h' hk => zIR_e (by omega) (by omega) hk) (zSub_cons (fun _ _ h h' hk => zIR_s (zIR_e (by omega) (by omega) hk)) (zSub_cons (fun _ _ h h' hk => zIR_s (zIR_s (zIR_e (by omega) (by omega) hk))) (zSub_cons (fun _ _ h h' hk => zIR_s (zIR_s (zIR_s (zIR_e (by omega) (by omega) hk)))) (zSub_cons (fun _ _ h h' hk => zIR_s (zIR_s (zIR_s (zIR_s (zIR_s (zIR_a (by omega) (by omega))))))) (zSub_cons (fun _ _ h h' hk => zIR_s (zIR_s (zIR_s (zIR_s (zIR_s (zIR_s (zIR_s (zIR_e (by omega) (by omega) hk)))))))) (zSub_cons (fun _ _ h h' hk => zIR_s (zIR_s (zIR_s (zIR_s (zIR_s (zIR_s (zIR_s (zIR_s (zIR_e (by omega) (by omega) hk))))))))) zSub_nil)))))))
            show ZW _ _ _ _ _ _ _ (32, [some (.ref 0), some (.int a0), some (.int a1)], [], M18)
            refine w_lo dX8_swap_32 rfl rfl rfl rfl ?_
            refine w_gf dX8_swap_33 rfl hJ21.1.1 zs_0 (zr_0_4 hJ21.1) ?_
            refine w_lo dX8_swap_36 rfl rfl rfl rfl ?_
            refine w_lo dX8_swap_37 rfl rfl rfl rfl ?_
            refine w_iv dX8_swap_38 rfl rfl (As := [.int a0, .int a1]) rfl rfl hJ21.1.1 zs_49 (Nat.le_of_ble_eq_true rfl) ?_
            refine ZV.imp (k_1547 49 hb_6_49 a0 (by omega) (by omega) a1 (by omega) (by omega) hN hJ21.1) ?_
            rintro _ ⟨M22, rfl, hJ23, hq24⟩
            have hJ25 := zJ_trans hJ21 hJ23 (zSub_cons (fun _ _ h h' hk => zIR_s (zIR_s (zIR_s (zIR_s (zIR_a (by omega) (by omega)))))) zSub_nil)
            show ZW _ _ _ _ _ _ _ (41, [some (.ref 0), some (.int a0), some (.int a1)], [], M22)
            refine w_ic dX8_swap_41 zi_1 ?_
            refine w_en dX8_swap_42 rfl ?_
            exact ⟨_, _, rfl, (by have := zt_1; omega), (by have := zt_1; omega), hJ25, trivial⟩
          · skip
            refine w_cne_f dX8_swap_18 (t := 28) rfl (by omega) ?_
            refine w_lo dX8_swap_21 rfl rfl rfl rfl ?_
            refine w_ic dX8_swap_22 zi_3 ?_
            refine w_iv dX8_swap_23 rfl rfl (As := [.int 3]) rfl rfl hJ0.1.1 zs_0 (Nat.le_of_ble_eq_true rfl) ?_
            refine ZV.imp (k_2050 3 (by have := zt_3; omega) (by have := zt_3; omega) hN hJ0.1) ?_
            rintro _ ⟨M26, rfl, hJ27, hq28⟩
            have hJ29 := zJ_trans hJ0 hJ27 (zSub_cons (fun _ _ h h' hk => zIR_s (zIR_s (zIR_s (zIR_s (zIR_s (zIR_s (zIR_a (by omega) (by omega)))))))) zSub_nil)
            show ZW _ _ _ _ _ _ _ (26, [some (.ref 0), some (.int a0), some (.int a1)], [], M26)
            refine w_ic dX8_swap_26 zi_0 ?_
            refine w_en dX8_swap_27 rfl ?_
            exact ⟨_, _, rfl, (by have := zt_0; omega), (by have := zt_0; omega), hJ29, trivial⟩
        · skip
          refine w_cge_t dX8_isPlace_12 (t := 19) rfl (by omega) ?_
          refine w_ic dX8_isPlace_19 zi_0 ?_
          refine w_en dX8_isPlace_20 rfl ?_
          show ZW _ _ _ _ _ _ _ (13, [some (.ref 0), some (.int a0), some (.int a1)], [.int 0], M0)
          refine w_ieq_t dX8_swap_13 (t := 21) rfl (by have := zt_0; omega) ?_
          refine w_lo dX8_swap_21 rfl rfl rfl rfl ?_
          refine w_ic dX8_swap_22 zi_3 ?_
          refine w_iv dX8_swap_23 rfl rfl (As := [.int 3]) rfl rfl hJ0.1.1 zs_0 (Nat.le_of_ble_eq_true rfl) ?_
          refine ZV.imp (k_2050 3 (by have := zt_3; omega) (by have := zt_3; omega) hN hJ0.1) ?_
          rintro _ ⟨M30, rfl, hJ31, hq32⟩
          have hJ33 := zJ_trans hJ0 hJ31 (zSub_cons (fun _ _ h h' hk => zIR_s (zIR_s (zIR_s (zIR_s (zIR_s (zIR_s (zIR_a (by omega) (by omega)))))))) zSub_nil)
          show ZW _ _ _ _ _ _ _ (26, [some (.ref 0), some (.int a0), some (.int a1)], [], M30)
          refine w_ic dX8_swap_26 zi_0 ?_
          refine w_en dX8_swap_27 rfl ?_
          exact ⟨_, _, rfl, (by have := zt_0; omega), (by have := zt_0; omega), hJ33, trivial⟩
    · skip
      refine w_cge_t dX8_isPlace_12 (t := 19) rfl (by omega) ?_
      refine w_ic dX8_isPlace_19 zi_0 ?_
      refine w_en dX8_isPlace_20 rfl ?_
      show ZW _ _ _ _ _ _ _ (5, [some (.ref 0), some (.int a0), some (.int a1)], [.int 0], M0)
      refine w_ieq_t dX8_swap_5 (t := 21) rfl (by have := zt_0; omega) ?_
      refine w_lo dX8_swap_21 rfl rfl rfl rfl ?_
      refine w_ic dX8_swap_22 zi_3 ?_
      refine w_iv dX8_swap_23 rfl rfl (As := [.int 3]) rfl rfl hJ0.1.1 zs_0 (Nat.le_of_ble_eq_true rfl) ?_
      refine ZV.imp (k_2050 3 (by have := zt_3; omega) (by have := zt_3; omega) hN hJ0.1) ?_
      rintro _ ⟨M34, rfl, hJ35, hq36⟩
      have hJ37 := zJ_trans hJ0 hJ35 (zSub_cons (fun _ _ h h' hk => zIR_s (zIR_s (zIR_s (zIR_s (zIR_s (zIR_s (zIR_a (by omega) (by omega)))))))) zSub_nil)
      show ZW _ _ _ _ _ _ _ (26, [some (.ref 0), some (.int a0), some (.int a1)], [], M34)
      refine w_ic dX8_swap_26 zi_0 ?_
      refine w_en dX8_swap_27 rfl ?_
      exact ⟨_, _, rfl, (by have := zt_0; omega), (by have := zt_0; omega), hJ37, trivial⟩
set_option maxRecDepth 100000 in
theorem k_3 {X : List Int32} {d N : Nat} {M0 : zM} (p0 : Nat) (hp0 : zRp p0) (hN : N ≤ 600) (hB0 : zB N M0) : ZV X (d + 3) 3 [.ref 77, .ref p0] M0 (zRI N [(p0, p0 + 1, 0), (p0, p0 + 1, 1), (p0 + 1, p0 + 14, 1000), (p0, p0 + 1, 14), (77, 78, 0), (77, 78, 1)] M0 (0) (1) (fun _ _ => True)) := by
  have hbp0 := zRp_b hp0
  have hJ0 : zJ N [(p0, p0 + 1, 0), (p0, p0 + 1, 1), (p0 + 1, p0 + 14, 1000), (p0, p0 + 1, 14), (77, 78, 0), (77, 78, 1)] M0 M0 := zJ_refl hB0
  refine ZV.of (ini := false) rfl (Nat.le_of_ble_eq_true rfl) (by decide +kernel) ?_
  show ZW _ _ _ _ _ _ _ (0, [some (.ref 77), some (.ref p0), none], [], M0)
  refine w_lo dX0_takeBack_0 rfl rfl rfl rfl ?_
  refine w_gfi dX0_takeBack_1 rfl hJ0.1 zs_77 (Nat.le_of_ble_eq_true rfl) zo_77_0 ?_
  intro x1 f2 h3 h4
  rcases Int.decEq x1.toInt (0 : Int) with h5 | h5
  · skip
    refine w_ine_t dX0_takeBack_4 (t := 9) rfl (by omega) ?_
    refine w_lo dX0_takeBack_9 rfl rfl rfl rfl ?_
    refine w_pu dX0_takeBack_10 rfl rfl ?_
    refine w_gf dX0_takeBack_11 rfl hJ0.1.1 zs_77 f2 ?_
    refine w_ic dX0_takeBack_14 zi_1 ?_
    refine w_sub dX0_takeBack_15 (by have := zt_1; omega) ?_
    intro x6 h7
    have := zt_1
    refine w_pfi dX0_takeBack_16 rfl hJ0 zs_77 (Nat.le_of_ble_eq_true rfl) zo_77_0 (by omega) (by omega) (zIR_s (zIR_s (zIR_s (zIR_s (zIR_k (by omega) (by omega)))))) rfl rfl rfl ?_
    intro M8 hJ9 f10 hn11
    refine w_lo dX0_takeBack_19 rfl rfl rfl rfl ?_
    refine w_lo dX0_takeBack_20 rfl rfl rfl rfl ?_
    refine w_gfi dX0_takeBack_21 rfl hJ9.1 zs_77 (Nat.le_of_ble_eq_true rfl) zo_77_1 ?_
    intro x12 f13 h14 h15
    refine w_bi dX0_takeBack_24 (c := 20) (by decide) ?_
    refine w_add dX0_takeBack_26 (by have := zt_20; omega) ?_
    intro x16 h17
    have := zt_20
    refine w_ic dX0_takeBack_27 zi_1 ?_
    refine w_sub dX0_takeBack_28 (by have := zt_1; omega) ?_
    intro x18 h19
    have := zt_1
    refine w_bi dX0_takeBack_29 (c := 20) (by decide) ?_
    refine w_remP dX0_takeBack_31 (by omega) (by have := zt_20; omega) ?_
    intro x20 h21 h22 h23
    have := zt_20
    refine w_pfi dX0_takeBack_32 rfl hJ9 zs_77 (Nat.le_of_ble_eq_true rfl) zo_77_1 (by omega) (by omega) (zIR_s (zIR_s (zIR_s (zIR_s (zIR_s (zIR_k (by omega) (by omega))))))) rfl rfl rfl ?_
    intro M24 hJ25 f26 hn27
    refine w_lo dX0_takeBack_35 rfl rfl rfl rfl ?_
    refine w_gf dX0_takeBack_36 rfl hJ25.1.1 zs_77 (zr_77_2 hJ25.1) ?_
    refine w_lo dX0_takeBack_39 rfl rfl rfl rfl ?_
    refine w_gf dX0_takeBack_40 rfl hJ25.1.1 zs_77 f26 ?_
    refine w_aai dX0_takeBack_43 hJ25.1 (by omega) (by omega) ?_
    intro b28 h29 h31 h30
    refine w_lo (ml' := [some (.ref 77), some (.ref p0), some (.ref b28)]) dX0_takeBack_44 rfl rfl rfl rfl ?_
    refine w_lo dX0_takeBack_45 rfl rfl rfl rfl ?_
    refine w_br dX0_takeBack_46 (pc' := 49) rfl rfl rfl ?_
    refine w_lo dX0_takeBack_49 rfl rfl rfl rfl ?_
    refine w_lo dX0_takeBack_50 rfl rfl rfl rfl ?_
    obtain ⟨x34, f35, h36, h37⟩ := zB_cnt hJ25.1 (zs_6_0 h29) (Nat.le_of_ble_eq_true rfl) (zo_6_0_14 h29)
    refine w_iv dX0_takeBack_51 rfl rfl (As := [.ref b28]) rfl rfl hJ25.1.1 (zs_6_0 hp0) (Nat.le_of_ble_eq_true rfl) ?_
    refine ZV.imp (k_1542 p0 hp0 b28 h29 x34 f35 (by omega) (by omega) hN hJ25.1) ?_
    rintro _ ⟨M32, rfl, hJ33, hq38⟩
    have hJ39 := zJ_trans hJ25 hJ33 (zSub_cons (fun _ _ h h' hk => zIR_e (by omega) (by omega) hk) (zSub_cons (fun _ _ h h' hk => zIR_s (zIR_e (by omega) (by omega) hk)) (zSub_cons (fun _ _ h h' hk => zIR_s (zIR_s (zIR_a (by omega) (by omega)))) (zSub_cons (fun _ _ h h' hk => zIR_s (zIR_s (zIR_s (zIR_e (by omega) (by omega) hk)))) zSub_nil))))
    obtain ⟨x40, f41, h42, -⟩ := hq38
    show ZW _ _ _ _ _ _ _ (54, [some (.ref 77), some (.ref p0), some (.ref b28)], [], M32)
    refine w_ic dX0_takeBack_54 zi_1 ?_
    refine w_en dX0_takeBack_55 rfl ?_
    exact ⟨_, _, rfl, (by have := zt_1; omega), (by have := zt_1; omega), hJ39, trivial⟩
  · skip
    refine w_ine_f dX0_takeBack_4 (t := 9) rfl (by omega) ?_
    refine w_ic dX0_takeBack_7 zi_0 ?_
    refine w_en dX0_takeBack_8 rfl ?_
    exact ⟨_, _, rfl, (by have := zt_0; omega), (by have := zt_0; omega), hJ0, trivial⟩
set_option maxRecDepth 100000 in
theorem k_2080 {X : List Int32} {d N : Nat} {M0 : zM}  (hN : N ≤ 600) (hB0 : zB N M0) : ZV X (d + 4) 2080 [.ref 0] M0 (zRI N [(49, 50, 0), (77, 78, 0), (49, 50, 1), (77, 78, 1), (50, 63, 1000), (385, 386, 1000), (49, 50, 14), (0, 1, 15)] M0 (0) (1) (fun _ _ => True)) := by
  have hJ0 : zJ N [(49, 50, 0), (77, 78, 0), (49, 50, 1), (77, 78, 1), (50, 63, 1000), (385, 386, 1000), (49, 50, 14), (0, 1, 15)] M0 M0 := zJ_refl hB0
  refine ZV.of (ini := false) rfl (Nat.le_of_ble_eq_true rfl) (by decide +kernel) ?_
  show ZW _ _ _ _ _ _ _ (0, [some (.ref 0)], [], M0)
  refine w_lo dX8_undo_0 rfl rfl rfl rfl ?_
  refine w_gf dX8_undo_1 rfl hJ0.1.1 zs_0 (zr_0_6 hJ0.1) ?_
  refine w_lo dX8_undo_4 rfl rfl rfl rfl ?_
  refine w_gf dX8_undo_5 rfl hJ0.1.1 zs_0 (zr_0_4 hJ0.1) ?_
  refine w_iv dX8_undo_8 rfl rfl (As := [.ref 49]) rfl rfl hJ0.1.1 zs_77 (Nat.le_of_ble_eq_true rfl) ?_
  refine ZV.imp (k_3 49 hb_6_49 hN hJ0.1) ?_
  rintro _ ⟨x4, M1, rfl, h5, h6, hJ2, hq3⟩
  have hJ7 := zJ_trans hJ0 hJ2 (zSub_cons (fun _ _ h h' hk => zIR_e (by omega) (by omega) hk) (zSub_cons (fun _ _ h h' hk => zIR_s (zIR_s (zIR_e (by omega) (by omega) hk))) (zSub_cons (fun _ _ h h' hk => zIR_s (zIR_s (zIR_s (zIR_s (zIR_a (by omega) (by omega)))))) (zSub_cons (fun _ _ h h' hk => zIR_s (zIR_s (zIR_s (zIR_s (zIR_s (zIR_s (zIR_e (by omega) (by omega) hk))))))) (zSub_cons (fun _ _ h h' hk => zIR_s (zIR_e (by omega) (by omega) hk)) (zSub_cons (fun _ _ h h' hk => zIR_s (zIR_s (zIR_s (zIR_e (by omega) (by omega) hk)))) zSub_nil))))))
  show ZW _ _ _ _ _ _ _ (11, [some (.ref 0)], [.int x4], M1)
  rcases Int.decEq x4.toInt (0 : Int) with h8 | h8
  · skip
    refine w_ine_t dX8_undo_11 (t := 21) rfl (by omega) ?_
    refine w_lo dX8_undo_21 rfl rfl rfl rfl ?_
    refine w_pu dX8_undo_22 rfl rfl ?_
    refine w_gfi dX8_undo_23 rfl hJ7.1 zs_0 (Nat.le_of_ble_eq_true rfl) zo_0_15 ?_
    intro x9 f10 h11 h12
    refine w_ic dX8_undo_26 zi_1 ?_
    refine w_puI dX8_undo_27 rfl rfl ?_
    intro x13
    refine w_pfi dX8_undo_28 rfl hJ7 zs_0 (Nat.le_of_ble_eq_true rfl) zo_0_15 (zbot _) (ztop _) (zIR_s (zIR_s (zIR_s (zIR_s (zIR_s (zIR_s (zIR_s (zIR_k (by omega) (by omega))))))))) rfl rfl rfl ?_
    intro M14 hJ15 f16 hn17
    refine w_ic dX8_undo_31 zi_1 ?_
    refine w_en dX8_undo_32 rfl ?_
    exact ⟨_, _, rfl, (by have := zt_1; omega), (by have := zt_1; omega), hJ15, trivial⟩
  · skip
    refine w_ine_f dX8_undo_11 (t := 21) rfl (by omega) ?_
    refine w_lo dX8_undo_14 rfl rfl rfl rfl ?_
    refine w_ic dX8_undo_15 zi_4 ?_
    refine w_iv dX8_undo_16 rfl rfl (As := [.int 4]) rfl rfl hJ7.1.1 zs_0 (Nat.le_of_ble_eq_true rfl) ?_
    refine ZV.imp (k_2050 4 (by have := zt_4; omega) (by have := zt_4; omega) hN hJ7.1) ?_
    rintro _ ⟨M18, rfl, hJ19, hq20⟩
    have hJ21 := zJ_trans hJ7 hJ19 (zSub_cons (fun _ _ h h' hk => zIR_s (zIR_s (zIR_s (zIR_s (zIR_s (zIR_a (by omega) (by omega))))))) zSub_nil)
    show ZW _ _ _ _ _ _ _ (19, [some (.ref 0)], [], M18)
    refine w_ic dX8_undo_19 zi_0 ?_
    refine w_en dX8_undo_20 rfl ?_
    exact ⟨_, _, rfl, (by have := zt_0; omega), (by have := zt_0; omega), hJ21, trivial⟩
set_option maxRecDepth 100000 in
theorem k_2081 {X : List Int32} {d N : Nat} {M0 : zM} (a0 : Int32) (hN : N ≤ 600) (hB0 : zB N M0) : ZV X (d + 2) 2081 [.ref 0, .int a0] M0 (zRI N [(359, 360, 0), (385, 386, 1000)] M0 (0) (1) (fun _ _ => True)) := by
  have hJ0 : zJ N [(359, 360, 0), (385, 386, 1000)] M0 M0 := zJ_refl hB0
  refine ZV.of (ini := false) rfl (Nat.le_of_ble_eq_true rfl) (by decide +kernel) ?_
  show ZW _ _ _ _ _ _ _ (0, [some (.ref 0), some (.int a0)], [], M0)
  refine w_lo dX8_seed_0 rfl rfl rfl rfl ?_
  rcases zcut a0.toInt (0 : Int) with h1 | h1
  · skip
    refine w_ige_f dX8_seed_1 (t := 11) rfl (by omega) ?_
    refine w_lo dX8_seed_4 rfl rfl rfl rfl ?_
    refine w_ic dX8_seed_5 zi_5 ?_
    refine w_iv dX8_seed_6 rfl rfl (As := [.int 5]) rfl rfl hJ0.1.1 zs_0 (Nat.le_of_ble_eq_true rfl) ?_
    refine ZV.imp (k_2050 5 (by have := zt_5; omega) (by have := zt_5; omega) hN hJ0.1) ?_
    rintro _ ⟨M2, rfl, hJ3, hq4⟩
    have hJ5 := zJ_trans hJ0 hJ3 (zSub_cons (fun _ _ h h' hk => zIR_s (zIR_a (by omega) (by omega))) zSub_nil)
    show ZW _ _ _ _ _ _ _ (9, [some (.ref 0), some (.int a0)], [], M2)
    refine w_ic dX8_seed_9 zi_0 ?_
    refine w_en dX8_seed_10 rfl ?_
    exact ⟨_, _, rfl, (by have := zt_0; omega), (by have := zt_0; omega), hJ5, trivial⟩
  · skip
    refine w_ige_t dX8_seed_1 (t := 11) rfl (by omega) ?_
    refine w_lo dX8_seed_11 rfl rfl rfl rfl ?_
    refine w_gf dX8_seed_12 rfl hJ0.1.1 zs_0 (zr_0_7 hJ0.1) ?_
    refine w_lo dX8_seed_15 rfl rfl rfl rfl ?_
    refine w_pfi dX8_seed_16 rfl hJ0 zs_359 (Nat.le_of_ble_eq_true rfl) zo_359_0 (zbot _) (ztop _) (zIR_k (by omega) (by omega)) rfl rfl rfl ?_
    intro M6 hJ7 f8 hn9
    refine w_ic dX8_seed_19 zi_1 ?_
    refine w_en dX8_seed_20 rfl ?_
    exact ⟨_, _, rfl, (by have := zt_1; omega), (by have := zt_1; omega), hJ7, trivial⟩
set_option maxRecDepth 100000 in
theorem k_2082 {X : List Int32} {d N : Nat} {M0 : zM} (a0 : Int32) (a1 : Int32) (a2 : Int32) (hN : N ≤ 600) (hB0 : zB N M0) : ZV X (d + 6) 2082 [.ref 0, .int a0, .int a1, .int a2] M0 (zRI N [(362, 363, 1), (26, 28, 1000), (47, 49, 1000), (363, 364, 1000)] M0 (-1) (2147483647) (fun _ _ => True)) := by
  have hJ0 : zJ N [(362, 363, 1), (26, 28, 1000), (47, 49, 1000), (363, 364, 1000)] M0 M0 := zJ_refl hB0
  refine ZV.of (ini := false) rfl (Nat.le_of_ble_eq_true rfl) (by decide +kernel) ?_
  show ZW _ _ _ _ _ _ _ (0, [some (.ref 0), some (.int a0), some (.int a1), some (.int a2)], [], M0)
  refine w_lo dX8_feels_0 rfl rfl rfl rfl ?_
  refine w_lo dX8_feels_1 rfl rfl rfl rfl ?_
  refine w_iv dX8_feels_2 rfl rfl (As := [.int a0]) rfl rfl hJ0.1.1 zs_0 (Nat.le_of_ble_eq_true rfl) ?_
  refine ZV.of (ini := false) rfl (Nat.le_of_ble_eq_true rfl) (by decide +kernel) ?_
  show ZW _ _ _ _ _ _ _ (0, [some (.ref 0), some (.int a0)], [], M0)
  refine w_lo dX8_isPlace_0 rfl rfl rfl rfl ?_
  rcases zcut a0.toInt (0 : Int) with h1 | h1
  · skip
    refine w_ilt_t dX8_isPlace_1 (t := 19) rfl (by omega) ?_
    refine w_ic dX8_isPlace_19 zi_0 ?_
    refine w_en dX8_isPlace_20 rfl ?_
    show ZW _ _ _ _ _ _ _ (5, [some (.ref 0), some (.int a0), some (.int a1), some (.int a2)], [.int 0], M0)
    refine w_ieq_t dX8_feels_5 (t := 28) rfl (by have := zt_0; omega) ?_
    refine w_ic dX8_feels_28 zi_m1 ?_
    refine w_en dX8_feels_29 rfl ?_
    exact ⟨_, _, rfl, (by have := zt_m1; omega), (ztop _), hJ0, trivial⟩
  · skip
    refine w_ilt_f dX8_isPlace_1 (t := 19) rfl (by omega) ?_
    refine w_lo dX8_isPlace_4 rfl rfl rfl rfl ?_
    refine w_lo dX8_isPlace_5 rfl rfl rfl rfl ?_
    refine w_gf dX8_isPlace_6 rfl hJ0.1.1 zs_0 (zr_0_4 hJ0.1) ?_
    refine w_gfi dX8_isPlace_9 rfl hJ0.1 zs_49 (Nat.le_of_ble_eq_true rfl) zo_49_0 ?_
    intro x2 f3 h4 h5
    rcases zcut a0.toInt x2.toInt with h6 | h6
    · skip
      refine w_cge_f dX8_isPlace_12 (t := 19) rfl (by omega) ?_
      refine w_ic dX8_isPlace_15 zi_1 ?_
      refine w_gt dX8_isPlace_16 (t := 20) rfl ?_
      refine w_en dX8_isPlace_20 rfl ?_
      show ZW _ _ _ _ _ _ _ (5, [some (.ref 0), some (.int a0), some (.int a1), some (.int a2)], [.int 1], M0)
      refine w_ieq_f dX8_feels_5 (t := 28) rfl (by have := zt_1; omega) ?_
      refine w_lo dX8_feels_8 rfl rfl rfl rfl ?_
      refine w_lo dX8_feels_9 rfl rfl rfl rfl ?_
      refine w_iv dX8_feels_10 rfl rfl (As := [.int a2]) rfl rfl hJ0.1.1 zs_0 (Nat.le_of_ble_eq_true rfl) ?_
      refine ZV.of (ini := false) rfl (Nat.le_of_ble_eq_true rfl) (by decide +kernel) ?_
      show ZW _ _ _ _ _ _ _ (0, [some (.ref 0), some (.int a2)], [], M0)
      refine w_lo dX8_isPlace_0 rfl rfl rfl rfl ?_
      rcases zcut a2.toInt (0 : Int) with h7 | h7
      · skip
        refine w_ilt_t dX8_isPlace_1 (t := 19) rfl (by omega) ?_
        refine w_ic dX8_isPlace_19 zi_0 ?_
        refine w_en dX8_isPlace_20 rfl ?_
        show ZW _ _ _ _ _ _ _ (13, [some (.ref 0), some (.int a0), some (.int a1), some (.int a2)], [.int 0], M0)
        refine w_ieq_t dX8_feels_13 (t := 28) rfl (by have := zt_0; omega) ?_
        refine w_ic dX8_feels_28 zi_m1 ?_
        refine w_en dX8_feels_29 rfl ?_
        exact ⟨_, _, rfl, (by have := zt_m1; omega), (ztop _), hJ0, trivial⟩
      · skip
        refine w_ilt_f dX8_isPlace_1 (t := 19) rfl (by omega) ?_
        refine w_lo dX8_isPlace_4 rfl rfl rfl rfl ?_
        refine w_lo dX8_isPlace_5 rfl rfl rfl rfl ?_
        refine w_gf dX8_isPlace_6 rfl hJ0.1.1 zs_0 (zr_0_4 hJ0.1) ?_
        refine w_gf dX8_isPlace_9 rfl hJ0.1.1 zs_49 f3 ?_
        rcases zcut a2.toInt x2.toInt with h8 | h8
        · skip
          refine w_cge_f dX8_isPlace_12 (t := 19) rfl (by omega) ?_
          refine w_ic dX8_isPlace_15 zi_1 ?_
          refine w_gt dX8_isPlace_16 (t := 20) rfl ?_
          refine w_en dX8_isPlace_20 rfl ?_
          show ZW _ _ _ _ _ _ _ (13, [some (.ref 0), some (.int a0), some (.int a1), some (.int a2)], [.int 1], M0)
          refine w_ieq_f dX8_feels_13 (t := 28) rfl (by have := zt_1; omega) ?_
          refine w_lo dX8_feels_16 rfl rfl rfl rfl ?_
          refine w_lo dX8_feels_17 rfl rfl rfl rfl ?_
          rcases Int.decEq a0.toInt a2.toInt with h9 | h9
          · skip
            refine w_ceq_f dX8_feels_18 (t := 28) rfl (by omega) ?_
            refine w_lo dX8_feels_21 rfl rfl rfl rfl ?_
            refine w_ss dX8_feels_22 rfl rfl (As := [.int a1]) rfl rfl (Nat.le_of_ble_eq_true rfl) ?_
            refine ZV.of (ini := false) rfl (Nat.le_of_ble_eq_true rfl) (by decide +kernel) ?_
            show ZW _ _ _ _ _ _ _ (0, [some (.int a1)], [], M0)
            refine w_lo dX8_isForce_0 rfl rfl rfl rfl ?_
            refine w_ic dX8_isForce_1 zi_1 ?_
            rcases zcut a1.toInt (1 : Int) with h10 | h10
            · skip
              refine w_clt_t dX8_isForce_2 (t := 16) rfl (by have := zt_1; omega) ?_
              refine w_ic dX8_isForce_16 zi_0 ?_
              refine w_en dX8_isForce_17 rfl ?_
              show ZW _ _ _ _ _ _ _ (25, [some (.ref 0), some (.int a0), some (.int a1), some (.int a2)], [.int 0], M0)
              refine w_ine_f dX8_feels_25 (t := 30) rfl (by have := zt_0; omega) ?_
              refine w_ic dX8_feels_28 zi_m1 ?_
              refine w_en dX8_feels_29 rfl ?_
              exact ⟨_, _, rfl, (by have := zt_m1; omega), (ztop _), hJ0, trivial⟩
            · skip
              refine w_clt_f dX8_isForce_2 (t := 16) rfl (by have := zt_1; omega) ?_
              refine w_lo dX8_isForce_5 rfl rfl rfl rfl ?_
              refine w_si dX8_isForce_6 (c := 9999) (by decide) ?_
              rcases zcut (9999 : Int) a1.toInt with h11 | h11
              · skip
                refine w_cgt_t dX8_isForce_9 (t := 16) rfl (by have := zt_9999; omega) ?_
                refine w_ic dX8_isForce_16 zi_0 ?_
                refine w_en dX8_isForce_17 rfl ?_
                show ZW _ _ _ _ _ _ _ (25, [some (.ref 0), some (.int a0), some (.int a1), some (.int a2)], [.int 0], M0)
                refine w_ine_f dX8_feels_25 (t := 30) rfl (by have := zt_0; omega) ?_
                refine w_ic dX8_feels_28 zi_m1 ?_
                refine w_en dX8_feels_29 rfl ?_
                exact ⟨_, _, rfl, (by have := zt_m1; omega), (ztop _), hJ0, trivial⟩
              · skip
                refine w_cgt_f dX8_isForce_9 (t := 16) rfl (by have := zt_9999; omega) ?_
                refine w_ic dX8_isForce_12 zi_1 ?_
                refine w_gt dX8_isForce_13 (t := 17) rfl ?_
                refine w_en dX8_isForce_17 rfl ?_
                show ZW _ _ _ _ _ _ _ (25, [some (.ref 0), some (.int a0), some (.int a1), some (.int a2)], [.int 1], M0)
                refine w_ine_t dX8_feels_25 (t := 30) rfl (by have := zt_1; omega) ?_
                refine w_lo dX8_feels_30 rfl rfl rfl rfl ?_
                refine w_gf dX8_feels_31 rfl hJ0.1.1 zs_0 (zr_0_8 hJ0.1) ?_
                refine w_lo dX8_feels_34 rfl rfl rfl rfl ?_
                obtain ⟨b12, f13, h14⟩ := zd_0_3 hJ0.1
                have h15 := zDm_b h14
                refine w_gf dX8_feels_35 rfl hJ0.1.1 zs_0 f13 ?_
                refine w_lo dX8_feels_38 rfl rfl rfl rfl ?_
                refine w_gf dX8_feels_39 rfl hJ0.1.1 zs_0 (zr_0_4 hJ0.1) ?_
                refine w_lo dX8_feels_42 rfl rfl rfl rfl ?_
                refine w_lo dX8_feels_43 rfl rfl rfl rfl ?_
                refine w_iv dX8_feels_44 rfl rfl (As := [.ref b12, .ref 49, .int a0, .int a1]) rfl rfl hJ0.1.1 zs_362 (Nat.le_of_ble_eq_true rfl) ?_
                refine ZV.imp (k_1794 362 hb_7_362 b12 h14 49 hb_6_49 a0 (by omega) (by omega) a1 hN hJ0.1) ?_
                rintro _ ⟨M16, rfl, hJ17, hq18⟩
                have hJ19 := zJ_trans hJ0 hJ17 (zSub_cons (fun _ _ h h' hk => ((zDm_or h14).elim (fun e => zIR_s (zIR_a (by omega) (by omega))) (fun e => zIR_s (zIR_s (zIR_a (by omega) (by omega)))))) (zSub_cons (fun _ _ h h' hk => zIR_e (by omega) (by omega) hk) (zSub_cons (fun _ _ h h' hk => zIR_s (zIR_s (zIR_s (zIR_a (by omega) (by omega))))) zSub_nil)))
                show ZW _ _ _ _ _ _ _ (47, [some (.ref 0), some (.int a0), some (.int a1), some (.int a2)], [], M16)
                refine w_lo dX8_feels_47 rfl rfl rfl rfl ?_
                refine w_gf dX8_feels_48 rfl hJ19.1.1 zs_0 (zr_0_8 hJ19.1) ?_
                refine w_gf dX8_feels_51 rfl hJ19.1.1 zs_362 (zr_362_0 hJ19.1) ?_
                refine w_lo dX8_feels_54 rfl rfl rfl rfl ?_
                refine w_iai dX8_feels_55 hJ19.1 zs_363 (by omega) (by omega) zu_363 ?_
                intro x23 f20 h21 h22
                refine w_eni dX8_feels_56 rfl rfl ?_
                exact ⟨_, _, rfl, (by omega), (ztop _), hJ19, trivial⟩
          · skip
            refine w_ceq_t dX8_feels_18 (t := 28) rfl (by omega) ?_
            refine w_ic dX8_feels_28 zi_m1 ?_
            refine w_en dX8_feels_29 rfl ?_
            exact ⟨_, _, rfl, (by have := zt_m1; omega), (ztop _), hJ0, trivial⟩
        · skip
          refine w_cge_t dX8_isPlace_12 (t := 19) rfl (by omega) ?_
          refine w_ic dX8_isPlace_19 zi_0 ?_
          refine w_en dX8_isPlace_20 rfl ?_
          show ZW _ _ _ _ _ _ _ (13, [some (.ref 0), some (.int a0), some (.int a1), some (.int a2)], [.int 0], M0)
          refine w_ieq_t dX8_feels_13 (t := 28) rfl (by have := zt_0; omega) ?_
          refine w_ic dX8_feels_28 zi_m1 ?_
          refine w_en dX8_feels_29 rfl ?_
          exact ⟨_, _, rfl, (by have := zt_m1; omega), (ztop _), hJ0, trivial⟩
    · skip
      refine w_cge_t dX8_isPlace_12 (t := 19) rfl (by omega) ?_
      refine w_ic dX8_isPlace_19 zi_0 ?_
      refine w_en dX8_isPlace_20 rfl ?_
      show ZW _ _ _ _ _ _ _ (5, [some (.ref 0), some (.int a0), some (.int a1), some (.int a2)], [.int 0], M0)
      refine w_ieq_t dX8_feels_5 (t := 28) rfl (by have := zt_0; omega) ?_
      refine w_ic dX8_feels_28 zi_m1 ?_
      refine w_en dX8_feels_29 rfl ?_
      exact ⟨_, _, rfl, (by have := zt_m1; omega), (ztop _), hJ0, trivial⟩
set_option maxRecDepth 100000 in
theorem k_2083 {X : List Int32} {d N : Nat} {M0 : zM} (a0 : Int32) (a1 : Int32) (hN : N ≤ 600) (hB0 : zB N M0) : ZV X (d + 6) 2083 [.ref 0, .int a0, .int a1] M0 (zRI N [(362, 363, 1), (26, 28, 1000), (47, 49, 1000), (363, 364, 1000)] M0 (-1) (4095) (fun _ _ => True)) := by
  have hJ0 : zJ N [(362, 363, 1), (26, 28, 1000), (47, 49, 1000), (363, 364, 1000)] M0 M0 := zJ_refl hB0
  refine ZV.of (ini := false) rfl (Nat.le_of_ble_eq_true rfl) (by decide +kernel) ?_
  show ZW _ _ _ _ _ _ _ (0, [some (.ref 0), some (.int a0), some (.int a1)], [], M0)
  refine w_lo dX8_wakes_0 rfl rfl rfl rfl ?_
  refine w_lo dX8_wakes_1 rfl rfl rfl rfl ?_
  refine w_iv dX8_wakes_2 rfl rfl (As := [.int a0]) rfl rfl hJ0.1.1 zs_0 (Nat.le_of_ble_eq_true rfl) ?_
  refine ZV.of (ini := false) rfl (Nat.le_of_ble_eq_true rfl) (by decide +kernel) ?_
  show ZW _ _ _ _ _ _ _ (0, [some (.ref 0), some (.int a0)], [], M0)
  refine w_lo dX8_isPlace_0 rfl rfl rfl rfl ?_
  rcases zcut a0.toInt (0 : Int) with h1 | h1
  · skip
    refine w_ilt_t dX8_isPlace_1 (t := 19) rfl (by omega) ?_
    refine w_ic dX8_isPlace_19 zi_0 ?_
    refine w_en dX8_isPlace_20 rfl ?_
    show ZW _ _ _ _ _ _ _ (5, [some (.ref 0), some (.int a0), some (.int a1)], [.int 0], M0)
    refine w_ieq_t dX8_wakes_5 (t := 15) rfl (by have := zt_0; omega) ?_
    refine w_ic dX8_wakes_15 zi_m1 ?_
    refine w_en dX8_wakes_16 rfl ?_
    exact ⟨_, _, rfl, (by have := zt_m1; omega), (by have := zt_m1; omega), hJ0, trivial⟩
  · skip
    refine w_ilt_f dX8_isPlace_1 (t := 19) rfl (by omega) ?_
    refine w_lo dX8_isPlace_4 rfl rfl rfl rfl ?_
    refine w_lo dX8_isPlace_5 rfl rfl rfl rfl ?_
    refine w_gf dX8_isPlace_6 rfl hJ0.1.1 zs_0 (zr_0_4 hJ0.1) ?_
    refine w_gfi dX8_isPlace_9 rfl hJ0.1 zs_49 (Nat.le_of_ble_eq_true rfl) zo_49_0 ?_
    intro x2 f3 h4 h5
    rcases zcut a0.toInt x2.toInt with h6 | h6
    · skip
      refine w_cge_f dX8_isPlace_12 (t := 19) rfl (by omega) ?_
      refine w_ic dX8_isPlace_15 zi_1 ?_
      refine w_gt dX8_isPlace_16 (t := 20) rfl ?_
      refine w_en dX8_isPlace_20 rfl ?_
      show ZW _ _ _ _ _ _ _ (5, [some (.ref 0), some (.int a0), some (.int a1)], [.int 1], M0)
      refine w_ieq_f dX8_wakes_5 (t := 15) rfl (by have := zt_1; omega) ?_
      refine w_lo dX8_wakes_8 rfl rfl rfl rfl ?_
      refine w_ss dX8_wakes_9 rfl rfl (As := [.int a1]) rfl rfl (Nat.le_of_ble_eq_true rfl) ?_
      refine ZV.of (ini := false) rfl (Nat.le_of_ble_eq_true rfl) (by decide +kernel) ?_
      show ZW _ _ _ _ _ _ _ (0, [some (.int a1)], [], M0)
      refine w_lo dX8_isForce_0 rfl rfl rfl rfl ?_
      refine w_ic dX8_isForce_1 zi_1 ?_
      rcases zcut a1.toInt (1 : Int) with h7 | h7
      · skip
        refine w_clt_t dX8_isForce_2 (t := 16) rfl (by have := zt_1; omega) ?_
        refine w_ic dX8_isForce_16 zi_0 ?_
        refine w_en dX8_isForce_17 rfl ?_
        show ZW _ _ _ _ _ _ _ (12, [some (.ref 0), some (.int a0), some (.int a1)], [.int 0], M0)
        refine w_ine_f dX8_wakes_12 (t := 17) rfl (by have := zt_0; omega) ?_
        refine w_ic dX8_wakes_15 zi_m1 ?_
        refine w_en dX8_wakes_16 rfl ?_
        exact ⟨_, _, rfl, (by have := zt_m1; omega), (by have := zt_m1; omega), hJ0, trivial⟩
      · skip
        refine w_clt_f dX8_isForce_2 (t := 16) rfl (by have := zt_1; omega) ?_
        refine w_lo dX8_isForce_5 rfl rfl rfl rfl ?_
        refine w_si dX8_isForce_6 (c := 9999) (by decide) ?_
        rcases zcut (9999 : Int) a1.toInt with h8 | h8
        · skip
          refine w_cgt_t dX8_isForce_9 (t := 16) rfl (by have := zt_9999; omega) ?_
          refine w_ic dX8_isForce_16 zi_0 ?_
          refine w_en dX8_isForce_17 rfl ?_
          show ZW _ _ _ _ _ _ _ (12, [some (.ref 0), some (.int a0), some (.int a1)], [.int 0], M0)
          refine w_ine_f dX8_wakes_12 (t := 17) rfl (by have := zt_0; omega) ?_
          refine w_ic dX8_wakes_15 zi_m1 ?_
          refine w_en dX8_wakes_16 rfl ?_
          exact ⟨_, _, rfl, (by have := zt_m1; omega), (by have := zt_m1; omega), hJ0, trivial⟩
        · skip
          refine w_cgt_f dX8_isForce_9 (t := 16) rfl (by have := zt_9999; omega) ?_
          refine w_ic dX8_isForce_12 zi_1 ?_
          refine w_gt dX8_isForce_13 (t := 17) rfl ?_
          refine w_en dX8_isForce_17 rfl ?_
          show ZW _ _ _ _ _ _ _ (12, [some (.ref 0), some (.int a0), some (.int a1)], [.int 1], M0)
          refine w_ine_t dX8_wakes_12 (t := 17) rfl (by have := zt_1; omega) ?_
          refine w_lo dX8_wakes_17 rfl rfl rfl rfl ?_
          refine w_gf dX8_wakes_18 rfl hJ0.1.1 zs_0 (zr_0_8 hJ0.1) ?_
          refine w_lo dX8_wakes_21 rfl rfl rfl rfl ?_
          obtain ⟨b9, f10, h11⟩ := zd_0_3 hJ0.1
          have h12 := zDm_b h11
          refine w_gf dX8_wakes_22 rfl hJ0.1.1 zs_0 f10 ?_
          refine w_lo dX8_wakes_25 rfl rfl rfl rfl ?_
          refine w_gf dX8_wakes_26 rfl hJ0.1.1 zs_0 (zr_0_4 hJ0.1) ?_
          refine w_lo dX8_wakes_29 rfl rfl rfl rfl ?_
          refine w_lo dX8_wakes_30 rfl rfl rfl rfl ?_
          refine w_iv dX8_wakes_31 rfl rfl (As := [.ref b9, .ref 49, .int a0, .int a1]) rfl rfl hJ0.1.1 zs_362 (Nat.le_of_ble_eq_true rfl) ?_
          refine ZV.imp (k_1794 362 hb_7_362 b9 h11 49 hb_6_49 a0 (by omega) (by omega) a1 hN hJ0.1) ?_
          rintro _ ⟨M13, rfl, hJ14, hq15⟩
          have hJ16 := zJ_trans hJ0 hJ14 (zSub_cons (fun _ _ h h' hk => ((zDm_or h11).elim (fun e => zIR_s (zIR_a (by omega) (by omega))) (fun e => zIR_s (zIR_s (zIR_a (by omega) (by omega)))))) (zSub_cons (fun _ _ h h' hk => zIR_e (by omega) (by omega) hk) (zSub_cons (fun _ _ h h' hk => zIR_s (zIR_s (zIR_s (zIR_a (by omega) (by omega))))) zSub_nil)))
          show ZW _ _ _ _ _ _ _ (34, [some (.ref 0), some (.int a0), some (.int a1)], [], M13)
          refine w_lo dX8_wakes_34 rfl rfl rfl rfl ?_
          refine w_gf dX8_wakes_35 rfl hJ16.1.1 zs_0 (zr_0_8 hJ16.1) ?_
          refine w_gfi dX8_wakes_38 rfl hJ16.1 zs_362 (Nat.le_of_ble_eq_true rfl) zo_362_1 ?_
          intro x17 f18 h19 h20
          refine w_eni dX8_wakes_41 rfl rfl ?_
          exact ⟨_, _, rfl, (by omega), (by omega), hJ16, trivial⟩
    · skip
      refine w_cge_t dX8_isPlace_12 (t := 19) rfl (by omega) ?_
      refine w_ic dX8_isPlace_19 zi_0 ?_
      refine w_en dX8_isPlace_20 rfl ?_
      show ZW _ _ _ _ _ _ _ (5, [some (.ref 0), some (.int a0), some (.int a1)], [.int 0], M0)
      refine w_ieq_t dX8_wakes_5 (t := 15) rfl (by have := zt_0; omega) ?_
      refine w_ic dX8_wakes_15 zi_m1 ?_
      refine w_en dX8_wakes_16 rfl ?_
      exact ⟨_, _, rfl, (by have := zt_m1; omega), (by have := zt_m1; omega), hJ0, trivial⟩
set_option maxRecDepth 100000 in
theorem k_2084 {X : List Int32} {d N : Nat} {M0 : zM} (a0 : Int32) (a1 : Int32) (hN : N ≤ 600) (hB0 : zB N M0) : ZV X (d + 6) 2084 [.ref 0, .int a0, .int a1] M0 (zRI N [(362, 363, 1), (26, 28, 1000), (47, 49, 1000), (363, 364, 1000)] M0 (-1) (9999) (fun _ _ => True)) := by
  have hJ0 : zJ N [(362, 363, 1), (26, 28, 1000), (47, 49, 1000), (363, 364, 1000)] M0 M0 := zJ_refl hB0
  refine ZV.of (ini := false) rfl (Nat.le_of_ble_eq_true rfl) (by decide +kernel) ?_
  have main : ∀ n : Nat,
      (∀ (M : zM) (v61_1 : Int32) (v61_2 : Int32) (u61_3 : Int32) (v61_4 : Int32), zJ N [(362, 363, 1), (26, 28, 1000), (47, 49, 1000), (363, 364, 1000)] M0 M → ((0 : Int) ≤ v61_1.toInt) → (v61_1.toInt ≤ 11) → ((0 : Int) ≤ v61_2.toInt) → (v61_2.toInt ≤ 11) → ((1 : Int) ≤ v61_4.toInt) → (v61_4.toInt ≤ 10000) → 3 * (10000 - v61_4.toInt) + 1 < (n : Int) → ZW X (d + 5) 8 false (some .int) cX8_least (zRI N [(362, 363, 1), (26, 28, 1000), (47, 49, 1000), (363, 364, 1000)] M0 (-1) (9999) (fun _ _ => True)) (61, [some (.ref 0), some (.int v61_1), some (.int v61_2), some (.int u61_3), some (.int v61_4)], [], M)) := by
    intro n
    induction n with
    | zero =>
      exact (fun M v61_1 v61_2 u61_3 v61_4 hJ v61_10 v61_11 v61_20 v61_21 v61_40 v61_41 hn => absurd hn (by omega))
    | succ n ih =>
      have ih61 := ih
      · intro M v61_1 v61_2 u61_3 v61_4 hJ v61_10 v61_11 v61_20 v61_21 v61_40 v61_41 hn
        refine w_lo dX8_least_61 rfl rfl rfl rfl ?_
        refine w_si dX8_least_63 (c := 9999) (by decide) ?_
        rcases zcut (9999 : Int) v61_4.toInt with h1 | h1
        · skip
          refine w_cgt_t dX8_least_66 (t := 111) rfl (by have := zt_9999; omega) ?_
          refine w_ic dX8_least_111 zi_m1 ?_
          refine w_en dX8_least_112 rfl ?_
          exact ⟨_, _, rfl, (by have := zt_m1; omega), (by have := zt_m1; omega), hJ, trivial⟩
        · skip
          refine w_cgt_f dX8_least_66 (t := 111) rfl (by have := zt_9999; omega) ?_
          refine w_lo dX8_least_69 rfl rfl rfl rfl ?_
          refine w_gf dX8_least_70 rfl hJ.1.1 zs_0 (zr_0_8 hJ.1) ?_
          refine w_lo dX8_least_73 rfl rfl rfl rfl ?_
          obtain ⟨b2, f3, h4⟩ := zd_0_3 hJ.1
          have h5 := zDm_b h4
          refine w_gf dX8_least_74 rfl hJ.1.1 zs_0 f3 ?_
          refine w_lo dX8_least_77 rfl rfl rfl rfl ?_
          refine w_gf dX8_least_78 rfl hJ.1.1 zs_0 (zr_0_4 hJ.1) ?_
          refine w_lo dX8_least_81 rfl rfl rfl rfl ?_
          refine w_lo dX8_least_82 rfl rfl rfl rfl ?_
          refine w_iv dX8_least_84 rfl rfl (As := [.ref b2, .ref 49, .int v61_1, .int v61_4]) rfl rfl hJ.1.1 zs_362 (Nat.le_of_ble_eq_true rfl) ?_
          refine ZV.imp (k_1794 362 hb_7_362 b2 h4 49 hb_6_49 v61_1 (by omega) (by omega) v61_4 hN hJ.1) ?_
          rintro _ ⟨M6, rfl, hJ7, hq8⟩
          have hJ9 := zJ_trans hJ hJ7 (zSub_cons (fun _ _ h h' hk => ((zDm_or h4).elim (fun e => zIR_s (zIR_a (by omega) (by omega))) (fun e => zIR_s (zIR_s (zIR_a (by omega) (by omega)))))) (zSub_cons (fun _ _ h h' hk => zIR_e (by omega) (by omega) hk) (zSub_cons (fun _ _ h h' hk => zIR_s (zIR_s (zIR_s (zIR_a (by omega) (by omega))))) zSub_nil)))
          show ZW _ _ _ _ _ _ _ (87, [some (.ref 0), some (.int v61_1), some (.int v61_2), some (.int u61_3), some (.int v61_4)], [], M6)
          refine w_lo dX8_least_87 rfl rfl rfl rfl ?_
          refine w_gf dX8_least_88 rfl hJ9.1.1 zs_0 (zr_0_8 hJ9.1) ?_
          refine w_gfi dX8_least_91 rfl hJ9.1 zs_362 (Nat.le_of_ble_eq_true rfl) zo_362_1 ?_
          intro x10 f11 h12 h13
          refine w_lo dX8_least_94 rfl rfl rfl rfl ?_
          refine w_puI dX8_least_95 rfl rfl ?_
          intro x14
          refine w_ic dX8_least_96 zi_1 ?_
          refine w_and dX8_least_97 (m := 1) zt_1 (by omega) ?_
          intro x15 h16 h17
          refine w_ic dX8_least_98 zi_1 ?_
          rcases Int.decEq x15.toInt (1 : Int) with h18 | h18
          · skip
            refine w_cne_t dX8_least_99 (t := 105) rfl (by have := zt_1; omega) ?_
            refine w_inc (kk := 4) dX8_least_105 rfl (m := 1) (by decide) (by omega) ?_
            intro x19 h20
            refine ⟨_, rfl, ?_⟩
            show ZW _ _ _ _ _ _ _ (108, [some (.ref 0), some (.int v61_1), some (.int v61_2), some (.int u61_3), some (.int x19)], [], M6)
            refine w_gt dX8_least_108 (t := 61) rfl ?_
            exact ih61 M6 v61_1 v61_2 u61_3 x19 hJ9 (by omega) (by omega) (by omega) (by omega) (by omega) (by omega) (by omega)
          · skip
            refine w_cne_f dX8_least_99 (t := 105) rfl (by have := zt_1; omega) ?_
            refine w_lo dX8_least_102 rfl rfl rfl rfl ?_
            refine w_eni dX8_least_104 rfl rfl ?_
            exact ⟨_, _, rfl, (by omega), (by omega), hJ9, trivial⟩
  have ih61 := main 30009
  show ZW _ _ _ _ _ _ _ (0, [some (.ref 0), some (.int a0), some (.int a1), none, none], [], M0)
  refine w_lo dX8_least_0 rfl rfl rfl rfl ?_
  refine w_lo dX8_least_1 rfl rfl rfl rfl ?_
  refine w_iv dX8_least_2 rfl rfl (As := [.int a0]) rfl rfl hJ0.1.1 zs_0 (Nat.le_of_ble_eq_true rfl) ?_
  refine ZV.of (ini := false) rfl (Nat.le_of_ble_eq_true rfl) (by decide +kernel) ?_
  show ZW _ _ _ _ _ _ _ (0, [some (.ref 0), some (.int a0)], [], M0)
  refine w_lo dX8_isPlace_0 rfl rfl rfl rfl ?_
  rcases zcut a0.toInt (0 : Int) with h21 | h21
  · skip
    refine w_ilt_t dX8_isPlace_1 (t := 19) rfl (by omega) ?_
    refine w_ic dX8_isPlace_19 zi_0 ?_
    refine w_en dX8_isPlace_20 rfl ?_
    show ZW _ _ _ _ _ _ _ (5, [some (.ref 0), some (.int a0), some (.int a1), none, none], [.int 0], M0)
    refine w_ieq_t dX8_least_5 (t := 21) rfl (by have := zt_0; omega) ?_
    refine w_ic dX8_least_21 zi_m1 ?_
    refine w_en dX8_least_22 rfl ?_
    exact ⟨_, _, rfl, (by have := zt_m1; omega), (by have := zt_m1; omega), hJ0, trivial⟩
  · skip
    refine w_ilt_f dX8_isPlace_1 (t := 19) rfl (by omega) ?_
    refine w_lo dX8_isPlace_4 rfl rfl rfl rfl ?_
    refine w_lo dX8_isPlace_5 rfl rfl rfl rfl ?_
    refine w_gf dX8_isPlace_6 rfl hJ0.1.1 zs_0 (zr_0_4 hJ0.1) ?_
    refine w_gfi dX8_isPlace_9 rfl hJ0.1 zs_49 (Nat.le_of_ble_eq_true rfl) zo_49_0 ?_
    intro x22 f23 h24 h25
    rcases zcut a0.toInt x22.toInt with h26 | h26
    · skip
      refine w_cge_f dX8_isPlace_12 (t := 19) rfl (by omega) ?_
      refine w_ic dX8_isPlace_15 zi_1 ?_
      refine w_gt dX8_isPlace_16 (t := 20) rfl ?_
      refine w_en dX8_isPlace_20 rfl ?_
      show ZW _ _ _ _ _ _ _ (5, [some (.ref 0), some (.int a0), some (.int a1), none, none], [.int 1], M0)
      refine w_ieq_f dX8_least_5 (t := 21) rfl (by have := zt_1; omega) ?_
      refine w_lo dX8_least_8 rfl rfl rfl rfl ?_
      refine w_lo dX8_least_9 rfl rfl rfl rfl ?_
      refine w_iv dX8_least_10 rfl rfl (As := [.int a1]) rfl rfl hJ0.1.1 zs_0 (Nat.le_of_ble_eq_true rfl) ?_
      refine ZV.of (ini := false) rfl (Nat.le_of_ble_eq_true rfl) (by decide +kernel) ?_
      show ZW _ _ _ _ _ _ _ (0, [some (.ref 0), some (.int a1)], [], M0)
      refine w_lo dX8_isPlace_0 rfl rfl rfl rfl ?_
      rcases zcut a1.toInt (0 : Int) with h27 | h27
      · skip
        refine w_ilt_t dX8_isPlace_1 (t := 19) rfl (by omega) ?_
        refine w_ic dX8_isPlace_19 zi_0 ?_
        refine w_en dX8_isPlace_20 rfl ?_
        show ZW _ _ _ _ _ _ _ (13, [some (.ref 0), some (.int a0), some (.int a1), none, none], [.int 0], M0)
        refine w_ieq_t dX8_least_13 (t := 21) rfl (by have := zt_0; omega) ?_
        refine w_ic dX8_least_21 zi_m1 ?_
        refine w_en dX8_least_22 rfl ?_
        exact ⟨_, _, rfl, (by have := zt_m1; omega), (by have := zt_m1; omega), hJ0, trivial⟩
      · skip
        refine w_ilt_f dX8_isPlace_1 (t := 19) rfl (by omega) ?_
        refine w_lo dX8_isPlace_4 rfl rfl rfl rfl ?_
        refine w_lo dX8_isPlace_5 rfl rfl rfl rfl ?_
        refine w_gf dX8_isPlace_6 rfl hJ0.1.1 zs_0 (zr_0_4 hJ0.1) ?_
        refine w_gf dX8_isPlace_9 rfl hJ0.1.1 zs_49 f23 ?_
        rcases zcut a1.toInt x22.toInt with h28 | h28
        · skip
          refine w_cge_f dX8_isPlace_12 (t := 19) rfl (by omega) ?_
          refine w_ic dX8_isPlace_15 zi_1 ?_
          refine w_gt dX8_isPlace_16 (t := 20) rfl ?_
          refine w_en dX8_isPlace_20 rfl ?_
          show ZW _ _ _ _ _ _ _ (13, [some (.ref 0), some (.int a0), some (.int a1), none, none], [.int 1], M0)
          refine w_ieq_f dX8_least_13 (t := 21) rfl (by have := zt_1; omega) ?_
          refine w_lo dX8_least_16 rfl rfl rfl rfl ?_
          refine w_lo dX8_least_17 rfl rfl rfl rfl ?_
          rcases Int.decEq a0.toInt a1.toInt with h29 | h29
          · skip
            refine w_cne_t dX8_least_18 (t := 23) rfl (by omega) ?_
            refine w_lo dX8_least_23 rfl rfl rfl rfl ?_
            refine w_gf dX8_least_24 rfl hJ0.1.1 zs_0 (zr_0_4 hJ0.1) ?_
            refine w_gf dX8_least_27 rfl hJ0.1.1 zs_49 (zr_49_2 hJ0.1) ?_
            refine w_lo dX8_least_30 rfl rfl rfl rfl ?_
            refine w_iai dX8_least_31 hJ0.1 zs_50 (by omega) (by omega) zu_50 ?_
            intro x33 f30 h31 h32
            refine w_lo (ml' := [some (.ref 0), some (.int a0), some (.int a1), some (.int x33), none]) dX8_least_32 rfl rfl rfl rfl ?_
            refine w_lo dX8_least_33 rfl rfl rfl rfl ?_
            obtain ⟨b34, f35, h36⟩ := zd_0_3 hJ0.1
            have h37 := zDm_b h36
            refine w_gf dX8_least_34 rfl hJ0.1.1 zs_0 f35 ?_
            refine w_lo dX8_least_37 rfl rfl rfl rfl ?_
            refine w_iv dX8_least_38 rfl rfl (As := [.int x33]) rfl rfl hJ0.1.1 (zs_1_0 h36) (Nat.le_of_ble_eq_true rfl) ?_
            refine ZV.imp (k_260 b34 h36 x33 (by omega) (by omega) hN hJ0.1) ?_
            rintro _ ⟨x41, M38, rfl, h42, h43, hJ39, hq40⟩
            have hJ44 := zJ_trans hJ0 hJ39 zSub_nil
            show ZW _ _ _ _ _ _ _ (41, [some (.ref 0), some (.int a0), some (.int a1), some (.int x33), none], [.int x41], M38)
            rcases Int.decEq x41.toInt (0 : Int) with h45 | h45
            · skip
              refine w_ine_t dX8_least_41 (t := 56) rfl (by omega) ?_
              refine w_ic dX8_least_56 zi_m1 ?_
              refine w_en dX8_least_57 rfl ?_
              exact ⟨_, _, rfl, (by have := zt_m1; omega), (by have := zt_m1; omega), hJ44, trivial⟩
            · skip
              refine w_ine_f dX8_least_41 (t := 56) rfl (by omega) ?_
              refine w_lo dX8_least_44 rfl rfl rfl rfl ?_
              refine w_gf dX8_least_45 rfl hJ44.1.1 zs_0 (zr_0_4 hJ44.1) ?_
              refine w_gf dX8_least_48 rfl hJ44.1.1 zs_49 (zr_49_3 hJ44.1) ?_
              refine w_lo dX8_least_51 rfl rfl rfl rfl ?_
              refine w_bai dX8_least_52 hJ44.1 zs_51 (by omega) (by omega) zu_51 ?_
              intro x49 f46 h47 h48
              rcases Int.decEq x49.toInt (0 : Int) with h50 | h50
              · skip
                refine w_ine_t dX8_least_53 (t := 58) rfl (by omega) ?_
                refine w_ic dX8_least_58 zi_1 ?_
                refine w_lo (ml' := [some (.ref 0), some (.int a0), some (.int a1), some (.int x33), some (.int 1)]) dX8_least_59 rfl rfl rfl rfl ?_
                exact ih61 M38 a0 a1 x33 1 hJ44 (by omega) (by omega) (by omega) (by omega) (by have := zt_1; omega) (by have := zt_1; omega) (by have := zt_1; omega)
              · skip
                refine w_ine_f dX8_least_53 (t := 58) rfl (by omega) ?_
                refine w_ic dX8_least_56 zi_m1 ?_
                refine w_en dX8_least_57 rfl ?_
                exact ⟨_, _, rfl, (by have := zt_m1; omega), (by have := zt_m1; omega), hJ44, trivial⟩
          · skip
            refine w_cne_f dX8_least_18 (t := 23) rfl (by omega) ?_
            refine w_ic dX8_least_21 zi_m1 ?_
            refine w_en dX8_least_22 rfl ?_
            exact ⟨_, _, rfl, (by have := zt_m1; omega), (by have := zt_m1; omega), hJ0, trivial⟩
        · skip
          refine w_cge_t dX8_isPlace_12 (t := 19) rfl (by omega) ?_
          refine w_ic dX8_isPlace_19 zi_0 ?_
          refine w_en dX8_isPlace_20 rfl ?_
          show ZW _ _ _ _ _ _ _ (13, [some (.ref 0), some (.int a0), some (.int a1), none, none], [.int 0], M0)
          refine w_ieq_t dX8_least_13 (t := 21) rfl (by have := zt_0; omega) ?_
          refine w_ic dX8_least_21 zi_m1 ?_
          refine w_en dX8_least_22 rfl ?_
          exact ⟨_, _, rfl, (by have := zt_m1; omega), (by have := zt_m1; omega), hJ0, trivial⟩
    · skip
      refine w_cge_t dX8_isPlace_12 (t := 19) rfl (by omega) ?_
      refine w_ic dX8_isPlace_19 zi_0 ?_
      refine w_en dX8_isPlace_20 rfl ?_
      show ZW _ _ _ _ _ _ _ (5, [some (.ref 0), some (.int a0), some (.int a1), none, none], [.int 0], M0)
      refine w_ieq_t dX8_least_5 (t := 21) rfl (by have := zt_0; omega) ?_
      refine w_ic dX8_least_21 zi_m1 ?_
      refine w_en dX8_least_22 rfl ?_
      exact ⟨_, _, rfl, (by have := zt_m1; omega), (by have := zt_m1; omega), hJ0, trivial⟩
set_option maxRecDepth 100000 in
theorem k_2085 {X : List Int32} {d N : Nat} {M0 : zM}  (hN : N ≤ 600) (hB0 : zB N M0) : ZV X (d + 8) 2085 [.ref 0] M0 (zRI N [(367, 368, 0), (367, 368, 1), (381, 382, 1), (26, 28, 1000), (47, 49, 1000), (368, 380, 1000), (382, 383, 1000), (367, 368, 14)] M0 (-2147483648) (2147483647) (fun _ _ => True)) := by
  have hJ0 : zJ N [(367, 368, 0), (367, 368, 1), (381, 382, 1), (26, 28, 1000), (47, 49, 1000), (368, 380, 1000), (382, 383, 1000), (367, 368, 14)] M0 M0 := zJ_refl hB0
  refine ZV.of (ini := false) rfl (Nat.le_of_ble_eq_true rfl) (by decide +kernel) ?_
  show ZW _ _ _ _ _ _ _ (0, [some (.ref 0)], [], M0)
  refine w_lo dX8_bad_0 rfl rfl rfl rfl ?_
  refine w_gf dX8_bad_1 rfl hJ0.1.1 zs_0 (zr_0_9 hJ0.1) ?_
  refine w_lo dX8_bad_4 rfl rfl rfl rfl ?_
  obtain ⟨b1, f2, h3⟩ := zd_0_3 hJ0.1
  have h4 := zDm_b h3
  refine w_gf dX8_bad_5 rfl hJ0.1.1 zs_0 f2 ?_
  refine w_lo dX8_bad_8 rfl rfl rfl rfl ?_
  refine w_gf dX8_bad_9 rfl hJ0.1.1 zs_0 (zr_0_4 hJ0.1) ?_
  refine w_iv dX8_bad_12 rfl rfl (As := [.ref b1, .ref 49]) rfl rfl hJ0.1.1 zs_364 (Nat.le_of_ble_eq_true rfl) ?_
  refine ZV.imp (k_1025 b1 h3 49 hb_6_49 hN hJ0.1) ?_
  rintro _ ⟨x8, M5, rfl, h9, h10, hJ6, hq7⟩
  have hJ11 := zJ_trans hJ0 hJ6 (zSub_cons (fun _ _ h h' hk => ((zDm_or h3).elim (fun e => zIR_s (zIR_s (zIR_s (zIR_a (by omega) (by omega))))) (fun e => zIR_s (zIR_s (zIR_s (zIR_s (zIR_a (by omega) (by omega)))))))) (zSub_cons (fun _ _ h h' hk => zIR_e (by omega) (by omega) hk) (zSub_cons (fun _ _ h h' hk => zIR_s (zIR_e (by omega) (by omega) hk)) (zSub_cons (fun _ _ h h' hk => zIR_s (zIR_s (zIR_e (by omega) (by omega) hk))) (zSub_cons (fun _ _ h h' hk => zIR_s (zIR_s (zIR_s (zIR_s (zIR_s (zIR_a (by omega) (by omega))))))) (zSub_cons (fun _ _ h h' hk => zIR_s (zIR_s (zIR_s (zIR_s (zIR_s (zIR_s (zIR_a (by omega) (by omega)))))))) (zSub_cons (fun _ _ h h' hk => zIR_s (zIR_s (zIR_s (zIR_s (zIR_s (zIR_s (zIR_s (zIR_e (by omega) (by omega) hk)))))))) zSub_nil)))))))
  show ZW _ _ _ _ _ _ _ (15, [some (.ref 0)], [.int x8], M5)
  refine w_eni dX8_bad_15 rfl rfl ?_
  exact ⟨_, _, rfl, (zbot _), (ztop _), hJ11, trivial⟩
set_option maxRecDepth 100000 in
theorem k_2086 {X : List Int32} {d N : Nat} {M0 : zM} (a0 : Int32) (hN : N ≤ 600) (hB0 : zB N M0) : ZV X (d + 8) 2086 [.ref 0, .int a0] M0 (zRI N [(364, 365, 0), (367, 368, 0), (367, 368, 1), (381, 382, 1), (26, 28, 1000), (47, 49, 1000), (365, 366, 1000), (368, 380, 1000), (382, 383, 1000), (367, 368, 14), (364, 365, 7)] M0 (-2147483648) (2147483647) (fun _ _ => True)) := by
  have hJ0 : zJ N [(364, 365, 0), (367, 368, 0), (367, 368, 1), (381, 382, 1), (26, 28, 1000), (47, 49, 1000), (365, 366, 1000), (368, 380, 1000), (382, 383, 1000), (367, 368, 14), (364, 365, 7)] M0 M0 := zJ_refl hB0
  refine ZV.of (ini := false) rfl (Nat.le_of_ble_eq_true rfl) (by decide +kernel) ?_
  show ZW _ _ _ _ _ _ _ (0, [some (.ref 0), some (.int a0)], [], M0)
  refine w_lo dX8_best_0 rfl rfl rfl rfl ?_
  refine w_gf dX8_best_1 rfl hJ0.1.1 zs_0 (zr_0_4 hJ0.1) ?_
  refine w_gfi dX8_best_4 rfl hJ0.1 zs_49 (Nat.le_of_ble_eq_true rfl) zo_49_0 ?_
  intro x1 f2 h3 h4
  refine w_ic dX8_best_7 zi_1 ?_
  rcases zcut x1.toInt (1 : Int) with h5 | h5
  · skip
    refine w_clt_t dX8_best_8 (t := 39) rfl (by have := zt_1; omega) ?_
    refine w_ic dX8_best_39 zi_m1 ?_
    refine w_en dX8_best_40 rfl ?_
    exact ⟨_, _, rfl, (zbot _), (ztop _), hJ0, trivial⟩
  · skip
    refine w_clt_f dX8_best_8 (t := 39) rfl (by have := zt_1; omega) ?_
    refine w_lo dX8_best_11 rfl rfl rfl rfl ?_
    refine w_gf dX8_best_12 rfl hJ0.1.1 zs_0 (zr_0_4 hJ0.1) ?_
    refine w_gf dX8_best_15 rfl hJ0.1.1 zs_49 f2 ?_
    refine w_bi dX8_best_18 (c := 6) (by decide) ?_
    rcases zcut (6 : Int) x1.toInt with h6 | h6
    · skip
      refine w_cgt_t dX8_best_20 (t := 39) rfl (by have := zt_6; omega) ?_
      refine w_ic dX8_best_39 zi_m1 ?_
      refine w_en dX8_best_40 rfl ?_
      exact ⟨_, _, rfl, (zbot _), (ztop _), hJ0, trivial⟩
    · skip
      refine w_cgt_f dX8_best_20 (t := 39) rfl (by have := zt_6; omega) ?_
      refine w_lo dX8_best_23 rfl rfl rfl rfl ?_
      refine w_ic dX8_best_24 zi_m1 ?_
      rcases zcut a0.toInt (-1 : Int) with h7 | h7
      · skip
        refine w_clt_t dX8_best_25 (t := 39) rfl (by have := zt_m1; omega) ?_
        refine w_ic dX8_best_39 zi_m1 ?_
        refine w_en dX8_best_40 rfl ?_
        exact ⟨_, _, rfl, (zbot _), (ztop _), hJ0, trivial⟩
      · skip
        refine w_clt_f dX8_best_25 (t := 39) rfl (by have := zt_m1; omega) ?_
        refine w_lo dX8_best_28 rfl rfl rfl rfl ?_
        refine w_lo dX8_best_29 rfl rfl rfl rfl ?_
        refine w_gf dX8_best_30 rfl hJ0.1.1 zs_0 (zr_0_4 hJ0.1) ?_
        refine w_gf dX8_best_33 rfl hJ0.1.1 zs_49 f2 ?_
        rcases zcut a0.toInt x1.toInt with h8 | h8
        · skip
          refine w_clt_t dX8_best_36 (t := 41) rfl (by omega) ?_
          refine w_lo dX8_best_41 rfl rfl rfl rfl ?_
          refine w_gf dX8_best_42 rfl hJ0.1.1 zs_0 (zr_0_9 hJ0.1) ?_
          refine w_lo dX8_best_45 rfl rfl rfl rfl ?_
          obtain ⟨b9, f10, h11⟩ := zd_0_3 hJ0.1
          have h12 := zDm_b h11
          refine w_gf dX8_best_46 rfl hJ0.1.1 zs_0 f10 ?_
          refine w_lo dX8_best_49 rfl rfl rfl rfl ?_
          refine w_gf dX8_best_50 rfl hJ0.1.1 zs_0 (zr_0_4 hJ0.1) ?_
          refine w_lo dX8_best_53 rfl rfl rfl rfl ?_
          refine w_gfi dX8_best_54 rfl hJ0.1 zs_0 (Nat.le_of_ble_eq_true rfl) zo_0_15 ?_
          intro x13 f14 h15 h16
          refine w_iv dX8_best_57 rfl rfl (As := [.ref b9, .ref 49, .int x13]) rfl rfl hJ0.1.1 zs_364 (Nat.le_of_ble_eq_true rfl) ?_
          refine ZV.imp (k_1028 b9 h11 49 hb_6_49 x13 hN hJ0.1) ?_
          rintro _ ⟨M17, rfl, hJ18, hq19⟩
          have hJ20 := zJ_trans hJ0 hJ18 (zSub_cons (fun _ _ h h' hk => ((zDm_or h11).elim (fun e => zIR_s (zIR_s (zIR_s (zIR_s (zIR_a (by omega) (by omega)))))) (fun e => zIR_s (zIR_s (zIR_s (zIR_s (zIR_s (zIR_a (by omega) (by omega))))))))) (zSub_cons (fun _ _ h h' hk => zIR_e (by omega) (by omega) hk) (zSub_cons (fun _ _ h h' hk => zIR_s (zIR_e (by omega) (by omega) hk)) (zSub_cons (fun _ _ h h' hk => zIR_s (zIR_s (zIR_e (by omega) (by omega) hk))) (zSub_cons (fun _ _ h h' hk => zIR_s (zIR_s (zIR_s (zIR_e (by omega) (by omega) hk)))) (zSub_cons (fun _ _ h h' hk => zIR_s (zIR_s (zIR_s (zIR_s (zIR_s (zIR_s (zIR_a (by omega) (by omega)))))))) (zSub_cons (fun _ _ h h' hk => zIR_s (zIR_s (zIR_s (zIR_s (zIR_s (zIR_s (zIR_s (zIR_a (by omega) (by omega))))))))) (zSub_cons (fun _ _ h h' hk => zIR_s (zIR_s (zIR_s (zIR_s (zIR_s (zIR_s (zIR_s (zIR_s (zIR_a (by omega) (by omega)))))))))) (zSub_cons (fun _ _ h h' hk => zIR_s (zIR_s (zIR_s (zIR_s (zIR_s (zIR_s (zIR_s (zIR_s (zIR_s (zIR_e (by omega) (by omega) hk)))))))))) (zSub_cons (fun _ _ h h' hk => zIR_s (zIR_s (zIR_s (zIR_s (zIR_s (zIR_s (zIR_s (zIR_s (zIR_s (zIR_s (zIR_e (by omega) (by omega) hk))))))))))) zSub_nil))))))))))
          show ZW _ _ _ _ _ _ _ (60, [some (.ref 0), some (.int a0)], [], M17)
          refine w_lo dX8_best_60 rfl rfl rfl rfl ?_
          refine w_ic dX8_best_61 zi_m1 ?_
          rcases Int.decEq a0.toInt (-1 : Int) with h21 | h21
          · skip
            refine w_cne_t dX8_best_62 (t := 75) rfl (by have := zt_m1; omega) ?_
            refine w_lo dX8_best_75 rfl rfl rfl rfl ?_
            refine w_gf dX8_best_76 rfl hJ20.1.1 zs_0 (zr_0_9 hJ20.1) ?_
            refine w_gf dX8_best_79 rfl hJ20.1.1 zs_364 (zr_364_1 hJ20.1) ?_
            refine w_lo dX8_best_82 rfl rfl rfl rfl ?_
            refine w_iai dX8_best_83 hJ20.1 zs_365 (by omega) (by omega) zu_365 ?_
            intro x25 f22 h23 h24
            refine w_eni dX8_best_84 rfl rfl ?_
            exact ⟨_, _, rfl, (zbot _), (ztop _), hJ20, trivial⟩
          · skip
            refine w_cne_f dX8_best_62 (t := 75) rfl (by have := zt_m1; omega) ?_
            refine w_lo dX8_best_65 rfl rfl rfl rfl ?_
            refine w_gf dX8_best_66 rfl hJ20.1.1 zs_0 (zr_0_9 hJ20.1) ?_
            refine w_gfi dX8_best_69 rfl hJ20.1 zs_364 (Nat.le_of_ble_eq_true rfl) zo_364_0 ?_
            intro x26 f27 h28 h29
            refine w_gt dX8_best_72 (t := 84) rfl ?_
            refine w_eni dX8_best_84 rfl rfl ?_
            exact ⟨_, _, rfl, (zbot _), (ztop _), hJ20, trivial⟩
        · skip
          refine w_clt_f dX8_best_36 (t := 41) rfl (by omega) ?_
          refine w_ic dX8_best_39 zi_m1 ?_
          refine w_en dX8_best_40 rfl ?_
          exact ⟨_, _, rfl, (zbot _), (ztop _), hJ0, trivial⟩
set_option maxRecDepth 100000 in
theorem k_2087 {X : List Int32} {d N : Nat} {M0 : zM} (a0 : Int32) (hN : N ≤ 600) (hB0 : zB N M0) : ZV X (d + 8) 2087 [.ref 0, .int a0] M0 (zRI N [(367, 368, 0), (367, 368, 1), (381, 382, 1), (26, 28, 1000), (47, 49, 1000), (366, 367, 1000), (368, 380, 1000), (382, 383, 1000), (367, 368, 14), (364, 365, 2), (364, 365, 3), (364, 365, 8)] M0 (-2147483648) (2147483647) (fun _ _ => True)) := by
  have hJ0 : zJ N [(367, 368, 0), (367, 368, 1), (381, 382, 1), (26, 28, 1000), (47, 49, 1000), (366, 367, 1000), (368, 380, 1000), (382, 383, 1000), (367, 368, 14), (364, 365, 2), (364, 365, 3), (364, 365, 8)] M0 M0 := zJ_refl hB0
  refine ZV.of (ini := false) rfl (Nat.le_of_ble_eq_true rfl) (by decide +kernel) ?_
  have main : ∀ n : Nat,
      (∀ (M : zM) (v19_1 : Int32) (o19_2 : Option Value), zJ N [(367, 368, 0), (367, 368, 1), (381, 382, 1), (26, 28, 1000), (47, 49, 1000), (366, 367, 1000), (368, 380, 1000), (382, 383, 1000), (367, 368, 14), (364, 365, 2), (364, 365, 3), (364, 365, 8)] M0 M → ((-1 : Int) ≤ v19_1.toInt) → (v19_1.toInt ≤ 20) → 1 < (n : Int) → ZW X (d + 7) 8 false (some .int) cX8_exchange (zRI N [(367, 368, 0), (367, 368, 1), (381, 382, 1), (26, 28, 1000), (47, 49, 1000), (366, 367, 1000), (368, 380, 1000), (382, 383, 1000), (367, 368, 14), (364, 365, 2), (364, 365, 3), (364, 365, 8)] M0 (-2147483648) (2147483647) (fun _ _ => True)) (19, [some (.ref 0), some (.int v19_1), o19_2], [], M)) := by
    intro n
    induction n with
    | zero =>
      exact (fun M v19_1 o19_2 hJ v19_10 v19_11 hn => absurd hn (by omega))
    | succ n ih =>
      have ih19 := ih
      · intro M v19_1 o19_2 hJ v19_10 v19_11 hn
        refine w_ic dX8_exchange_19 zi_1 ?_
        refine w_gt dX8_exchange_20 (t := 24) rfl ?_
        refine w_lo (ml' := [some (.ref 0), some (.int v19_1), some (.int 1)]) dX8_exchange_24 rfl rfl rfl rfl ?_
        refine w_lo dX8_exchange_25 rfl rfl rfl rfl ?_
        refine w_gf dX8_exchange_26 rfl hJ.1.1 zs_0 (zr_0_4 hJ.1) ?_
        refine w_gfi dX8_exchange_29 rfl hJ.1 zs_49 (Nat.le_of_ble_eq_true rfl) zo_49_0 ?_
        intro x1 f2 h3 h4
        refine w_ic dX8_exchange_32 zi_1 ?_
        rcases zcut x1.toInt (1 : Int) with h5 | h5
        · skip
          refine w_clt_t dX8_exchange_33 (t := 40) rfl (by have := zt_1; omega) ?_
          refine w_ic dX8_exchange_40 zi_m1 ?_
          refine w_en dX8_exchange_41 rfl ?_
          exact ⟨_, _, rfl, (zbot _), (ztop _), hJ, trivial⟩
        · skip
          refine w_clt_f dX8_exchange_33 (t := 40) rfl (by have := zt_1; omega) ?_
          refine w_lo dX8_exchange_36 rfl rfl rfl rfl ?_
          refine w_ine_t dX8_exchange_37 (t := 42) rfl (by have := zt_1; omega) ?_
          refine w_lo dX8_exchange_42 rfl rfl rfl rfl ?_
          refine w_gf dX8_exchange_43 rfl hJ.1.1 zs_0 (zr_0_9 hJ.1) ?_
          refine w_lo dX8_exchange_46 rfl rfl rfl rfl ?_
          obtain ⟨b6, f7, h8⟩ := zd_0_3 hJ.1
          have h9 := zDm_b h8
          refine w_gf dX8_exchange_47 rfl hJ.1.1 zs_0 f7 ?_
          refine w_lo dX8_exchange_50 rfl rfl rfl rfl ?_
          refine w_gf dX8_exchange_51 rfl hJ.1.1 zs_0 (zr_0_4 hJ.1) ?_
          refine w_lo dX8_exchange_54 rfl rfl rfl rfl ?_
          refine w_gfi dX8_exchange_55 rfl hJ.1 zs_0 (Nat.le_of_ble_eq_true rfl) zo_0_15 ?_
          intro x10 f11 h12 h13
          refine w_iv dX8_exchange_58 rfl rfl (As := [.ref b6, .ref 49, .int x10]) rfl rfl hJ.1.1 zs_364 (Nat.le_of_ble_eq_true rfl) ?_
          refine ZV.imp (k_1030 b6 h8 49 hb_6_49 x10 hN hJ.1) ?_
          rintro _ ⟨M14, rfl, hJ15, hq16⟩
          have hJ17 := zJ_trans hJ hJ15 (zSub_cons (fun _ _ h h' hk => ((zDm_or h8).elim (fun e => zIR_s (zIR_s (zIR_s (zIR_a (by omega) (by omega))))) (fun e => zIR_s (zIR_s (zIR_s (zIR_s (zIR_a (by omega) (by omega)))))))) (zSub_cons (fun _ _ h h' hk => zIR_e (by omega) (by omega) hk) (zSub_cons (fun _ _ h h' hk => zIR_s (zIR_e (by omega) (by omega) hk)) (zSub_cons (fun _ _ h h' hk => zIR_s (zIR_s (zIR_e (by omega) (by omega) hk))) (zSub_cons (fun _ _ h h' hk => zIR_s (zIR_s (zIR_s (zIR_s (zIR_s (zIR_a (by omega) (by omega))))))) (zSub_cons (fun _ _ h h' hk => zIR_s (zIR_s (zIR_s (zIR_s (zIR_s (zIR_s (zIR_a (by omega) (by omega)))))))) (zSub_cons (fun _ _ h h' hk => zIR_s (zIR_s (zIR_s (zIR_s (zIR_s (zIR_s (zIR_s (zIR_a (by omega) (by omega))))))))) (zSub_cons (fun _ _ h h' hk => zIR_s (zIR_s (zIR_s (zIR_s (zIR_s (zIR_s (zIR_s (zIR_s (zIR_e (by omega) (by omega) hk))))))))) (zSub_cons (fun _ _ h h' hk => zIR_s (zIR_s (zIR_s (zIR_s (zIR_s (zIR_s (zIR_s (zIR_s (zIR_s (zIR_e (by omega) (by omega) hk)))))))))) (zSub_cons (fun _ _ h h' hk => zIR_s (zIR_s (zIR_s (zIR_s (zIR_s (zIR_s (zIR_s (zIR_s (zIR_s (zIR_s (zIR_e (by omega) (by omega) hk))))))))))) (zSub_cons (fun _ _ h h' hk => zIR_s (zIR_s (zIR_s (zIR_s (zIR_s (zIR_s (zIR_s (zIR_s (zIR_s (zIR_s (zIR_s (zIR_e (by omega) (by omega) hk)))))))))))) zSub_nil)))))))))))
          show ZW _ _ _ _ _ _ _ (61, [some (.ref 0), some (.int v19_1), some (.int 1)], [], M14)
          refine w_lo dX8_exchange_61 rfl rfl rfl rfl ?_
          refine w_ic dX8_exchange_62 zi_m1 ?_
          rcases Int.decEq v19_1.toInt (-1 : Int) with h18 | h18
          · skip
            refine w_cne_t dX8_exchange_63 (t := 74) rfl (by have := zt_m1; omega) ?_
            refine w_lo dX8_exchange_74 rfl rfl rfl rfl ?_
            refine w_lo dX8_exchange_75 rfl rfl rfl rfl ?_
            refine w_iv dX8_exchange_76 rfl rfl (As := [.int v19_1]) rfl rfl hJ17.1.1 zs_0 (Nat.le_of_ble_eq_true rfl) ?_
            refine ZV.of (ini := false) rfl (Nat.le_of_ble_eq_true rfl) (by decide +kernel) ?_
            show ZW _ _ _ _ _ _ _ (0, [some (.ref 0), some (.int v19_1)], [], M14)
            refine w_lo dX8_isPlace_0 rfl rfl rfl rfl ?_
            refine w_ilt_f dX8_isPlace_1 (t := 19) rfl (by omega) ?_
            refine w_lo dX8_isPlace_4 rfl rfl rfl rfl ?_
            refine w_lo dX8_isPlace_5 rfl rfl rfl rfl ?_
            refine w_gf dX8_isPlace_6 rfl hJ17.1.1 zs_0 (zr_0_4 hJ17.1) ?_
            have f19 := (hJ15.2 (49) 0 (zNI (by omega) (zNI (by omega) (zNI_k (by decide) (by decide) (zNI_k (by decide) (by decide) (zNI (by omega) (zNI (by omega) (zNI (by omega) (zNI_k (by decide) (by decide) (zNI_k (by decide) (by decide) (zNI_k (by decide) (by decide) (zNI_k (by decide) (by decide) zNI_nil)))))))))))).trans (f2)
            refine w_gf dX8_isPlace_9 rfl hJ17.1.1 zs_49 f19 ?_
            rcases zcut v19_1.toInt x1.toInt with h20 | h20
            · skip
              refine w_cge_f dX8_isPlace_12 (t := 19) rfl (by omega) ?_
              refine w_ic dX8_isPlace_15 zi_1 ?_
              refine w_gt dX8_isPlace_16 (t := 20) rfl ?_
              refine w_en dX8_isPlace_20 rfl ?_
              show ZW _ _ _ _ _ _ _ (79, [some (.ref 0), some (.int v19_1), some (.int 1)], [.int 1], M14)
              refine w_ieq_f dX8_exchange_79 (t := 94) rfl (by have := zt_1; omega) ?_
              refine w_lo dX8_exchange_82 rfl rfl rfl rfl ?_
              refine w_gf dX8_exchange_83 rfl hJ17.1.1 zs_0 (zr_0_9 hJ17.1) ?_
              refine w_gf dX8_exchange_86 rfl hJ17.1.1 zs_364 (zr_364_4 hJ17.1) ?_
              refine w_lo dX8_exchange_89 rfl rfl rfl rfl ?_
              refine w_iai dX8_exchange_90 hJ17.1 zs_366 (by omega) (by omega) zu_366 ?_
              intro x24 f21 h22 h23
              refine w_gt dX8_exchange_91 (t := 101) rfl ?_
              refine w_eni dX8_exchange_101 rfl rfl ?_
              exact ⟨_, _, rfl, (zbot _), (ztop _), hJ17, trivial⟩
            · skip
              refine w_cge_t dX8_isPlace_12 (t := 19) rfl (by omega) ?_
              refine w_ic dX8_isPlace_19 zi_0 ?_
              refine w_en dX8_isPlace_20 rfl ?_
              show ZW _ _ _ _ _ _ _ (79, [some (.ref 0), some (.int v19_1), some (.int 1)], [.int 0], M14)
              refine w_ieq_t dX8_exchange_79 (t := 94) rfl (by have := zt_0; omega) ?_
              refine w_lo dX8_exchange_94 rfl rfl rfl rfl ?_
              refine w_gf dX8_exchange_95 rfl hJ17.1.1 zs_0 (zr_0_9 hJ17.1) ?_
              refine w_gfi dX8_exchange_98 rfl hJ17.1 zs_364 (Nat.le_of_ble_eq_true rfl) zo_364_3 ?_
              intro x25 f26 h27 h28
              refine w_eni dX8_exchange_101 rfl rfl ?_
              exact ⟨_, _, rfl, (zbot _), (ztop _), hJ17, trivial⟩
          · skip
            refine w_cne_f dX8_exchange_63 (t := 74) rfl (by have := zt_m1; omega) ?_
            refine w_lo dX8_exchange_66 rfl rfl rfl rfl ?_
            refine w_gf dX8_exchange_67 rfl hJ17.1.1 zs_0 (zr_0_9 hJ17.1) ?_
            refine w_gfi dX8_exchange_70 rfl hJ17.1 zs_364 (Nat.le_of_ble_eq_true rfl) zo_364_2 ?_
            intro x29 f30 h31 h32
            refine w_eni dX8_exchange_73 rfl rfl ?_
            exact ⟨_, _, rfl, (zbot _), (ztop _), hJ17, trivial⟩
  have ih19 := main 6
  show ZW _ _ _ _ _ _ _ (0, [some (.ref 0), some (.int a0), none], [], M0)
  refine w_lo dX8_exchange_0 rfl rfl rfl rfl ?_
  refine w_ic dX8_exchange_1 zi_m1 ?_
  rcases Int.decEq a0.toInt (-1 : Int) with h33 | h33
  · skip
    refine w_ceq_f dX8_exchange_2 (t := 19) rfl (by have := zt_m1; omega) ?_
    refine w_lo dX8_exchange_5 rfl rfl rfl rfl ?_
    refine w_bi dX8_exchange_6 (c := 20) (by decide) ?_
    rcases Int.decEq a0.toInt (20 : Int) with h34 | h34
    · skip
      refine w_ceq_f dX8_exchange_8 (t := 19) rfl (by have := zt_20; omega) ?_
      refine w_lo dX8_exchange_11 rfl rfl rfl rfl ?_
      refine w_lo dX8_exchange_12 rfl rfl rfl rfl ?_
      refine w_iv dX8_exchange_13 rfl rfl (As := [.int a0]) rfl rfl hJ0.1.1 zs_0 (Nat.le_of_ble_eq_true rfl) ?_
      refine ZV.of (ini := false) rfl (Nat.le_of_ble_eq_true rfl) (by decide +kernel) ?_
      show ZW _ _ _ _ _ _ _ (0, [some (.ref 0), some (.int a0)], [], M0)
      refine w_lo dX8_isPlace_0 rfl rfl rfl rfl ?_
      rcases zcut a0.toInt (0 : Int) with h35 | h35
      · skip
        refine w_ilt_t dX8_isPlace_1 (t := 19) rfl (by omega) ?_
        refine w_ic dX8_isPlace_19 zi_0 ?_
        refine w_en dX8_isPlace_20 rfl ?_
        show ZW _ _ _ _ _ _ _ (16, [some (.ref 0), some (.int a0), none], [.int 0], M0)
        refine w_ieq_t dX8_exchange_16 (t := 23) rfl (by have := zt_0; omega) ?_
        refine w_ic dX8_exchange_23 zi_0 ?_
        refine w_lo (ml' := [some (.ref 0), some (.int a0), some (.int 0)]) dX8_exchange_24 rfl rfl rfl rfl ?_
        refine w_lo dX8_exchange_25 rfl rfl rfl rfl ?_
        refine w_gf dX8_exchange_26 rfl hJ0.1.1 zs_0 (zr_0_4 hJ0.1) ?_
        refine w_gfi dX8_exchange_29 rfl hJ0.1 zs_49 (Nat.le_of_ble_eq_true rfl) zo_49_0 ?_
        intro x36 f37 h38 h39
        refine w_ic dX8_exchange_32 zi_1 ?_
        rcases zcut x36.toInt (1 : Int) with h40 | h40
        · skip
          refine w_clt_t dX8_exchange_33 (t := 40) rfl (by have := zt_1; omega) ?_
          refine w_ic dX8_exchange_40 zi_m1 ?_
          refine w_en dX8_exchange_41 rfl ?_
          exact ⟨_, _, rfl, (zbot _), (ztop _), hJ0, trivial⟩
        · skip
          refine w_clt_f dX8_exchange_33 (t := 40) rfl (by have := zt_1; omega) ?_
          refine w_lo dX8_exchange_36 rfl rfl rfl rfl ?_
          refine w_ine_f dX8_exchange_37 (t := 42) rfl (by have := zt_0; omega) ?_
          refine w_ic dX8_exchange_40 zi_m1 ?_
          refine w_en dX8_exchange_41 rfl ?_
          exact ⟨_, _, rfl, (zbot _), (ztop _), hJ0, trivial⟩
      · skip
        refine w_ilt_f dX8_isPlace_1 (t := 19) rfl (by omega) ?_
        refine w_lo dX8_isPlace_4 rfl rfl rfl rfl ?_
        refine w_lo dX8_isPlace_5 rfl rfl rfl rfl ?_
        refine w_gf dX8_isPlace_6 rfl hJ0.1.1 zs_0 (zr_0_4 hJ0.1) ?_
        refine w_gfi dX8_isPlace_9 rfl hJ0.1 zs_49 (Nat.le_of_ble_eq_true rfl) zo_49_0 ?_
        intro x41 f42 h43 h44
        rcases zcut a0.toInt x41.toInt with h45 | h45
        · skip
          refine w_cge_f dX8_isPlace_12 (t := 19) rfl (by omega) ?_
          refine w_ic dX8_isPlace_15 zi_1 ?_
          refine w_gt dX8_isPlace_16 (t := 20) rfl ?_
          refine w_en dX8_isPlace_20 rfl ?_
          show ZW _ _ _ _ _ _ _ (16, [some (.ref 0), some (.int a0), none], [.int 1], M0)
          refine w_ieq_f dX8_exchange_16 (t := 23) rfl (by have := zt_1; omega) ?_
          exact ih19 M0 a0 none hJ0 (by omega) (by omega) (by omega)
        · skip
          refine w_cge_t dX8_isPlace_12 (t := 19) rfl (by omega) ?_
          refine w_ic dX8_isPlace_19 zi_0 ?_
          refine w_en dX8_isPlace_20 rfl ?_
          show ZW _ _ _ _ _ _ _ (16, [some (.ref 0), some (.int a0), none], [.int 0], M0)
          refine w_ieq_t dX8_exchange_16 (t := 23) rfl (by have := zt_0; omega) ?_
          refine w_ic dX8_exchange_23 zi_0 ?_
          refine w_lo (ml' := [some (.ref 0), some (.int a0), some (.int 0)]) dX8_exchange_24 rfl rfl rfl rfl ?_
          refine w_lo dX8_exchange_25 rfl rfl rfl rfl ?_
          refine w_gf dX8_exchange_26 rfl hJ0.1.1 zs_0 (zr_0_4 hJ0.1) ?_
          refine w_gf dX8_exchange_29 rfl hJ0.1.1 zs_49 f42 ?_
          refine w_ic dX8_exchange_32 zi_1 ?_
          rcases zcut x41.toInt (1 : Int) with h46 | h46
          · skip
            refine w_clt_t dX8_exchange_33 (t := 40) rfl (by have := zt_1; omega) ?_
            refine w_ic dX8_exchange_40 zi_m1 ?_
            refine w_en dX8_exchange_41 rfl ?_
            exact ⟨_, _, rfl, (zbot _), (ztop _), hJ0, trivial⟩
          · skip
            refine w_clt_f dX8_exchange_33 (t := 40) rfl (by have := zt_1; omega) ?_
            refine w_lo dX8_exchange_36 rfl rfl rfl rfl ?_
            refine w_ine_f dX8_exchange_37 (t := 42) rfl (by have := zt_0; omega) ?_
            refine w_ic dX8_exchange_40 zi_m1 ?_
            refine w_en dX8_exchange_41 rfl ?_
            exact ⟨_, _, rfl, (zbot _), (ztop _), hJ0, trivial⟩
    · skip
      refine w_ceq_t dX8_exchange_8 (t := 19) rfl (by have := zt_20; omega) ?_
      exact ih19 M0 a0 none hJ0 (by omega) (by omega) (by omega)
  · skip
    refine w_ceq_t dX8_exchange_2 (t := 19) rfl (by have := zt_m1; omega) ?_
    exact ih19 M0 a0 none hJ0 (by omega) (by omega) (by omega)
set_option maxRecDepth 100000 in
theorem k_2088 {X : List Int32} {d N : Nat} {M0 : zM}  (hN : N ≤ 600) (hB0 : zB N M0) : ZV X (d + 8) 2088 [.ref 0] M0 (zRI N [(77, 78, 0), (79, 346, 0), (367, 368, 0), (77, 78, 1), (79, 346, 1), (367, 368, 1), (381, 382, 1), (26, 28, 1000), (47, 49, 1000), (50, 51, 1000), (80, 359, 1000), (366, 367, 1000), (368, 380, 1000), (382, 383, 1000), (385, 386, 1000), (79, 346, 14), (367, 368, 14), (0, 1, 15), (364, 365, 2), (364, 365, 3), (364, 365, 8)] M0 (-2147483648) (2147483647) (fun _ _ => True)) := by
  have hJ0 : zJ N [(77, 78, 0), (79, 346, 0), (367, 368, 0), (77, 78, 1), (79, 346, 1), (367, 368, 1), (381, 382, 1), (26, 28, 1000), (47, 49, 1000), (50, 51, 1000), (80, 359, 1000), (366, 367, 1000), (368, 380, 1000), (382, 383, 1000), (385, 386, 1000), (79, 346, 14), (367, 368, 14), (0, 1, 15), (364, 365, 2), (364, 365, 3), (364, 365, 8)] M0 M0 := zJ_refl hB0
  refine ZV.of (ini := false) rfl (Nat.le_of_ble_eq_true rfl) (by decide +kernel) ?_
  show ZW _ _ _ _ _ _ _ (0, [some (.ref 0)], [], M0)
  refine w_lo dX8_lay_0 rfl rfl rfl rfl ?_
  refine w_gf dX8_lay_1 rfl hJ0.1.1 zs_0 (zr_0_4 hJ0.1) ?_
  refine w_gfi dX8_lay_4 rfl hJ0.1 zs_49 (Nat.le_of_ble_eq_true rfl) zo_49_0 ?_
  intro x1 f2 h3 h4
  refine w_ic dX8_lay_7 zi_1 ?_
  rcases zcut x1.toInt (1 : Int) with h5 | h5
  · skip
    refine w_cge_f dX8_lay_8 (t := 18) rfl (by have := zt_1; omega) ?_
    refine w_lo dX8_lay_11 rfl rfl rfl rfl ?_
    refine w_ic dX8_lay_12 zi_3 ?_
    refine w_iv dX8_lay_13 rfl rfl (As := [.int 3]) rfl rfl hJ0.1.1 zs_0 (Nat.le_of_ble_eq_true rfl) ?_
    refine ZV.imp (k_2050 3 (by have := zt_3; omega) (by have := zt_3; omega) hN hJ0.1) ?_
    rintro _ ⟨M6, rfl, hJ7, hq8⟩
    have hJ9 := zJ_trans hJ0 hJ7 (zSub_cons (fun _ _ h h' hk => zIR_s (zIR_s (zIR_s (zIR_s (zIR_s (zIR_s (zIR_s (zIR_s (zIR_s (zIR_s (zIR_s (zIR_s (zIR_s (zIR_s (zIR_a (by omega) (by omega)))))))))))))))) zSub_nil)
    show ZW _ _ _ _ _ _ _ (16, [some (.ref 0)], [], M6)
    refine w_ic dX8_lay_16 zi_m1 ?_
    refine w_en dX8_lay_17 rfl ?_
    exact ⟨_, _, rfl, (zbot _), (ztop _), hJ9, trivial⟩
  · skip
    refine w_cge_t dX8_lay_8 (t := 18) rfl (by have := zt_1; omega) ?_
    refine w_lo dX8_lay_18 rfl rfl rfl rfl ?_
    refine w_gf dX8_lay_19 rfl hJ0.1.1 zs_0 (zr_0_9 hJ0.1) ?_
    refine w_lo dX8_lay_22 rfl rfl rfl rfl ?_
    obtain ⟨b10, f11, h12⟩ := zd_0_3 hJ0.1
    have h13 := zDm_b h12
    refine w_gf dX8_lay_23 rfl hJ0.1.1 zs_0 f11 ?_
    refine w_lo dX8_lay_26 rfl rfl rfl rfl ?_
    refine w_gf dX8_lay_27 rfl hJ0.1.1 zs_0 (zr_0_4 hJ0.1) ?_
    refine w_lo dX8_lay_30 rfl rfl rfl rfl ?_
    refine w_gfi dX8_lay_31 rfl hJ0.1 zs_0 (Nat.le_of_ble_eq_true rfl) zo_0_15 ?_
    intro x14 f15 h16 h17
    refine w_iv dX8_lay_34 rfl rfl (As := [.ref b10, .ref 49, .int x14]) rfl rfl hJ0.1.1 zs_364 (Nat.le_of_ble_eq_true rfl) ?_
    refine ZV.imp (k_1030 b10 h12 49 hb_6_49 x14 hN hJ0.1) ?_
    rintro _ ⟨M18, rfl, hJ19, hq20⟩
    have hJ21 := zJ_trans hJ0 hJ19 (zSub_cons (fun _ _ h h' hk => ((zDm_or h12).elim (fun e => zIR_s (zIR_s (zIR_s (zIR_s (zIR_s (zIR_s (zIR_s (zIR_a (by omega) (by omega))))))))) (fun e => zIR_s (zIR_s (zIR_s (zIR_s (zIR_s (zIR_s (zIR_s (zIR_s (zIR_a (by omega) (by omega)))))))))))) (zSub_cons (fun _ _ h h' hk => zIR_s (zIR_s (zIR_e (by omega) (by omega) hk))) (zSub_cons (fun _ _ h h' hk => zIR_s (zIR_s (zIR_s (zIR_s (zIR_s (zIR_e (by omega) (by omega) hk)))))) (zSub_cons (fun _ _ h h' hk => zIR_s (zIR_s (zIR_s (zIR_s (zIR_s (zIR_s (zIR_e (by omega) (by omega) hk))))))) (zSub_cons (fun _ _ h h' hk => zIR_s (zIR_s (zIR_s (zIR_s (zIR_s (zIR_s (zIR_s (zIR_s (zIR_s (zIR_s (zIR_s (zIR_a (by omega) (by omega))))))))))))) (zSub_cons (fun _ _ h h' hk => zIR_s (zIR_s (zIR_s (zIR_s (zIR_s (zIR_s (zIR_s (zIR_s (zIR_s (zIR_s (zIR_s (zIR_s (zIR_a (by omega) (by omega)))))))))))))) (zSub_cons (fun _ _ h h' hk => zIR_s (zIR_s (zIR_s (zIR_s (zIR_s (zIR_s (zIR_s (zIR_s (zIR_s (zIR_s (zIR_s (zIR_s (zIR_s (zIR_a (by omega) (by omega))))))))))))))) (zSub_cons (fun _ _ h h' hk => zIR_s (zIR_s (zIR_s (zIR_s (zIR_s (zIR_s (zIR_s (zIR_s (zIR_s (zIR_s (zIR_s (zIR_s (zIR_s (zIR_s (zIR_s (zIR_s (zIR_e (by omega) (by omega) hk))))))))))))))))) (zSub_cons (fun _ _ h h' hk => zIR_s (zIR_s (zIR_s (zIR_s (zIR_s (zIR_s (zIR_s (zIR_s (zIR_s (zIR_s (zIR_s (zIR_s (zIR_s (zIR_s (zIR_s (zIR_s (zIR_s (zIR_s (zIR_e (by omega) (by omega) hk))))))))))))))))))) (zSub_cons (fun _ _ h h' hk => zIR_s (zIR_s (zIR_s (zIR_s (zIR_s (zIR_s (zIR_s (zIR_s (zIR_s (zIR_s (zIR_s (zIR_s (zIR_s (zIR_s (zIR_s (zIR_s (zIR_s (zIR_s (zIR_s (zIR_e (by omega) (by omega) hk)))))))))))))))))))) (zSub_cons (fun _ _ h h' hk => zIR_s (zIR_s (zIR_s (zIR_s (zIR_s (zIR_s (zIR_s (zIR_s (zIR_s (zIR_s (zIR_s (zIR_s (zIR_s (zIR_s (zIR_s (zIR_s (zIR_s (zIR_s (zIR_s (zIR_s (zIR_e (by omega) (by omega) hk))))))))))))))))))))) zSub_nil)))))))))))
    show ZW _ _ _ _ _ _ _ (37, [some (.ref 0)], [], M18)
    refine w_lo dX8_lay_37 rfl rfl rfl rfl ?_
    refine w_gf dX8_lay_38 rfl hJ21.1.1 zs_0 (zr_0_9 hJ21.1) ?_
    refine w_gfi dX8_lay_41 rfl hJ21.1 zs_364 (Nat.le_of_ble_eq_true rfl) zo_364_3 ?_
    intro x22 f23 h24 h25
    rcases zcut (0 : Int) x22.toInt with h26 | h26
    · skip
      refine w_ile_f dX8_lay_44 (t := 72) rfl (by omega) ?_
      refine w_lo dX8_lay_47 rfl rfl rfl rfl ?_
      refine w_iv dX8_lay_48 rfl rfl (As := []) rfl rfl hJ21.1.1 zs_0 (Nat.le_of_ble_eq_true rfl) ?_
      refine ZV.imp (k_2074 hN hJ21.1) ?_
      rintro _ ⟨M27, rfl, hJ28, hq29⟩
      have hJ30 := zJ_trans hJ21 hJ28 (zSub_cons (fun _ _ h h' hk => zIR_e (by omega) (by omega) hk) (zSub_cons (fun _ _ h h' hk => zIR_s (zIR_e (by omega) (by omega) hk)) (zSub_cons (fun _ _ h h' hk => zIR_s (zIR_s (zIR_s (zIR_e (by omega) (by omega) hk)))) (zSub_cons (fun _ _ h h' hk => zIR_s (zIR_s (zIR_s (zIR_s (zIR_e (by omega) (by omega) hk))))) (zSub_cons (fun _ _ h h' hk => zIR_s (zIR_s (zIR_s (zIR_s (zIR_s (zIR_s (zIR_s (zIR_s (zIR_s (zIR_s (zIR_a (by omega) (by omega)))))))))))) (zSub_cons (fun _ _ h h' hk => zIR_s (zIR_s (zIR_s (zIR_s (zIR_s (zIR_s (zIR_s (zIR_s (zIR_s (zIR_s (zIR_s (zIR_s (zIR_s (zIR_s (zIR_s (zIR_e (by omega) (by omega) hk)))))))))))))))) (zSub_cons (fun _ _ h h' hk => zIR_s (zIR_s (zIR_s (zIR_s (zIR_s (zIR_s (zIR_s (zIR_s (zIR_s (zIR_s (zIR_s (zIR_s (zIR_s (zIR_s (zIR_s (zIR_s (zIR_s (zIR_e (by omega) (by omega) hk)))))))))))))))))) zSub_nil)))))))
      show ZW _ _ _ _ _ _ _ (51, [some (.ref 0)], [], M27)
      refine w_lo dX8_lay_51 rfl rfl rfl rfl ?_
      refine w_gf dX8_lay_52 rfl hJ30.1.1 zs_0 (zr_0_9 hJ30.1) ?_
      refine w_gf dX8_lay_55 rfl hJ30.1.1 zs_364 (zr_364_4 hJ30.1) ?_
      refine w_ic dX8_lay_58 zi_0 ?_
      refine w_lo dX8_lay_59 rfl rfl rfl rfl ?_
      refine w_gf dX8_lay_60 rfl hJ30.1.1 zs_0 (zr_0_4 hJ30.1) ?_
      refine w_gf dX8_lay_63 rfl hJ30.1.1 zs_49 (zr_49_2 hJ30.1) ?_
      refine w_ic dX8_lay_66 zi_0 ?_
      refine w_bi dX8_lay_67 (c := 12) (by decide) ?_
      refine w_cpG (kd := 10) (Or.inl rfl) dX8_lay_69 rfl (Nat.le_of_ble_eq_true rfl) hJ30 zs_366 zs_50 zt_12 (Nat.le_of_ble_eq_true rfl) (Nat.le_of_ble_eq_true rfl) zu_366 zu_50 (by decide) (by decide) (fun _ => (zIR_s (zIR_s (zIR_s (zIR_s (zIR_s (zIR_s (zIR_s (zIR_s (zIR_s (zIR_a (by omega) (by omega)))))))))))) ?_
      intro M31 hJ32 hn33
      show ZW _ _ _ _ _ _ _ (72, [some (.ref 0)], [], M31)
      refine w_lo dX8_lay_72 rfl rfl rfl rfl ?_
      refine w_gf dX8_lay_73 rfl hJ32.1.1 zs_0 (zr_0_9 hJ32.1) ?_
      have f34 := (hn33 (364) 3 (Or.inl (by omega))).trans ((hJ28.2 (364) 3 (zNI_k (by decide) (by decide) (zNI_k (by decide) (by decide) (zNI_k (by decide) (by decide) (zNI_k (by decide) (by decide) (zNI (by omega) (zNI_k (by decide) (by decide) (zNI_k (by decide) (by decide) zNI_nil)))))))).trans (f23))
      refine w_gf dX8_lay_76 rfl hJ32.1.1 zs_364 f34 ?_
      refine w_eni dX8_lay_79 rfl rfl ?_
      exact ⟨_, _, rfl, (zbot _), (ztop _), hJ32, trivial⟩
    · skip
      refine w_ile_t dX8_lay_44 (t := 72) rfl (by omega) ?_
      refine w_lo dX8_lay_72 rfl rfl rfl rfl ?_
      refine w_gf dX8_lay_73 rfl hJ21.1.1 zs_0 (zr_0_9 hJ21.1) ?_
      refine w_gf dX8_lay_76 rfl hJ21.1.1 zs_364 f23 ?_
      refine w_eni dX8_lay_79 rfl rfl ?_
      exact ⟨_, _, rfl, (zbot _), (ztop _), hJ21, trivial⟩
set_option maxRecDepth 100000 in
theorem k_2089 {X : List Int32} {d N : Nat} {M0 : zM} (a0 : Int32) (hN : N ≤ 600) (hB0 : zB N M0) : ZV X (d + 8) 2089 [.ref 0, .int a0] M0 (zRI N [(367, 368, 0), (367, 368, 1), (381, 382, 1), (26, 28, 1000), (47, 49, 1000), (368, 380, 1000), (382, 383, 1000), (367, 368, 14), (364, 365, 5), (364, 365, 6), (364, 365, 9)] M0 (-2147483648) (2147483647) (fun _ _ => True)) := by
  have hJ0 : zJ N [(367, 368, 0), (367, 368, 1), (381, 382, 1), (26, 28, 1000), (47, 49, 1000), (368, 380, 1000), (382, 383, 1000), (367, 368, 14), (364, 365, 5), (364, 365, 6), (364, 365, 9)] M0 M0 := zJ_refl hB0
  refine ZV.of (ini := false) rfl (Nat.le_of_ble_eq_true rfl) (by decide +kernel) ?_
  show ZW _ _ _ _ _ _ _ (0, [some (.ref 0), some (.int a0)], [], M0)
  refine w_lo dX8_two_0 rfl rfl rfl rfl ?_
  refine w_gf dX8_two_1 rfl hJ0.1.1 zs_0 (zr_0_4 hJ0.1) ?_
  refine w_gfi dX8_two_4 rfl hJ0.1 zs_49 (Nat.le_of_ble_eq_true rfl) zo_49_0 ?_
  intro x1 f2 h3 h4
  refine w_ic dX8_two_7 zi_2 ?_
  rcases zcut x1.toInt (2 : Int) with h5 | h5
  · skip
    refine w_clt_t dX8_two_8 (t := 32) rfl (by have := zt_2; omega) ?_
    refine w_ic dX8_two_32 zi_m1 ?_
    refine w_en dX8_two_33 rfl ?_
    exact ⟨_, _, rfl, (zbot _), (ztop _), hJ0, trivial⟩
  · skip
    refine w_clt_f dX8_two_8 (t := 32) rfl (by have := zt_2; omega) ?_
    refine w_lo dX8_two_11 rfl rfl rfl rfl ?_
    refine w_gf dX8_two_12 rfl hJ0.1.1 zs_0 (zr_0_4 hJ0.1) ?_
    refine w_gf dX8_two_15 rfl hJ0.1.1 zs_49 f2 ?_
    refine w_bi dX8_two_18 (c := 8) (by decide) ?_
    rcases zcut (8 : Int) x1.toInt with h6 | h6
    · skip
      refine w_cgt_t dX8_two_20 (t := 32) rfl (by have := zt_8; omega) ?_
      refine w_ic dX8_two_32 zi_m1 ?_
      refine w_en dX8_two_33 rfl ?_
      exact ⟨_, _, rfl, (zbot _), (ztop _), hJ0, trivial⟩
    · skip
      refine w_cgt_f dX8_two_20 (t := 32) rfl (by have := zt_8; omega) ?_
      refine w_lo dX8_two_23 rfl rfl rfl rfl ?_
      rcases zcut a0.toInt (0 : Int) with h7 | h7
      · skip
        refine w_ilt_t dX8_two_24 (t := 32) rfl (by omega) ?_
        refine w_ic dX8_two_32 zi_m1 ?_
        refine w_en dX8_two_33 rfl ?_
        exact ⟨_, _, rfl, (zbot _), (ztop _), hJ0, trivial⟩
      · skip
        refine w_ilt_f dX8_two_24 (t := 32) rfl (by omega) ?_
        refine w_lo dX8_two_27 rfl rfl rfl rfl ?_
        refine w_ic dX8_two_28 zi_1 ?_
        rcases zcut (1 : Int) a0.toInt with h8 | h8
        · skip
          refine w_cle_f dX8_two_29 (t := 34) rfl (by have := zt_1; omega) ?_
          refine w_ic dX8_two_32 zi_m1 ?_
          refine w_en dX8_two_33 rfl ?_
          exact ⟨_, _, rfl, (zbot _), (ztop _), hJ0, trivial⟩
        · skip
          refine w_cle_t dX8_two_29 (t := 34) rfl (by have := zt_1; omega) ?_
          refine w_lo dX8_two_34 rfl rfl rfl rfl ?_
          refine w_gf dX8_two_35 rfl hJ0.1.1 zs_0 (zr_0_9 hJ0.1) ?_
          refine w_lo dX8_two_38 rfl rfl rfl rfl ?_
          obtain ⟨b9, f10, h11⟩ := zd_0_3 hJ0.1
          have h12 := zDm_b h11
          refine w_gf dX8_two_39 rfl hJ0.1.1 zs_0 f10 ?_
          refine w_lo dX8_two_42 rfl rfl rfl rfl ?_
          refine w_gf dX8_two_43 rfl hJ0.1.1 zs_0 (zr_0_4 hJ0.1) ?_
          refine w_lo dX8_two_46 rfl rfl rfl rfl ?_
          refine w_gfi dX8_two_47 rfl hJ0.1 zs_0 (Nat.le_of_ble_eq_true rfl) zo_0_15 ?_
          intro x13 f14 h15 h16
          refine w_iv dX8_two_50 rfl rfl (As := [.ref b9, .ref 49, .int x13]) rfl rfl hJ0.1.1 zs_364 (Nat.le_of_ble_eq_true rfl) ?_
          refine ZV.imp (k_1031 b9 h11 49 hb_6_49 x13 hN hJ0.1) ?_
          rintro _ ⟨M17, rfl, hJ18, hq19⟩
          have hJ20 := zJ_trans hJ0 hJ18 (zSub_cons (fun _ _ h h' hk => ((zDm_or h11).elim (fun e => zIR_s (zIR_s (zIR_s (zIR_a (by omega) (by omega))))) (fun e => zIR_s (zIR_s (zIR_s (zIR_s (zIR_a (by omega) (by omega)))))))) (zSub_cons (fun _ _ h h' hk => zIR_e (by omega) (by omega) hk) (zSub_cons (fun _ _ h h' hk => zIR_s (zIR_e (by omega) (by omega) hk)) (zSub_cons (fun _ _ h h' hk => zIR_s (zIR_s (zIR_e (by omega) (by omega) hk))) (zSub_cons (fun _ _ h h' hk => zIR_s (zIR_s (zIR_s (zIR_s (zIR_s (zIR_a (by omega) (by omega))))))) (zSub_cons (fun _ _ h h' hk => zIR_s (zIR_s (zIR_s (zIR_s (zIR_s (zIR_s (zIR_a (by omega) (by omega)))))))) (zSub_cons (fun _ _ h h' hk => zIR_s (zIR_s (zIR_s (zIR_s (zIR_s (zIR_s (zIR_s (zIR_e (by omega) (by omega) hk)))))))) (zSub_cons (fun _ _ h h' hk => zIR_s (zIR_s (zIR_s (zIR_s (zIR_s (zIR_s (zIR_s (zIR_s (zIR_e (by omega) (by omega) hk))))))))) (zSub_cons (fun _ _ h h' hk => zIR_s (zIR_s (zIR_s (zIR_s (zIR_s (zIR_s (zIR_s (zIR_s (zIR_s (zIR_e (by omega) (by omega) hk)))))))))) (zSub_cons (fun _ _ h h' hk => zIR_s (zIR_s (zIR_s (zIR_s (zIR_s (zIR_s (zIR_s (zIR_s (zIR_s (zIR_s (zIR_e (by omega) (by omega) hk))))))))))) zSub_nil))))))))))
          show ZW _ _ _ _ _ _ _ (53, [some (.ref 0), some (.int a0)], [], M17)
          refine w_lo dX8_two_53 rfl rfl rfl rfl ?_
          rcases Int.decEq a0.toInt (0 : Int) with h21 | h21
          · skip
            refine w_ine_t dX8_two_54 (t := 67) rfl (by omega) ?_
            refine w_lo dX8_two_67 rfl rfl rfl rfl ?_
            refine w_gf dX8_two_68 rfl hJ20.1.1 zs_0 (zr_0_9 hJ20.1) ?_
            refine w_gfi dX8_two_71 rfl hJ20.1 zs_364 (Nat.le_of_ble_eq_true rfl) zo_364_6 ?_
            intro x22 f23 h24 h25
            refine w_eni dX8_two_74 rfl rfl ?_
            exact ⟨_, _, rfl, (zbot _), (ztop _), hJ20, trivial⟩
          · skip
            refine w_ine_f dX8_two_54 (t := 67) rfl (by omega) ?_
            refine w_lo dX8_two_57 rfl rfl rfl rfl ?_
            refine w_gf dX8_two_58 rfl hJ20.1.1 zs_0 (zr_0_9 hJ20.1) ?_
            refine w_gfi dX8_two_61 rfl hJ20.1 zs_364 (Nat.le_of_ble_eq_true rfl) zo_364_5 ?_
            intro x26 f27 h28 h29
            refine w_gt dX8_two_64 (t := 74) rfl ?_
            refine w_eni dX8_two_74 rfl rfl ?_
            exact ⟨_, _, rfl, (zbot _), (ztop _), hJ20, trivial⟩
set_option maxRecDepth 100000 in
theorem k_2092 {X : List Int32} {d N : Nat} {M0 : zM} (a0 : Int32) (ha00 : (0 : Int) ≤ a0.toInt) (ha01 : a0.toInt ≤ 108) (hN : N ≤ 600) (hB0 : zB N M0) : ZV X (d + 1) 2092 [.ref 0, .int a0] M0 (zRI N [] M0 (0) (255) (fun _ _ => True)) := by
  have hJ0 : zJ N [] M0 M0 := zJ_refl hB0
  refine ZV.of (ini := false) rfl (Nat.le_of_ble_eq_true rfl) (by decide +kernel) ?_
  show ZW _ _ _ _ _ _ _ (0, [some (.ref 0), some (.int a0)], [], M0)
  refine w_lo dX8_onTape_0 rfl rfl rfl rfl ?_
  refine w_ilt_f dX8_onTape_1 (t := 11) rfl (by omega) ?_
  refine w_lo dX8_onTape_4 rfl rfl rfl rfl ?_
  refine w_si dX8_onTape_5 (c := 1600) (by decide) ?_
  refine w_clt_t dX8_onTape_8 (t := 15) rfl (by have := zt_1600; omega) ?_
  refine w_lo dX8_onTape_15 rfl rfl rfl rfl ?_
  refine w_gf dX8_onTape_16 rfl hJ0.1.1 zs_0 (zr_0_0 hJ0.1) ?_
  refine w_lo dX8_onTape_19 rfl rfl rfl rfl ?_
  refine w_iai dX8_onTape_20 hJ0.1 zs_1 (by omega) (by omega) zu_1 ?_
  intro x4 f1 h2 h3
  refine w_eni dX8_onTape_21 rfl rfl ?_
  exact ⟨_, _, rfl, (by omega), (by omega), hJ0, trivial⟩
set_option maxRecDepth 100000 in
theorem k_2091 {X : List Int32} {d N : Nat} {M0 : zM} (a0 : Int32) (ha00 : (0 : Int) ≤ a0.toInt) (ha01 : a0.toInt ≤ 88) (hN : N ≤ 600) (hB0 : zB N M0) : ZV X (d + 2) 2091 [.ref 0, .int a0] M0 (zRI N [] M0 (0) (65535) (fun _ _ => True)) := by
  have hJ0 : zJ N [] M0 M0 := zJ_refl hB0
  refine ZV.of (ini := false) rfl (Nat.le_of_ble_eq_true rfl) (by decide +kernel) ?_
  show ZW _ _ _ _ _ _ _ (0, [some (.ref 0), some (.int a0)], [], M0)
  refine w_si dX8_pairOnTape_0 (c := 256) (by decide) ?_
  refine w_lo dX8_pairOnTape_3 rfl rfl rfl rfl ?_
  refine w_lo dX8_pairOnTape_4 rfl rfl rfl rfl ?_
  refine w_iv dX8_pairOnTape_5 rfl rfl (As := [.int a0]) rfl rfl hJ0.1.1 zs_0 (Nat.le_of_ble_eq_true rfl) ?_
  refine ZV.imp (k_2092 a0 (by omega) (by omega) hN hJ0.1) ?_
  rintro _ ⟨x4, M1, rfl, h5, h6, hJ2, hq3⟩
  have hJ7 := zJ_trans hJ0 hJ2 zSub_nil
  show ZW _ _ _ _ _ _ _ (8, [some (.ref 0), some (.int a0)], [.int x4, .int 256], M1)
  refine w_mulc dX8_pairOnTape_8 zt_256 (by have := zt_256; omega) ?_
  intro x8 h9
  have := zt_256
  refine w_lo dX8_pairOnTape_9 rfl rfl rfl rfl ?_
  refine w_lo dX8_pairOnTape_10 rfl rfl rfl rfl ?_
  refine w_ic dX8_pairOnTape_11 zi_1 ?_
  refine w_add dX8_pairOnTape_12 (by have := zt_1; omega) ?_
  intro x10 h11
  have := zt_1
  refine w_iv dX8_pairOnTape_13 rfl rfl (As := [.int x10]) rfl rfl hJ7.1.1 zs_0 (Nat.le_of_ble_eq_true rfl) ?_
  refine ZV.imp (k_2092 x10 (by omega) (by omega) hN hJ7.1) ?_
  rintro _ ⟨x15, M12, rfl, h16, h17, hJ13, hq14⟩
  have hJ18 := zJ_trans hJ7 hJ13 zSub_nil
  show ZW _ _ _ _ _ _ _ (16, [some (.ref 0), some (.int a0)], [.int x15, .int x8], M12)
  refine w_add dX8_pairOnTape_16 (by omega) ?_
  intro x19 h20
  refine w_eni dX8_pairOnTape_17 rfl rfl ?_
  exact ⟨_, _, rfl, (by omega), (by omega), hJ18, trivial⟩
set_option maxRecDepth 100000 in
theorem k_2090 {X : List Int32} {d N : Nat} {M0 : zM}  (hN : N ≤ 600) (hB0 : zB N M0) : ZV X (d + 3) 2090 [.ref 0] M0 (zRI N [(0, 1, 1), (383, 384, 1000), (385, 386, 1000), (0, 1, 11)] M0 (0) (1) (fun v M' => (∃ w : Int32, zvl M' (0) 1 = some (.int w) ∧ (w.toInt = 0) ∧ True))) := by
  have hJ0 : zJ N [(0, 1, 1), (383, 384, 1000), (385, 386, 1000), (0, 1, 11)] M0 M0 := zJ_refl hB0
  refine ZV.of (ini := false) rfl (Nat.le_of_ble_eq_true rfl) (by decide +kernel) ?_
  have main : ∀ n : Nat,
      (∀ (M : zM) (u43_1 : Int32) (v43_2 : Int32) (t_43 : Int32), zJ N [(0, 1, 1), (383, 384, 1000), (385, 386, 1000), (0, 1, 11)] M0 M → ((0 : Int) ≤ v43_2.toInt) → (v43_2.toInt ≤ 12) → (zvl M (0) 1 = some (.int t_43)) → (t_43.toInt = 0) → 3 * (12 - v43_2.toInt) + 1 < (n : Int) → ZW X (d + 2) 8 false (some .boolean) cX8_hear (zRI N [(0, 1, 1), (383, 384, 1000), (385, 386, 1000), (0, 1, 11)] M0 (0) (1) (fun v M' => (∃ w : Int32, zvl M' (0) 1 = some (.int w) ∧ (w.toInt = 0) ∧ True))) (43, [some (.ref 0), some (.int u43_1), some (.int v43_2)], [], M)) := by
    intro n
    induction n with
    | zero =>
      exact (fun M u43_1 v43_2 t_43 hJ v43_20 v43_21 hft_43 hrt_430 hn => absurd hn (by omega))
    | succ n ih =>
      have ih43 := ih
      · intro M u43_1 v43_2 t_43 hJ v43_20 v43_21 hft_43 hrt_430 hn
        refine w_lo dX8_hear_43 rfl rfl rfl rfl ?_
        refine w_lo dX8_hear_44 rfl rfl rfl rfl ?_
        refine w_gf dX8_hear_45 rfl hJ.1.1 zs_0 (zr_0_4 hJ.1) ?_
        refine w_gfi dX8_hear_48 rfl hJ.1 zs_49 (Nat.le_of_ble_eq_true rfl) zo_49_0 ?_
        intro x1 f2 h3 h4
        rcases zcut v43_2.toInt x1.toInt with h5 | h5
        · skip
          refine w_cge_f dX8_hear_51 (t := 73) rfl (by omega) ?_
          refine w_lo dX8_hear_54 rfl rfl rfl rfl ?_
          refine w_gf dX8_hear_55 rfl hJ.1.1 zs_0 (zr_0_10 hJ.1) ?_
          refine w_lo dX8_hear_58 rfl rfl rfl rfl ?_
          refine w_lo dX8_hear_59 rfl rfl rfl rfl ?_
          refine w_ic dX8_hear_60 zi_2 ?_
          refine w_lo dX8_hear_61 rfl rfl rfl rfl ?_
          refine w_mulc dX8_hear_62 zt_2 (by have := zt_2; omega) ?_
          intro x6 h7
          have := zt_2
          refine w_iv dX8_hear_63 rfl rfl (As := [.int x6]) rfl rfl hJ.1.1 zs_0 (Nat.le_of_ble_eq_true rfl) ?_
          refine ZV.imp (k_2091 x6 (by omega) (by omega) hN hJ.1) ?_
          rintro _ ⟨x11, M8, rfl, h12, h13, hJ9, hq10⟩
          have hJ14 := zJ_trans hJ hJ9 zSub_nil
          show ZW _ _ _ _ _ _ _ (66, [some (.ref 0), some (.int u43_1), some (.int v43_2)], [.int x11, .int v43_2, .ref 383], M8)
          refine w_isi dX8_hear_66 hJ14 zs_383 (by omega) (by omega) zu_383 (by omega) (by omega) (zIR_s (zIR_a (by omega) (by omega))) ?_
          intro M15 hJ16 f17 hn18
          refine w_inc (kk := 2) dX8_hear_67 rfl (m := 1) (by decide) (by omega) ?_
          intro x19 h20
          refine ⟨_, rfl, ?_⟩
          show ZW _ _ _ _ _ _ _ (70, [some (.ref 0), some (.int u43_1), some (.int x19)], [], M15)
          refine w_gt dX8_hear_70 (t := 43) rfl ?_
          have f21 := (hn18 (0) 1 (Or.inl (by omega))).trans ((hJ9.2 (0) 1 zNI_nil).trans (hft_43))
          exact ih43 M15 u43_1 x19 t_43 hJ16 (by omega) (by omega) f21 (by omega) (by omega)
        · skip
          refine w_cge_t dX8_hear_51 (t := 73) rfl (by omega) ?_
          refine w_lo dX8_hear_73 rfl rfl rfl rfl ?_
          refine w_ic dX8_hear_74 zi_1 ?_
          refine w_pfi dX8_hear_75 rfl hJ zs_0 (Nat.le_of_ble_eq_true rfl) zo_0_11 (by have := zt_1; omega) (by have := zt_1; omega) (zIR_s (zIR_s (zIR_s (zIR_k (by omega) (by omega))))) rfl rfl rfl ?_
          intro M22 hJ23 f24 hn25
          refine w_ic dX8_hear_78 zi_1 ?_
          refine w_en dX8_hear_79 rfl ?_
          have f26 := (hn25 (0) 1 (Or.inr (by decide))).trans (hft_43)
          exact ⟨_, _, rfl, (by have := zt_1; omega), (by have := zt_1; omega), hJ23, ⟨t_43, f26, (by have := zt_1; omega), trivial⟩⟩
  have ih43 := main 48
  show ZW _ _ _ _ _ _ _ (0, [some (.ref 0), none, none], [], M0)
  refine w_lo dX8_hear_0 rfl rfl rfl rfl ?_
  refine w_gfi dX8_hear_1 rfl hJ0.1 zs_0 (Nat.le_of_ble_eq_true rfl) zo_0_1 ?_
  intro x27 f28 h29 h30
  refine w_lo (ml' := [some (.ref 0), some (.int x27), none]) dX8_hear_4 rfl rfl rfl rfl ?_
  refine w_lo dX8_hear_5 rfl rfl rfl rfl ?_
  refine w_ic dX8_hear_6 zi_0 ?_
  refine w_pfi dX8_hear_7 rfl hJ0 zs_0 (Nat.le_of_ble_eq_true rfl) zo_0_1 (by have := zt_0; omega) (by have := zt_0; omega) (zIR_k (by omega) (by omega)) rfl rfl rfl ?_
  intro M31 hJ32 f33 hn34
  refine w_lo dX8_hear_10 rfl rfl rfl rfl ?_
  refine w_gf dX8_hear_11 rfl hJ32.1.1 zs_0 (zr_0_4 hJ32.1) ?_
  refine w_gfi dX8_hear_14 rfl hJ32.1 zs_49 (Nat.le_of_ble_eq_true rfl) zo_49_0 ?_
  intro x35 f36 h37 h38
  refine w_ic dX8_hear_17 zi_1 ?_
  rcases zcut x35.toInt (1 : Int) with h39 | h39
  · skip
    refine w_clt_t dX8_hear_18 (t := 34) rfl (by have := zt_1; omega) ?_
    refine w_lo dX8_hear_34 rfl rfl rfl rfl ?_
    refine w_ic dX8_hear_35 zi_1 ?_
    refine w_iv dX8_hear_36 rfl rfl (As := [.int 1]) rfl rfl hJ32.1.1 zs_0 (Nat.le_of_ble_eq_true rfl) ?_
    refine ZV.imp (k_2050 1 (by have := zt_1; omega) (by have := zt_1; omega) hN hJ32.1) ?_
    rintro _ ⟨M40, rfl, hJ41, hq42⟩
    have hJ43 := zJ_trans hJ32 hJ41 (zSub_cons (fun _ _ h h' hk => zIR_s (zIR_s (zIR_a (by omega) (by omega)))) zSub_nil)
    show ZW _ _ _ _ _ _ _ (39, [some (.ref 0), some (.int x27), none], [], M40)
    refine w_ic dX8_hear_39 zi_0 ?_
    refine w_en dX8_hear_40 rfl ?_
    have f44 := (hJ41.2 (0) 1 (zNI (by omega) zNI_nil)).trans (f33)
    exact ⟨_, _, rfl, (by have := zt_0; omega), (by have := zt_0; omega), hJ43, ⟨0, f44, (by have := zt_0; have := zt_0; omega), trivial⟩⟩
  · skip
    refine w_clt_f dX8_hear_18 (t := 34) rfl (by have := zt_1; omega) ?_
    refine w_lo dX8_hear_21 rfl rfl rfl rfl ?_
    refine w_ic dX8_hear_22 zi_2 ?_
    refine w_lo dX8_hear_23 rfl rfl rfl rfl ?_
    refine w_gf dX8_hear_24 rfl hJ32.1.1 zs_0 (zr_0_4 hJ32.1) ?_
    refine w_gf dX8_hear_27 rfl hJ32.1.1 zs_49 f36 ?_
    refine w_mulc dX8_hear_30 zt_2 (by have := zt_2; omega) ?_
    intro x45 h46
    have := zt_2
    rcases Int.decEq x27.toInt x45.toInt with h47 | h47
    · skip
      refine w_ceq_f dX8_hear_31 (t := 41) rfl (by omega) ?_
      refine w_lo dX8_hear_34 rfl rfl rfl rfl ?_
      refine w_ic dX8_hear_35 zi_1 ?_
      refine w_iv dX8_hear_36 rfl rfl (As := [.int 1]) rfl rfl hJ32.1.1 zs_0 (Nat.le_of_ble_eq_true rfl) ?_
      refine ZV.imp (k_2050 1 (by have := zt_1; omega) (by have := zt_1; omega) hN hJ32.1) ?_
      rintro _ ⟨M48, rfl, hJ49, hq50⟩
      have hJ51 := zJ_trans hJ32 hJ49 (zSub_cons (fun _ _ h h' hk => zIR_s (zIR_s (zIR_a (by omega) (by omega)))) zSub_nil)
      show ZW _ _ _ _ _ _ _ (39, [some (.ref 0), some (.int x27), none], [], M48)
      refine w_ic dX8_hear_39 zi_0 ?_
      refine w_en dX8_hear_40 rfl ?_
      have f52 := (hJ49.2 (0) 1 (zNI (by omega) zNI_nil)).trans (f33)
      exact ⟨_, _, rfl, (by have := zt_0; omega), (by have := zt_0; omega), hJ51, ⟨0, f52, (by have := zt_0; have := zt_0; omega), trivial⟩⟩
    · skip
      refine w_ceq_t dX8_hear_31 (t := 41) rfl (by omega) ?_
      refine w_ic dX8_hear_41 zi_0 ?_
      refine w_lo (ml' := [some (.ref 0), some (.int x27), some (.int 0)]) dX8_hear_42 rfl rfl rfl rfl ?_
      exact ih43 M31 x27 0 0 hJ32 (by have := zt_0; omega) (by have := zt_0; omega) f33 (by have := zt_0; omega) (by have := zt_0; omega)
set_option maxRecDepth 100000 in
theorem k_2094 {X : List Int32} {d N : Nat} {M0 : zM} (a0 : Int32) (ha00 : (0 : Int) ≤ a0.toInt) (ha01 : a0.toInt ≤ 11) (a1 : Int32) (ha10 : (0 : Int) ≤ a1.toInt) (ha11 : a1.toInt ≤ 5) (hN : N ≤ 600) (hB0 : zB N M0) : ZV X (d + 6) 2094 [.ref 0, .int a0, .int a1] M0 (zRI N [(362, 363, 1), (26, 28, 1000), (47, 49, 1000), (363, 364, 1000)] M0 (-2147483648) (2147483647) (fun _ _ => True)) := by
  have hJ0 : zJ N [(362, 363, 1), (26, 28, 1000), (47, 49, 1000), (363, 364, 1000)] M0 M0 := zJ_refl hB0
  refine ZV.of (ini := false) rfl (Nat.le_of_ble_eq_true rfl) (by decide +kernel) ?_
  have main : ∀ n : Nat,
      (∀ (M : zM) (v47_1 : Int32) (v47_2 : Int32) (v47_3 : Int32), zJ N [(362, 363, 1), (26, 28, 1000), (47, 49, 1000), (363, 364, 1000)] M0 M → ((0 : Int) ≤ v47_1.toInt) → (v47_1.toInt ≤ 11) → ((0 : Int) ≤ v47_2.toInt) → (v47_2.toInt ≤ 5) → ((0 : Int) ≤ v47_3.toInt) → (v47_3.toInt ≤ 12) → 3 * (12 - v47_3.toInt) + 1 < (n : Int) → ZW X (d + 5) 8 false (some .int) cX8_oddsOfHaving (zRI N [(362, 363, 1), (26, 28, 1000), (47, 49, 1000), (363, 364, 1000)] M0 (-2147483648) (2147483647) (fun _ _ => True)) (47, [some (.ref 0), some (.int v47_1), some (.int v47_2), some (.int v47_3)], [], M)) := by
    intro n
    induction n with
    | zero =>
      exact (fun M v47_1 v47_2 v47_3 hJ v47_10 v47_11 v47_20 v47_21 v47_30 v47_31 hn => absurd hn (by omega))
    | succ n ih =>
      have ih47 := ih
      · intro M v47_1 v47_2 v47_3 hJ v47_10 v47_11 v47_20 v47_21 v47_30 v47_31 hn
        refine w_lo dX8_oddsOfHaving_47 rfl rfl rfl rfl ?_
        refine w_lo dX8_oddsOfHaving_48 rfl rfl rfl rfl ?_
        refine w_gf dX8_oddsOfHaving_49 rfl hJ.1.1 zs_0 (zr_0_4 hJ.1) ?_
        refine w_gfi dX8_oddsOfHaving_52 rfl hJ.1 zs_49 (Nat.le_of_ble_eq_true rfl) zo_49_0 ?_
        intro x1 f2 h3 h4
        rcases zcut v47_3.toInt x1.toInt with h5 | h5
        · skip
          refine w_cge_f dX8_oddsOfHaving_55 (t := 84) rfl (by omega) ?_
          refine w_lo dX8_oddsOfHaving_58 rfl rfl rfl rfl ?_
          refine w_gf dX8_oddsOfHaving_59 rfl hJ.1.1 zs_0 (zr_0_8 hJ.1) ?_
          refine w_gf dX8_oddsOfHaving_62 rfl hJ.1.1 zs_362 (zr_362_0 hJ.1) ?_
          refine w_lo dX8_oddsOfHaving_65 rfl rfl rfl rfl ?_
          refine w_iai dX8_oddsOfHaving_66 hJ.1 zs_363 (by omega) (by omega) zu_363 ?_
          intro x9 f6 h7 h8
          refine w_lo dX8_oddsOfHaving_67 rfl rfl rfl rfl ?_
          refine w_gf dX8_oddsOfHaving_68 rfl hJ.1.1 zs_0 (zr_0_10 hJ.1) ?_
          refine w_lo dX8_oddsOfHaving_71 rfl rfl rfl rfl ?_
          refine w_iai dX8_oddsOfHaving_72 hJ.1 zs_383 (by omega) (by omega) zu_383 ?_
          intro x13 f10 h11 h12
          rcases Int.decEq x9.toInt x13.toInt with h14 | h14
          · skip
            refine w_ceq_f dX8_oddsOfHaving_73 (t := 78) rfl (by omega) ?_
            refine w_ic dX8_oddsOfHaving_76 zi_0 ?_
            refine w_en dX8_oddsOfHaving_77 rfl ?_
            exact ⟨_, _, rfl, (zbot _), (ztop _), hJ, trivial⟩
          · skip
            refine w_ceq_t dX8_oddsOfHaving_73 (t := 78) rfl (by omega) ?_
            refine w_inc (kk := 3) dX8_oddsOfHaving_78 rfl (m := 1) (by decide) (by omega) ?_
            intro x15 h16
            refine ⟨_, rfl, ?_⟩
            show ZW _ _ _ _ _ _ _ (81, [some (.ref 0), some (.int v47_1), some (.int v47_2), some (.int x15)], [], M)
            refine w_gt dX8_oddsOfHaving_81 (t := 47) rfl ?_
            exact ih47 M v47_1 v47_2 x15 hJ (by omega) (by omega) (by omega) (by omega) (by omega) (by omega) (by omega)
        · skip
          refine w_cge_t dX8_oddsOfHaving_55 (t := 84) rfl (by omega) ?_
          refine w_lo dX8_oddsOfHaving_84 rfl rfl rfl rfl ?_
          obtain ⟨b17, f18, h19⟩ := zd_0_3 hJ.1
          have h20 := zDm_b h19
          refine w_gf dX8_oddsOfHaving_85 rfl hJ.1.1 zs_0 f18 ?_
          refine w_gf dX8_oddsOfHaving_88 rfl hJ.1.1 (zs_1_0 h19) (zr_1_0_6 h19 hJ.1) ?_
          refine w_lo dX8_oddsOfHaving_91 rfl rfl rfl rfl ?_
          refine w_iai dX8_oddsOfHaving_92 hJ.1 (zs_1_4 h19) (by omega) (by omega) (zu_1_4 h19) ?_
          intro x24 f21 h22 h23
          refine w_lo dX8_oddsOfHaving_93 rfl rfl rfl rfl ?_
          refine w_gf dX8_oddsOfHaving_94 rfl hJ.1.1 zs_0 f18 ?_
          refine w_gf dX8_oddsOfHaving_97 rfl hJ.1.1 (zs_1_0 h19) (zr_1_0_13 h19 hJ.1) ?_
          refine w_lo dX8_oddsOfHaving_100 rfl rfl rfl rfl ?_
          refine w_iai dX8_oddsOfHaving_101 hJ.1 (zs_1_11 h19) (by omega) (by omega) (zu_1_11 h19) ?_
          intro x28 f25 h26 h27
          refine w_puI dX8_oddsOfHaving_102 rfl rfl ?_
          intro x29
          refine w_eni dX8_oddsOfHaving_103 rfl rfl ?_
          exact ⟨_, _, rfl, (zbot _), (ztop _), hJ, trivial⟩
  have ih47 := main 48
  show ZW _ _ _ _ _ _ _ (0, [some (.ref 0), some (.int a0), some (.int a1), none], [], M0)
  refine w_lo dX8_oddsOfHaving_0 rfl rfl rfl rfl ?_
  obtain ⟨b30, f31, h32⟩ := zd_0_3 hJ0.1
  have h33 := zDm_b h32
  refine w_gf dX8_oddsOfHaving_1 rfl hJ0.1.1 zs_0 f31 ?_
  refine w_lo dX8_oddsOfHaving_4 rfl rfl rfl rfl ?_
  refine w_iv dX8_oddsOfHaving_5 rfl rfl (As := [.int a0]) rfl rfl hJ0.1.1 (zs_1_0 h32) (Nat.le_of_ble_eq_true rfl) ?_
  refine ZV.imp (k_260 b30 h32 a0 (by omega) (by omega) hN hJ0.1) ?_
  rintro _ ⟨x37, M34, rfl, h38, h39, hJ35, hq36⟩
  have hJ40 := zJ_trans hJ0 hJ35 zSub_nil
  show ZW _ _ _ _ _ _ _ (8, [some (.ref 0), some (.int a0), some (.int a1), none], [.int x37], M34)
  rcases Int.decEq x37.toInt (0 : Int) with h41 | h41
  · skip
    refine w_ieq_f dX8_oddsOfHaving_8 (t := 13) rfl (by omega) ?_
    refine w_ic dX8_oddsOfHaving_11 zi_0 ?_
    refine w_en dX8_oddsOfHaving_12 rfl ?_
    exact ⟨_, _, rfl, (zbot _), (ztop _), hJ40, trivial⟩
  · skip
    refine w_ieq_t dX8_oddsOfHaving_8 (t := 13) rfl (by omega) ?_
    refine w_lo dX8_oddsOfHaving_13 rfl rfl rfl rfl ?_
    refine w_gf dX8_oddsOfHaving_14 rfl hJ40.1.1 zs_0 (zr_0_8 hJ40.1) ?_
    refine w_lo dX8_oddsOfHaving_17 rfl rfl rfl rfl ?_
    have f42 := (hJ35.2 (0) 3 zNI_nil).trans (f31)
    refine w_gf dX8_oddsOfHaving_18 rfl hJ40.1.1 zs_0 f42 ?_
    refine w_lo dX8_oddsOfHaving_21 rfl rfl rfl rfl ?_
    refine w_gf dX8_oddsOfHaving_22 rfl hJ40.1.1 zs_0 (zr_0_4 hJ40.1) ?_
    refine w_lo dX8_oddsOfHaving_25 rfl rfl rfl rfl ?_
    refine w_gf dX8_oddsOfHaving_26 rfl hJ40.1.1 zs_0 (zr_0_4 hJ40.1) ?_
    refine w_lo dX8_oddsOfHaving_29 rfl rfl rfl rfl ?_
    refine w_iv dX8_oddsOfHaving_30 rfl rfl (As := [.int a0]) rfl rfl hJ40.1.1 zs_49 (Nat.le_of_ble_eq_true rfl) ?_
    refine ZV.imp (k_1540 49 hb_6_49 a0 (by omega) (by omega) hN hJ40.1) ?_
    rintro _ ⟨x46, M43, rfl, h47, h48, hJ44, hq45⟩
    have hJ49 := zJ_trans hJ40 hJ44 zSub_nil
    show ZW _ _ _ _ _ _ _ (33, [some (.ref 0), some (.int a0), some (.int a1), none], [.int x46, .ref 49, .ref b30, .ref 362], M43)
    refine w_lo dX8_oddsOfHaving_33 rfl rfl rfl rfl ?_
    have f50 := (hJ44.2 (0) 3 zNI_nil).trans (f42)
    refine w_gf dX8_oddsOfHaving_34 rfl hJ49.1.1 zs_0 f50 ?_
    refine w_gf dX8_oddsOfHaving_37 rfl hJ49.1.1 (zs_1_0 h32) (zr_1_0_10 h32 hJ49.1) ?_
    refine w_lo dX8_oddsOfHaving_40 rfl rfl rfl rfl ?_
    refine w_iai dX8_oddsOfHaving_41 hJ49.1 (zs_1_8 h32) (by omega) (by omega) (zu_1_8 h32) ?_
    intro x54 f51 h52 h53
    refine w_iv dX8_oddsOfHaving_42 rfl rfl (As := [.ref b30, .ref 49, .int x46, .int x54]) rfl rfl hJ49.1.1 zs_362 (Nat.le_of_ble_eq_true rfl) ?_
    refine ZV.imp (k_1794 362 hb_7_362 b30 h32 49 hb_6_49 x46 (by omega) (by omega) x54 hN hJ49.1) ?_
    rintro _ ⟨M55, rfl, hJ56, hq57⟩
    have hJ58 := zJ_trans hJ49 hJ56 (zSub_cons (fun _ _ h h' hk => ((zDm_or h32).elim (fun e => zIR_s (zIR_a (by omega) (by omega))) (fun e => zIR_s (zIR_s (zIR_a (by omega) (by omega)))))) (zSub_cons (fun _ _ h h' hk => zIR_e (by omega) (by omega) hk) (zSub_cons (fun _ _ h h' hk => zIR_s (zIR_s (zIR_s (zIR_a (by omega) (by omega))))) zSub_nil)))
    show ZW _ _ _ _ _ _ _ (45, [some (.ref 0), some (.int a0), some (.int a1), none], [], M55)
    refine w_ic dX8_oddsOfHaving_45 zi_0 ?_
    refine w_lo (ml' := [some (.ref 0), some (.int a0), some (.int a1), some (.int 0)]) dX8_oddsOfHaving_46 rfl rfl rfl rfl ?_
    exact ih47 M55 a0 a1 0 hJ58 (by omega) (by omega) (by omega) (by omega) (by have := zt_0; omega) (by have := zt_0; omega) (by have := zt_0; omega)
