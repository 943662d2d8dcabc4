/-! the reference's methods come to an end, within the box (wip/safe/mks.py) -/
set_option maxRecDepth 100000 in
theorem k_2393 {X : List Int32} {d N : Nat} {M0 : zM} (a0 : Int32) (a1 : Int32) (ha10 : (0 : Int) ≤ a1.toInt) (ha11 : a1.toInt ≤ 1) (hN : N ≤ 600) (hB0 : zB N M0) : ZV X (d + 3) 2393 [.ref 386, .int a0, .int a1] M0 (zRI N [(415, 416, 1000), (418, 433, 1000), (386, 387, 64), (386, 387, 65)] M0 (0) (1) (fun _ _ => True)) := by
  have hJ0 : zJ N [(415, 416, 1000), (418, 433, 1000), (386, 387, 64), (386, 387, 65)] M0 M0 := zJ_refl hB0
  refine ZV.of (ini := false) rfl (Nat.le_of_ble_eq_true rfl) (by decide +kernel) ?_
  show ZW _ _ _ _ _ _ _ (0, [some (.ref 386), some (.int a0), some (.int a1)], [], M0)
  refine w_lo dX9_tie_0 rfl rfl rfl rfl ?_
  refine w_lo dX9_tie_1 rfl rfl rfl rfl ?_
  refine w_iv dX9_tie_2 rfl rfl (As := [.int a0]) rfl rfl hJ0.1.1 zs_386 (Nat.le_of_ble_eq_true rfl) ?_
  refine ZV.of (ini := false) rfl (Nat.le_of_ble_eq_true rfl) (by decide +kernel) ?_
  show ZW _ _ _ _ _ _ _ (0, [some (.ref 386), some (.int a0)], [], M0)
  refine w_lo dX9_isKnot_0 rfl rfl rfl rfl ?_
  rcases zcut a0.toInt (0 : Int) with h1 | h1
  · skip
    refine w_ilt_t dX9_isKnot_1 (t := 23) rfl (by omega) ?_
    refine w_ic dX9_isKnot_23 zi_0 ?_
    refine w_en dX9_isKnot_24 rfl ?_
    show ZW _ _ _ _ _ _ _ (5, [some (.ref 386), some (.int a0), some (.int a1)], [.int 0], M0)
    refine w_ieq_t dX9_tie_5 (t := 27) rfl (by have := zt_0; omega) ?_
    refine w_lo dX9_tie_27 rfl rfl rfl rfl ?_
    refine w_ic dX9_tie_28 zi_3 ?_
    refine w_iv dX9_tie_29 rfl rfl (As := [.int 3]) rfl rfl hJ0.1.1 zs_386 (Nat.le_of_ble_eq_true rfl) ?_
    refine ZV.imp (k_2306 3 (by have := zt_3; omega) (by have := zt_3; omega) hN hJ0.1) ?_
    rintro _ ⟨x5, M2, rfl, h6, h7, hJ3, hq4⟩
    have hJ8 := zJ_trans hJ0 hJ3 (zSub_cons (fun _ _ h h' hk => zIR_a (by omega) (by omega)) zSub_nil)
    show ZW _ _ _ _ _ _ _ (32, [some (.ref 386), some (.int a0), some (.int a1)], [.int x5], M2)
    refine w_ilt_t dX9_tie_32 (t := 39) rfl (by omega) ?_
    refine w_ic dX9_tie_39 zi_0 ?_
    refine w_en dX9_tie_40 rfl ?_
    exact ⟨_, _, rfl, (by have := zt_0; omega), (by have := zt_0; omega), hJ8, trivial⟩
  · skip
    refine w_ilt_f dX9_isKnot_1 (t := 23) rfl (by omega) ?_
    refine w_lo dX9_isKnot_4 rfl rfl rfl rfl ?_
    refine w_lo dX9_isKnot_5 rfl rfl rfl rfl ?_
    refine w_gf dX9_isKnot_6 rfl hJ0.1.1 zs_386 (zr_386_13 hJ0.1) ?_
    refine w_lo dX9_isKnot_9 rfl rfl rfl rfl ?_
    refine w_gfi dX9_isKnot_10 rfl hJ0.1 zs_386 (Nat.le_of_ble_eq_true rfl) zo_386_12 ?_
    intro x9 f10 h11 h12
    refine w_iai dX9_isKnot_13 hJ0.1 zs_388 (by omega) (by omega) zu_388 ?_
    intro x16 f13 h14 h15
    refine w_ic dX9_isKnot_14 zi_1 ?_
    refine w_sub dX9_isKnot_15 (by have := zt_1; omega) ?_
    intro x17 h18
    have := zt_1
    rcases zcut a0.toInt x17.toInt with h19 | h19
    · skip
      refine w_cge_f dX9_isKnot_16 (t := 23) rfl (by omega) ?_
      refine w_ic dX9_isKnot_19 zi_1 ?_
      refine w_gt dX9_isKnot_20 (t := 24) rfl ?_
      refine w_en dX9_isKnot_24 rfl ?_
      show ZW _ _ _ _ _ _ _ (5, [some (.ref 386), some (.int a0), some (.int a1)], [.int 1], M0)
      refine w_ieq_f dX9_tie_5 (t := 27) rfl (by have := zt_1; omega) ?_
      refine w_lo dX9_tie_8 rfl rfl rfl rfl ?_
      refine w_gf dX9_tie_9 rfl hJ0.1.1 zs_386 (zr_386_60 hJ0.1) ?_
      refine w_lo dX9_tie_12 rfl rfl rfl rfl ?_
      refine w_iai dX9_tie_13 hJ0.1 zs_429 (by omega) (by omega) zu_429 ?_
      intro x23 f20 h21 h22
      refine w_ic dX9_tie_14 zi_1 ?_
      rcases Int.decEq x23.toInt (1 : Int) with h24 | h24
      · skip
        refine w_cne_t dX9_tie_15 (t := 22) rfl (by have := zt_1; omega) ?_
        refine w_ic dX9_tie_22 zi_0 ?_
        refine w_lo dX9_tie_23 rfl rfl rfl rfl ?_
        rcases Int.decEq (0 : Int) a1.toInt with h25 | h25
        · skip
          refine w_cne_t dX9_tie_24 (t := 41) rfl (by have := zt_0; omega) ?_
          refine w_lo dX9_tie_41 rfl rfl rfl rfl ?_
          refine w_iv dX9_tie_42 rfl rfl (As := []) rfl rfl hJ0.1.1 zs_386 (Nat.le_of_ble_eq_true rfl) ?_
          refine ZV.imp (k_2377 hN hJ0.1) ?_
          rintro _ ⟨M26, rfl, hJ27, hq28⟩
          have hJ29 := zJ_trans hJ0 hJ27 (zSub_cons (fun _ _ h h' hk => zIR_s (zIR_a (by omega) (by omega))) (zSub_cons (fun _ _ h h' hk => zIR_s (zIR_s (zIR_e (by omega) (by omega) hk))) (zSub_cons (fun _ _ h h' hk => zIR_s (zIR_s (zIR_s (zIR_e (by omega) (by omega) hk)))) zSub_nil)))
          show ZW _ _ _ _ _ _ _ (45, [some (.ref 386), some (.int a0), some (.int a1)], [], M26)
          refine w_lo dX9_tie_45 rfl rfl rfl rfl ?_
          refine w_gf dX9_tie_46 rfl hJ29.1.1 zs_386 (zr_386_60 hJ29.1) ?_
          refine w_lo dX9_tie_49 rfl rfl rfl rfl ?_
          refine w_lo dX9_tie_50 rfl rfl rfl rfl ?_
          refine w_ieq_f dX9_tie_51 (t := 58) rfl (by omega) ?_
          refine w_ic dX9_tie_54 zi_1 ?_
          refine w_gt dX9_tie_55 (t := 59) rfl ?_
          refine w_isi dX9_tie_59 hJ29 zs_429 (by omega) (by omega) zu_429 (by have := zt_1; omega) (by have := zt_1; omega) (zIR_s (zIR_a (by omega) (by omega))) ?_
          intro M30 hJ31 f32 hn33
          refine w_ic dX9_tie_60 zi_1 ?_
          refine w_en dX9_tie_61 rfl ?_
          exact ⟨_, _, rfl, (by have := zt_1; omega), (by have := zt_1; omega), hJ31, trivial⟩
        · skip
          refine w_cne_f dX9_tie_24 (t := 41) rfl (by have := zt_0; omega) ?_
          refine w_lo dX9_tie_27 rfl rfl rfl rfl ?_
          refine w_ic dX9_tie_28 zi_3 ?_
          refine w_iv dX9_tie_29 rfl rfl (As := [.int 3]) rfl rfl hJ0.1.1 zs_386 (Nat.le_of_ble_eq_true rfl) ?_
          refine ZV.imp (k_2306 3 (by have := zt_3; omega) (by have := zt_3; omega) hN hJ0.1) ?_
          rintro _ ⟨x37, M34, rfl, h38, h39, hJ35, hq36⟩
          have hJ40 := zJ_trans hJ0 hJ35 (zSub_cons (fun _ _ h h' hk => zIR_a (by omega) (by omega)) zSub_nil)
          show ZW _ _ _ _ _ _ _ (32, [some (.ref 386), some (.int a0), some (.int a1)], [.int x37], M34)
          refine w_ilt_t dX9_tie_32 (t := 39) rfl (by omega) ?_
          refine w_ic dX9_tie_39 zi_0 ?_
          refine w_en dX9_tie_40 rfl ?_
          exact ⟨_, _, rfl, (by have := zt_0; omega), (by have := zt_0; omega), hJ40, trivial⟩
      · skip
        refine w_cne_f dX9_tie_15 (t := 22) rfl (by have := zt_1; omega) ?_
        refine w_ic dX9_tie_18 zi_1 ?_
        refine w_gt dX9_tie_19 (t := 23) rfl ?_
        refine w_lo dX9_tie_23 rfl rfl rfl rfl ?_
        rcases Int.decEq (1 : Int) a1.toInt with h41 | h41
        · skip
          refine w_cne_t dX9_tie_24 (t := 41) rfl (by have := zt_1; omega) ?_
          refine w_lo dX9_tie_41 rfl rfl rfl rfl ?_
          refine w_iv dX9_tie_42 rfl rfl (As := []) rfl rfl hJ0.1.1 zs_386 (Nat.le_of_ble_eq_true rfl) ?_
          refine ZV.imp (k_2377 hN hJ0.1) ?_
          rintro _ ⟨M42, rfl, hJ43, hq44⟩
          have hJ45 := zJ_trans hJ0 hJ43 (zSub_cons (fun _ _ h h' hk => zIR_s (zIR_a (by omega) (by omega))) (zSub_cons (fun _ _ h h' hk => zIR_s (zIR_s (zIR_e (by omega) (by omega) hk))) (zSub_cons (fun _ _ h h' hk => zIR_s (zIR_s (zIR_s (zIR_e (by omega) (by omega) hk)))) zSub_nil)))
          show ZW _ _ _ _ _ _ _ (45, [some (.ref 386), some (.int a0), some (.int a1)], [], M42)
          refine w_lo dX9_tie_45 rfl rfl rfl rfl ?_
          refine w_gf dX9_tie_46 rfl hJ45.1.1 zs_386 (zr_386_60 hJ45.1) ?_
          refine w_lo dX9_tie_49 rfl rfl rfl rfl ?_
          refine w_lo dX9_tie_50 rfl rfl rfl rfl ?_
          refine w_ieq_t dX9_tie_51 (t := 58) rfl (by omega) ?_
          refine w_ic dX9_tie_58 zi_0 ?_
          refine w_isi dX9_tie_59 hJ45 zs_429 (by omega) (by omega) zu_429 (by have := zt_0; omega) (by have := zt_0; omega) (zIR_s (zIR_a (by omega) (by omega))) ?_
          intro M46 hJ47 f48 hn49
          refine w_ic dX9_tie_60 zi_1 ?_
          refine w_en dX9_tie_61 rfl ?_
          exact ⟨_, _, rfl, (by have := zt_1; omega), (by have := zt_1; omega), hJ47, trivial⟩
        · skip
          refine w_cne_f dX9_tie_24 (t := 41) rfl (by have := zt_1; omega) ?_
          refine w_lo dX9_tie_27 rfl rfl rfl rfl ?_
          refine w_ic dX9_tie_28 zi_3 ?_
          refine w_iv dX9_tie_29 rfl rfl (As := [.int 3]) rfl rfl hJ0.1.1 zs_386 (Nat.le_of_ble_eq_true rfl) ?_
          refine ZV.imp (k_2306 3 (by have := zt_3; omega) (by have := zt_3; omega) hN hJ0.1) ?_
          rintro _ ⟨x53, M50, rfl, h54, h55, hJ51, hq52⟩
          have hJ56 := zJ_trans hJ0 hJ51 (zSub_cons (fun _ _ h h' hk => zIR_a (by omega) (by omega)) zSub_nil)
          show ZW _ _ _ _ _ _ _ (32, [some (.ref 386), some (.int a0), some (.int a1)], [.int x53], M50)
          refine w_ilt_t dX9_tie_32 (t := 39) rfl (by omega) ?_
          refine w_ic dX9_tie_39 zi_0 ?_
          refine w_en dX9_tie_40 rfl ?_
          exact ⟨_, _, rfl, (by have := zt_0; omega), (by have := zt_0; omega), hJ56, trivial⟩
    · skip
      refine w_cge_t dX9_isKnot_16 (t := 23) rfl (by omega) ?_
      refine w_ic dX9_isKnot_23 zi_0 ?_
      refine w_en dX9_isKnot_24 rfl ?_
      show ZW _ _ _ _ _ _ _ (5, [some (.ref 386), some (.int a0), some (.int a1)], [.int 0], M0)
      refine w_ieq_t dX9_tie_5 (t := 27) rfl (by have := zt_0; omega) ?_
      refine w_lo dX9_tie_27 rfl rfl rfl rfl ?_
      refine w_ic dX9_tie_28 zi_3 ?_
      refine w_iv dX9_tie_29 rfl rfl (As := [.int 3]) rfl rfl hJ0.1.1 zs_386 (Nat.le_of_ble_eq_true rfl) ?_
      refine ZV.imp (k_2306 3 (by have := zt_3; omega) (by have := zt_3; omega) hN hJ0.1) ?_
      rintro _ ⟨x60, M57, rfl, h61, h62, hJ58, hq59⟩
      have hJ63 := zJ_trans hJ0 hJ58 (zSub_cons (fun _ _ h h' hk => zIR_a (by omega) (by omega)) zSub_nil)
      show ZW _ _ _ _ _ _ _ (32, [some (.ref 386), some (.int a0), some (.int a1)], [.int x60], M57)
      refine w_ilt_t dX9_tie_32 (t := 39) rfl (by omega) ?_
      refine w_ic dX9_tie_39 zi_0 ?_
      refine w_en dX9_tie_40 rfl ?_
      exact ⟨_, _, rfl, (by have := zt_0; omega), (by have := zt_0; omega), hJ63, trivial⟩
set_option maxRecDepth 100000 in
theorem k_2394 {X : List Int32} {d N : Nat} {M0 : zM} (a0 : Int32) (a1 : Int32) (hN : N ≤ 600) (hB0 : zB N M0) : ZV X (d + 3) 2394 [.ref 386, .int a0, .int a1] M0 (zRI N [(415, 416, 1000), (418, 433, 1000), (386, 387, 64), (386, 387, 65)] M0 (-2147483648) (2147483647) (fun _ _ => True)) := by
  have hJ0 : zJ N [(415, 416, 1000), (418, 433, 1000), (386, 387, 64), (386, 387, 65)] M0 M0 := zJ_refl hB0
  refine ZV.of (ini := false) rfl (Nat.le_of_ble_eq_true rfl) (by decide +kernel) ?_
  show ZW _ _ _ _ _ _ _ (0, [some (.ref 386), some (.int a0), some (.int a1), none], [], M0)
  refine w_lo dX9_slack_0 rfl rfl rfl rfl ?_
  refine w_lo dX9_slack_1 rfl rfl rfl rfl ?_
  refine w_iv dX9_slack_2 rfl rfl (As := [.int a0]) rfl rfl hJ0.1.1 zs_386 (Nat.le_of_ble_eq_true rfl) ?_
  refine ZV.of (ini := false) rfl (Nat.le_of_ble_eq_true rfl) (by decide +kernel) ?_
  show ZW _ _ _ _ _ _ _ (0, [some (.ref 386), some (.int a0)], [], M0)
  refine w_lo dX9_isKnot_0 rfl rfl rfl rfl ?_
  rcases zcut a0.toInt (0 : Int) with h1 | h1
  · skip
    refine w_ilt_t dX9_isKnot_1 (t := 23) rfl (by omega) ?_
    refine w_ic dX9_isKnot_23 zi_0 ?_
    refine w_en dX9_isKnot_24 rfl ?_
    show ZW _ _ _ _ _ _ _ (5, [some (.ref 386), some (.int a0), some (.int a1), none], [.int 0], M0)
    refine w_ieq_t dX9_slack_5 (t := 18) rfl (by have := zt_0; omega) ?_
    refine w_lo dX9_slack_18 rfl rfl rfl rfl ?_
    refine w_ic dX9_slack_19 zi_3 ?_
    refine w_iv dX9_slack_20 rfl rfl (As := [.int 3]) rfl rfl hJ0.1.1 zs_386 (Nat.le_of_ble_eq_true rfl) ?_
    refine ZV.imp (k_2306 3 (by have := zt_3; omega) (by have := zt_3; omega) hN hJ0.1) ?_
    rintro _ ⟨x5, M2, rfl, h6, h7, hJ3, hq4⟩
    have hJ8 := zJ_trans hJ0 hJ3 (zSub_cons (fun _ _ h h' hk => zIR_a (by omega) (by omega)) zSub_nil)
    show ZW _ _ _ _ _ _ _ (23, [some (.ref 386), some (.int a0), some (.int a1), none], [.int x5], M2)
    refine w_eni dX9_slack_23 rfl rfl ?_
    exact ⟨_, _, rfl, (zbot _), (ztop _), hJ8, trivial⟩
  · skip
    refine w_ilt_f dX9_isKnot_1 (t := 23) rfl (by omega) ?_
    refine w_lo dX9_isKnot_4 rfl rfl rfl rfl ?_
    refine w_lo dX9_isKnot_5 rfl rfl rfl rfl ?_
    refine w_gf dX9_isKnot_6 rfl hJ0.1.1 zs_386 (zr_386_13 hJ0.1) ?_
    refine w_lo dX9_isKnot_9 rfl rfl rfl rfl ?_
    refine w_gfi dX9_isKnot_10 rfl hJ0.1 zs_386 (Nat.le_of_ble_eq_true rfl) zo_386_12 ?_
    intro x9 f10 h11 h12
    refine w_iai dX9_isKnot_13 hJ0.1 zs_388 (by omega) (by omega) zu_388 ?_
    intro x16 f13 h14 h15
    refine w_ic dX9_isKnot_14 zi_1 ?_
    refine w_sub dX9_isKnot_15 (by have := zt_1; omega) ?_
    intro x17 h18
    have := zt_1
    rcases zcut a0.toInt x17.toInt with h19 | h19
    · skip
      refine w_cge_f dX9_isKnot_16 (t := 23) rfl (by omega) ?_
      refine w_ic dX9_isKnot_19 zi_1 ?_
      refine w_gt dX9_isKnot_20 (t := 24) rfl ?_
      refine w_en dX9_isKnot_24 rfl ?_
      show ZW _ _ _ _ _ _ _ (5, [some (.ref 386), some (.int a0), some (.int a1), none], [.int 1], M0)
      refine w_ieq_f dX9_slack_5 (t := 18) rfl (by have := zt_1; omega) ?_
      refine w_lo dX9_slack_8 rfl rfl rfl rfl ?_
      refine w_ic dX9_slack_9 zi_0 ?_
      refine w_bi dX9_slack_10 (c := 99) (by decide) ?_
      refine w_ss dX9_slack_12 rfl rfl (As := [.int a1, .int 0, .int 99]) rfl rfl (Nat.le_of_ble_eq_true rfl) ?_
      refine ZV.of (ini := false) rfl (Nat.le_of_ble_eq_true rfl) (by decide +kernel) ?_
      show ZW _ _ _ _ _ _ _ (0, [some (.int a1), some (.int 0), some (.int 99)], [], M0)
      refine w_lo dX9_is_0 rfl rfl rfl rfl ?_
      refine w_lo dX9_is_1 rfl rfl rfl rfl ?_
      rcases zcut a1.toInt (0 : Int) with h20 | h20
      · skip
        refine w_clt_t dX9_is_2 (t := 14) rfl (by have := zt_0; omega) ?_
        refine w_ic dX9_is_14 zi_0 ?_
        refine w_en dX9_is_15 rfl ?_
        show ZW _ _ _ _ _ _ _ (15, [some (.ref 386), some (.int a0), some (.int a1), none], [.int 0], M0)
        refine w_ine_f dX9_slack_15 (t := 24) rfl (by have := zt_0; omega) ?_
        refine w_lo dX9_slack_18 rfl rfl rfl rfl ?_
        refine w_ic dX9_slack_19 zi_3 ?_
        refine w_iv dX9_slack_20 rfl rfl (As := [.int 3]) rfl rfl hJ0.1.1 zs_386 (Nat.le_of_ble_eq_true rfl) ?_
        refine ZV.imp (k_2306 3 (by have := zt_3; omega) (by have := zt_3; omega) hN hJ0.1) ?_
        rintro _ ⟨x24, M21, rfl, h25, h26, hJ22, hq23⟩
        have hJ27 := zJ_trans hJ0 hJ22 (zSub_cons (fun _ _ h h' hk => zIR_a (by omega) (by omega)) zSub_nil)
        show ZW _ _ _ _ _ _ _ (23, [some (.ref 386), some (.int a0), some (.int a1), none], [.int x24], M21)
        refine w_eni dX9_slack_23 rfl rfl ?_
        exact ⟨_, _, rfl, (zbot _), (ztop _), hJ27, trivial⟩
      · skip
        refine w_clt_f dX9_is_2 (t := 14) rfl (by have := zt_0; omega) ?_
        refine w_lo dX9_is_5 rfl rfl rfl rfl ?_
        refine w_lo dX9_is_6 rfl rfl rfl rfl ?_
        rcases zcut (99 : Int) a1.toInt with h28 | h28
        · skip
          refine w_cgt_t dX9_is_7 (t := 14) rfl (by have := zt_99; omega) ?_
          refine w_ic dX9_is_14 zi_0 ?_
          refine w_en dX9_is_15 rfl ?_
          show ZW _ _ _ _ _ _ _ (15, [some (.ref 386), some (.int a0), some (.int a1), none], [.int 0], M0)
          refine w_ine_f dX9_slack_15 (t := 24) rfl (by have := zt_0; omega) ?_
          refine w_lo dX9_slack_18 rfl rfl rfl rfl ?_
          refine w_ic dX9_slack_19 zi_3 ?_
          refine w_iv dX9_slack_20 rfl rfl (As := [.int 3]) rfl rfl hJ0.1.1 zs_386 (Nat.le_of_ble_eq_true rfl) ?_
          refine ZV.imp (k_2306 3 (by have := zt_3; omega) (by have := zt_3; omega) hN hJ0.1) ?_
          rintro _ ⟨x32, M29, rfl, h33, h34, hJ30, hq31⟩
          have hJ35 := zJ_trans hJ0 hJ30 (zSub_cons (fun _ _ h h' hk => zIR_a (by omega) (by omega)) zSub_nil)
          show ZW _ _ _ _ _ _ _ (23, [some (.ref 386), some (.int a0), some (.int a1), none], [.int x32], M29)
          refine w_eni dX9_slack_23 rfl rfl ?_
          exact ⟨_, _, rfl, (zbot _), (ztop _), hJ35, trivial⟩
        · skip
          refine w_cgt_f dX9_is_7 (t := 14) rfl (by have := zt_99; omega) ?_
          refine w_ic dX9_is_10 zi_1 ?_
          refine w_gt dX9_is_11 (t := 15) rfl ?_
          refine w_en dX9_is_15 rfl ?_
          show ZW _ _ _ _ _ _ _ (15, [some (.ref 386), some (.int a0), some (.int a1), none], [.int 1], M0)
          refine w_ine_t dX9_slack_15 (t := 24) rfl (by have := zt_1; omega) ?_
          refine w_lo dX9_slack_24 rfl rfl rfl rfl ?_
          refine w_iv dX9_slack_25 rfl rfl (As := []) rfl rfl hJ0.1.1 zs_386 (Nat.le_of_ble_eq_true rfl) ?_
          refine ZV.imp (k_2377 hN hJ0.1) ?_
          rintro _ ⟨M36, rfl, hJ37, hq38⟩
          have hJ39 := zJ_trans hJ0 hJ37 (zSub_cons (fun _ _ h h' hk => zIR_s (zIR_a (by omega) (by omega))) (zSub_cons (fun _ _ h h' hk => zIR_s (zIR_s (zIR_e (by omega) (by omega) hk))) (zSub_cons (fun _ _ h h' hk => zIR_s (zIR_s (zIR_s (zIR_e (by omega) (by omega) hk)))) zSub_nil)))
          show ZW _ _ _ _ _ _ _ (28, [some (.ref 386), some (.int a0), some (.int a1), none], [], M36)
          refine w_lo dX9_slack_28 rfl rfl rfl rfl ?_
          refine w_gf dX9_slack_29 rfl hJ39.1.1 zs_386 (zr_386_61 hJ39.1) ?_
          refine w_lo dX9_slack_32 rfl rfl rfl rfl ?_
          refine w_iai dX9_slack_33 hJ39.1 zs_430 (by omega) (by omega) zu_430 ?_
          intro x43 f40 h41 h42
          refine w_lo (ml' := [some (.ref 386), some (.int a0), some (.int a1), some (.int x43)]) dX9_slack_34 rfl rfl rfl rfl ?_
          refine w_lo dX9_slack_35 rfl rfl rfl rfl ?_
          refine w_gf dX9_slack_36 rfl hJ39.1.1 zs_386 (zr_386_61 hJ39.1) ?_
          refine w_lo dX9_slack_39 rfl rfl rfl rfl ?_
          refine w_lo dX9_slack_40 rfl rfl rfl rfl ?_
          refine w_isi dX9_slack_41 hJ39 zs_430 (by omega) (by omega) zu_430 (zbot _) (ztop _) (zIR_s (zIR_a (by omega) (by omega))) ?_
          intro M44 hJ45 f46 hn47
          refine w_lo dX9_slack_42 rfl rfl rfl rfl ?_
          refine w_eni dX9_slack_43 rfl rfl ?_
          exact ⟨_, _, rfl, (zbot _), (ztop _), hJ45, trivial⟩
    · skip
      refine w_cge_t dX9_isKnot_16 (t := 23) rfl (by omega) ?_
      refine w_ic dX9_isKnot_23 zi_0 ?_
      refine w_en dX9_isKnot_24 rfl ?_
      show ZW _ _ _ _ _ _ _ (5, [some (.ref 386), some (.int a0), some (.int a1), none], [.int 0], M0)
      refine w_ieq_t dX9_slack_5 (t := 18) rfl (by have := zt_0; omega) ?_
      refine w_lo dX9_slack_18 rfl rfl rfl rfl ?_
      refine w_ic dX9_slack_19 zi_3 ?_
      refine w_iv dX9_slack_20 rfl rfl (As := [.int 3]) rfl rfl hJ0.1.1 zs_386 (Nat.le_of_ble_eq_true rfl) ?_
      refine ZV.imp (k_2306 3 (by have := zt_3; omega) (by have := zt_3; omega) hN hJ0.1) ?_
      rintro _ ⟨x51, M48, rfl, h52, h53, hJ49, hq50⟩
      have hJ54 := zJ_trans hJ0 hJ49 (zSub_cons (fun _ _ h h' hk => zIR_a (by omega) (by omega)) zSub_nil)
      show ZW _ _ _ _ _ _ _ (23, [some (.ref 386), some (.int a0), some (.int a1), none], [.int x51], M48)
      refine w_eni dX9_slack_23 rfl rfl ?_
      exact ⟨_, _, rfl, (zbot _), (ztop _), hJ54, trivial⟩
set_option maxRecDepth 100000 in
theorem k_2395 {X : List Int32} {d N : Nat} {M0 : zM} (a0 : Int32) (a1 : Int32) (hN : N ≤ 600) (hB0 : zB N M0) : ZV X (d + 3) 2395 [.ref 386, .int a0, .int a1] M0 (zRI N [(415, 416, 1000), (418, 433, 1000), (386, 387, 64), (386, 387, 65)] M0 (0) (1) (fun _ _ => True)) := by
  have hJ0 : zJ N [(415, 416, 1000), (418, 433, 1000), (386, 387, 64), (386, 387, 65)] M0 M0 := zJ_refl hB0
  refine ZV.of (ini := false) rfl (Nat.le_of_ble_eq_true rfl) (by decide +kernel) ?_
  show ZW _ _ _ _ _ _ _ (0, [some (.ref 386), some (.int a0), some (.int a1), none], [], M0)
  refine w_lo dX9_swap_0 rfl rfl rfl rfl ?_
  refine w_lo dX9_swap_1 rfl rfl rfl rfl ?_
  refine w_iv dX9_swap_2 rfl rfl (As := [.int a0]) rfl rfl hJ0.1.1 zs_386 (Nat.le_of_ble_eq_true rfl) ?_
  refine ZV.of (ini := false) rfl (Nat.le_of_ble_eq_true rfl) (by decide +kernel) ?_
  show ZW _ _ _ _ _ _ _ (0, [some (.ref 386), some (.int a0)], [], M0)
  refine w_lo dX9_isBoy_0 rfl rfl rfl rfl ?_
  rcases zcut a0.toInt (0 : Int) with h1 | h1
  · skip
    refine w_ilt_t dX9_isBoy_1 (t := 21) rfl (by omega) ?_
    refine w_ic dX9_isBoy_21 zi_0 ?_
    refine w_en dX9_isBoy_22 rfl ?_
    show ZW _ _ _ _ _ _ _ (5, [some (.ref 386), some (.int a0), some (.int a1), none], [.int 0], M0)
    refine w_ieq_t dX9_swap_5 (t := 21) rfl (by have := zt_0; omega) ?_
    refine w_lo dX9_swap_21 rfl rfl rfl rfl ?_
    refine w_ic dX9_swap_22 zi_3 ?_
    refine w_iv dX9_swap_23 rfl rfl (As := [.int 3]) rfl rfl hJ0.1.1 zs_386 (Nat.le_of_ble_eq_true rfl) ?_
    refine ZV.imp (k_2306 3 (by have := zt_3; omega) (by have := zt_3; omega) hN hJ0.1) ?_
    rintro _ ⟨x5, M2, rfl, h6, h7, hJ3, hq4⟩
    have hJ8 := zJ_trans hJ0 hJ3 (zSub_cons (fun _ _ h h' hk => zIR_a (by omega) (by omega)) zSub_nil)
    show ZW _ _ _ _ _ _ _ (26, [some (.ref 386), some (.int a0), some (.int a1), none], [.int x5], M2)
    refine w_ilt_t dX9_swap_26 (t := 33) rfl (by omega) ?_
    refine w_ic dX9_swap_33 zi_0 ?_
    refine w_en dX9_swap_34 rfl ?_
    exact ⟨_, _, rfl, (by have := zt_0; omega), (by have := zt_0; omega), hJ8, trivial⟩
  · skip
    refine w_ilt_f dX9_isBoy_1 (t := 21) rfl (by omega) ?_
    refine w_lo dX9_isBoy_4 rfl rfl rfl rfl ?_
    refine w_lo dX9_isBoy_5 rfl rfl rfl rfl ?_
    refine w_gf dX9_isBoy_6 rfl hJ0.1.1 zs_386 (zr_386_13 hJ0.1) ?_
    refine w_lo dX9_isBoy_9 rfl rfl rfl rfl ?_
    refine w_gfi dX9_isBoy_10 rfl hJ0.1 zs_386 (Nat.le_of_ble_eq_true rfl) zo_386_12 ?_
    intro x9 f10 h11 h12
    refine w_iai dX9_isBoy_13 hJ0.1 zs_388 (by omega) (by omega) zu_388 ?_
    intro x16 f13 h14 h15
    rcases zcut a0.toInt x16.toInt with h17 | h17
    · skip
      refine w_cge_f dX9_isBoy_14 (t := 21) rfl (by omega) ?_
      refine w_ic dX9_isBoy_17 zi_1 ?_
      refine w_gt dX9_isBoy_18 (t := 22) rfl ?_
      refine w_en dX9_isBoy_22 rfl ?_
      show ZW _ _ _ _ _ _ _ (5, [some (.ref 386), some (.int a0), some (.int a1), none], [.int 1], M0)
      refine w_ieq_f dX9_swap_5 (t := 21) rfl (by have := zt_1; omega) ?_
      refine w_lo dX9_swap_8 rfl rfl rfl rfl ?_
      refine w_lo dX9_swap_9 rfl rfl rfl rfl ?_
      refine w_iv dX9_swap_10 rfl rfl (As := [.int a1]) rfl rfl hJ0.1.1 zs_386 (Nat.le_of_ble_eq_true rfl) ?_
      refine ZV.of (ini := false) rfl (Nat.le_of_ble_eq_true rfl) (by decide +kernel) ?_
      show ZW _ _ _ _ _ _ _ (0, [some (.ref 386), some (.int a1)], [], M0)
      refine w_lo dX9_isBoy_0 rfl rfl rfl rfl ?_
      rcases zcut a1.toInt (0 : Int) with h18 | h18
      · skip
        refine w_ilt_t dX9_isBoy_1 (t := 21) rfl (by omega) ?_
        refine w_ic dX9_isBoy_21 zi_0 ?_
        refine w_en dX9_isBoy_22 rfl ?_
        show ZW _ _ _ _ _ _ _ (13, [some (.ref 386), some (.int a0), some (.int a1), none], [.int 0], M0)
        refine w_ieq_t dX9_swap_13 (t := 21) rfl (by have := zt_0; omega) ?_
        refine w_lo dX9_swap_21 rfl rfl rfl rfl ?_
        refine w_ic dX9_swap_22 zi_3 ?_
        refine w_iv dX9_swap_23 rfl rfl (As := [.int 3]) rfl rfl hJ0.1.1 zs_386 (Nat.le_of_ble_eq_true rfl) ?_
        refine ZV.imp (k_2306 3 (by have := zt_3; omega) (by have := zt_3; omega) hN hJ0.1) ?_
        rintro _ ⟨x22, M19, rfl, h23, h24, hJ20, hq21⟩
        have hJ25 := zJ_trans hJ0 hJ20 (zSub_cons (fun _ _ h h' hk => zIR_a (by omega) (by omega)) zSub_nil)
        show ZW _ _ _ _ _ _ _ (26, [some (.ref 386), some (.int a0), some (.int a1), none], [.int x22], M19)
        refine w_ilt_t dX9_swap_26 (t := 33) rfl (by omega) ?_
        refine w_ic dX9_swap_33 zi_0 ?_
        refine w_en dX9_swap_34 rfl ?_
        exact ⟨_, _, rfl, (by have := zt_0; omega), (by have := zt_0; omega), hJ25, trivial⟩
      · skip
        refine w_ilt_f dX9_isBoy_1 (t := 21) rfl (by omega) ?_
        refine w_lo dX9_isBoy_4 rfl rfl rfl rfl ?_
        refine w_lo dX9_isBoy_5 rfl rfl rfl rfl ?_
        refine w_gf dX9_isBoy_6 rfl hJ0.1.1 zs_386 (zr_386_13 hJ0.1) ?_
        refine w_lo dX9_isBoy_9 rfl rfl rfl rfl ?_
        refine w_gf dX9_isBoy_10 rfl hJ0.1.1 zs_386 f10 ?_
        refine w_ia dX9_isBoy_13 hJ0.1.1 zs_388 (znat (by omega)) f13 ?_
        rcases zcut a1.toInt x16.toInt with h29 | h29
        · skip
          refine w_cge_f dX9_isBoy_14 (t := 21) rfl (by omega) ?_
          refine w_ic dX9_isBoy_17 zi_1 ?_
          refine w_gt dX9_isBoy_18 (t := 22) rfl ?_
          refine w_en dX9_isBoy_22 rfl ?_
          show ZW _ _ _ _ _ _ _ (13, [some (.ref 386), some (.int a0), some (.int a1), none], [.int 1], M0)
          refine w_ieq_f dX9_swap_13 (t := 21) rfl (by have := zt_1; omega) ?_
          refine w_lo dX9_swap_16 rfl rfl rfl rfl ?_
          refine w_lo dX9_swap_17 rfl rfl rfl rfl ?_
          rcases Int.decEq a0.toInt a1.toInt with h30 | h30
          · skip
            refine w_cne_t dX9_swap_18 (t := 35) rfl (by omega) ?_
            refine w_lo dX9_swap_35 rfl rfl rfl rfl ?_
            refine w_iv dX9_swap_36 rfl rfl (As := []) rfl rfl hJ0.1.1 zs_386 (Nat.le_of_ble_eq_true rfl) ?_
            refine ZV.imp (k_2377 hN hJ0.1) ?_
            rintro _ ⟨M31, rfl, hJ32, hq33⟩
            have hJ34 := zJ_trans hJ0 hJ32 (zSub_cons (fun _ _ h h' hk => zIR_s (zIR_a (by omega) (by omega))) (zSub_cons (fun _ _ h h' hk => zIR_s (zIR_s (zIR_e (by omega) (by omega) hk))) (zSub_cons (fun _ _ h h' hk => zIR_s (zIR_s (zIR_s (zIR_e (by omega) (by omega) hk)))) zSub_nil)))
            show ZW _ _ _ _ _ _ _ (39, [some (.ref 386), some (.int a0), some (.int a1), none], [], M31)
            refine w_lo dX9_swap_39 rfl rfl rfl rfl ?_
            refine w_gf dX9_swap_40 rfl hJ34.1.1 zs_386 (zr_386_50 hJ34.1) ?_
            refine w_lo dX9_swap_43 rfl rfl rfl rfl ?_
            refine w_iai dX9_swap_44 hJ34.1 zs_419 (by omega) (by omega) zu_419 ?_
            intro x38 f35 h36 h37
            refine w_lo (ml' := [some (.ref 386), some (.int a0), some (.int a1), some (.int x38)]) dX9_swap_45 rfl rfl rfl rfl ?_
            refine w_lo dX9_swap_46 rfl rfl rfl rfl ?_
            refine w_gf dX9_swap_47 rfl hJ34.1.1 zs_386 (zr_386_50 hJ34.1) ?_
            refine w_lo dX9_swap_50 rfl rfl rfl rfl ?_
            refine w_lo dX9_swap_51 rfl rfl rfl rfl ?_
            refine w_gf dX9_swap_52 rfl hJ34.1.1 zs_386 (zr_386_50 hJ34.1) ?_
            refine w_lo dX9_swap_55 rfl rfl rfl rfl ?_
            refine w_iai dX9_swap_56 hJ34.1 zs_419 (by omega) (by omega) zu_419 ?_
            intro x42 f39 h40 h41
            refine w_isi dX9_swap_57 hJ34 zs_419 (by omega) (by omega) zu_419 (by omega) (by omega) (zIR_s (zIR_a (by omega) (by omega))) ?_
            intro M43 hJ44 f45 hn46
            refine w_lo dX9_swap_58 rfl rfl rfl rfl ?_
            refine w_gf dX9_swap_59 rfl hJ44.1.1 zs_386 (zr_386_50 hJ44.1) ?_
            refine w_lo dX9_swap_62 rfl rfl rfl rfl ?_
            refine w_lo dX9_swap_63 rfl rfl rfl rfl ?_
            refine w_isi dX9_swap_64 hJ44 zs_419 (by omega) (by omega) zu_419 (by omega) (by omega) (zIR_s (zIR_a (by omega) (by omega))) ?_
            intro M47 hJ48 f49 hn50
            refine w_ic dX9_swap_65 zi_1 ?_
            refine w_en dX9_swap_66 rfl ?_
            exact ⟨_, _, rfl, (by have := zt_1; omega), (by have := zt_1; omega), hJ48, trivial⟩
          · skip
            refine w_cne_f dX9_swap_18 (t := 35) rfl (by omega) ?_
            refine w_lo dX9_swap_21 rfl rfl rfl rfl ?_
            refine w_ic dX9_swap_22 zi_3 ?_
            refine w_iv dX9_swap_23 rfl rfl (As := [.int 3]) rfl rfl hJ0.1.1 zs_386 (Nat.le_of_ble_eq_true rfl) ?_
            refine ZV.imp (k_2306 3 (by have := zt_3; omega) (by have := zt_3; omega) hN hJ0.1) ?_
            rintro _ ⟨x54, M51, rfl, h55, h56, hJ52, hq53⟩
            have hJ57 := zJ_trans hJ0 hJ52 (zSub_cons (fun _ _ h h' hk => zIR_a (by omega) (by omega)) zSub_nil)
            show ZW _ _ _ _ _ _ _ (26, [some (.ref 386), some (.int a0), some (.int a1), none], [.int x54], M51)
            refine w_ilt_t dX9_swap_26 (t := 33) rfl (by omega) ?_
            refine w_ic dX9_swap_33 zi_0 ?_
            refine w_en dX9_swap_34 rfl ?_
            exact ⟨_, _, rfl, (by have := zt_0; omega), (by have := zt_0; omega), hJ57, trivial⟩
        · skip
          refine w_cge_t dX9_isBoy_14 (t := 21) rfl (by omega) ?_
          refine w_ic dX9_isBoy_21 zi_0 ?_
          refine w_en dX9_isBoy_22 rfl ?_
          show ZW _ _ _ _ _ _ _ (13, [some (.ref 386), some (.int a0), some (.int a1), none], [.int 0], M0)
          refine w_ieq_t dX9_swap_13 (t := 21) rfl (by have := zt_0; omega) ?_
          refine w_lo dX9_swap_21 rfl rfl rfl rfl ?_
          refine w_ic dX9_swap_22 zi_3 ?_
          refine w_iv dX9_swap_23 rfl rfl (As := [.int 3]) rfl rfl hJ0.1.1 zs_386 (Nat.le_of_ble_eq_true rfl) ?_
          refine ZV.imp (k_2306 3 (by have := zt_3; omega) (by have := zt_3; omega) hN hJ0.1) ?_
          rintro _ ⟨x61, M58, rfl, h62, h63, hJ59, hq60⟩
          have hJ64 := zJ_trans hJ0 hJ59 (zSub_cons (fun _ _ h h' hk => zIR_a (by omega) (by omega)) zSub_nil)
          show ZW _ _ _ _ _ _ _ (26, [some (.ref 386), some (.int a0), some (.int a1), none], [.int x61], M58)
          refine w_ilt_t dX9_swap_26 (t := 33) rfl (by omega) ?_
          refine w_ic dX9_swap_33 zi_0 ?_
          refine w_en dX9_swap_34 rfl ?_
          exact ⟨_, _, rfl, (by have := zt_0; omega), (by have := zt_0; omega), hJ64, trivial⟩
    · skip
      refine w_cge_t dX9_isBoy_14 (t := 21) rfl (by omega) ?_
      refine w_ic dX9_isBoy_21 zi_0 ?_
      refine w_en dX9_isBoy_22 rfl ?_
      show ZW _ _ _ _ _ _ _ (5, [some (.ref 386), some (.int a0), some (.int a1), none], [.int 0], M0)
      refine w_ieq_t dX9_swap_5 (t := 21) rfl (by have := zt_0; omega) ?_
      refine w_lo dX9_swap_21 rfl rfl rfl rfl ?_
      refine w_ic dX9_swap_22 zi_3 ?_
      refine w_iv dX9_swap_23 rfl rfl (As := [.int 3]) rfl rfl hJ0.1.1 zs_386 (Nat.le_of_ble_eq_true rfl) ?_
      refine ZV.imp (k_2306 3 (by have := zt_3; omega) (by have := zt_3; omega) hN hJ0.1) ?_
      rintro _ ⟨x68, M65, rfl, h69, h70, hJ66, hq67⟩
      have hJ71 := zJ_trans hJ0 hJ66 (zSub_cons (fun _ _ h h' hk => zIR_a (by omega) (by omega)) zSub_nil)
      show ZW _ _ _ _ _ _ _ (26, [some (.ref 386), some (.int a0), some (.int a1), none], [.int x68], M65)
      refine w_ilt_t dX9_swap_26 (t := 33) rfl (by omega) ?_
      refine w_ic dX9_swap_33 zi_0 ?_
      refine w_en dX9_swap_34 rfl ?_
      exact ⟨_, _, rfl, (by have := zt_0; omega), (by have := zt_0; omega), hJ71, trivial⟩
set_option maxRecDepth 100000 in
theorem k_2396 {X : List Int32} {d N : Nat} {M0 : zM} (a0 : Int32) (hN : N ≤ 600) (hB0 : zB N M0) : ZV X (d + 2) 2396 [.ref 386, .int a0] M0 (zRI N [(415, 416, 1000), (386, 387, 66)] M0 (0) (1) (fun _ _ => True)) := by
  have hJ0 : zJ N [(415, 416, 1000), (386, 387, 66)] M0 M0 := zJ_refl hB0
  refine ZV.of (ini := false) rfl (Nat.le_of_ble_eq_true rfl) (by decide +kernel) ?_
  show ZW _ _ _ _ _ _ _ (0, [some (.ref 386), some (.int a0)], [], M0)
  refine w_lo dX9_seed_0 rfl rfl rfl rfl ?_
  rcases zcut a0.toInt (0 : Int) with h1 | h1
  · skip
    refine w_ige_f dX9_seed_1 (t := 18) rfl (by omega) ?_
    refine w_lo dX9_seed_4 rfl rfl rfl rfl ?_
    refine w_ic dX9_seed_5 zi_5 ?_
    refine w_iv dX9_seed_6 rfl rfl (As := [.int 5]) rfl rfl hJ0.1.1 zs_386 (Nat.le_of_ble_eq_true rfl) ?_
    refine ZV.imp (k_2306 5 (by have := zt_5; omega) (by have := zt_5; omega) hN hJ0.1) ?_
    rintro _ ⟨x5, M2, rfl, h6, h7, hJ3, hq4⟩
    have hJ8 := zJ_trans hJ0 hJ3 (zSub_cons (fun _ _ h h' hk => zIR_a (by omega) (by omega)) zSub_nil)
    show ZW _ _ _ _ _ _ _ (9, [some (.ref 386), some (.int a0)], [.int x5], M2)
    refine w_ilt_t dX9_seed_9 (t := 16) rfl (by omega) ?_
    refine w_ic dX9_seed_16 zi_0 ?_
    refine w_en dX9_seed_17 rfl ?_
    exact ⟨_, _, rfl, (by have := zt_0; omega), (by have := zt_0; omega), hJ8, trivial⟩
  · skip
    refine w_ige_t dX9_seed_1 (t := 18) rfl (by omega) ?_
    refine w_lo dX9_seed_18 rfl rfl rfl rfl ?_
    refine w_lo dX9_seed_19 rfl rfl rfl rfl ?_
    refine w_i2l dX9_seed_20 ?_
    intro y9 h10
    have := ztop a0; have := zbot a0
    refine w_pfl dX9_seed_21 rfl hJ0 zs_386 (Nat.le_of_ble_eq_true rfl) zo_386_66 (by omega) (by omega) (zIR_s (zIR_k (by omega) (by omega))) rfl rfl rfl ?_
    intro M11 hJ12 f13 hn14
    refine w_ic dX9_seed_24 zi_1 ?_
    refine w_en dX9_seed_25 rfl ?_
    exact ⟨_, _, rfl, (by have := zt_1; omega), (by have := zt_1; omega), hJ12, trivial⟩
set_option maxRecDepth 100000 in
theorem k_2404 {X : List Int32} {d N : Nat} {M0 : zM} (a0 : Int32) (ha00 : (0 : Int) ≤ a0.toInt) (ha01 : a0.toInt ≤ 11) (a1 : Int32) (ha10 : (0 : Int) ≤ a1.toInt) (ha11 : a1.toInt ≤ 11) (hN : N ≤ 600) (hB0 : zB N M0) : ZV X (d + 1) 2404 [.ref 386, .int a0, .int a1] M0 (zRV N [(434, 435, 1000)] M0 (fun _ => True)) := by
  have hJ0 : zJ N [(434, 435, 1000)] M0 M0 := zJ_refl hB0
  refine ZV.of (ini := false) rfl (Nat.le_of_ble_eq_true rfl) (by decide +kernel) ?_
  show ZW _ _ _ _ _ _ _ (0, [some (.ref 386), some (.int a0), some (.int a1), none], [], M0)
  refine w_lo dX9_changes_0 rfl rfl rfl rfl ?_
  refine w_gf dX9_changes_1 rfl hJ0.1.1 zs_386 (zr_386_69 hJ0.1) ?_
  refine w_lo dX9_changes_4 rfl rfl rfl rfl ?_
  refine w_iai dX9_changes_5 hJ0.1 zs_434 (by omega) (by omega) zu_434 ?_
  intro x4 f1 h2 h3
  refine w_lo (ml' := [some (.ref 386), some (.int a0), some (.int a1), some (.int x4)]) dX9_changes_6 rfl rfl rfl rfl ?_
  refine w_lo dX9_changes_7 rfl rfl rfl rfl ?_
  refine w_gf dX9_changes_8 rfl hJ0.1.1 zs_386 (zr_386_69 hJ0.1) ?_
  refine w_lo dX9_changes_11 rfl rfl rfl rfl ?_
  refine w_lo dX9_changes_12 rfl rfl rfl rfl ?_
  refine w_gf dX9_changes_13 rfl hJ0.1.1 zs_386 (zr_386_69 hJ0.1) ?_
  refine w_lo dX9_changes_16 rfl rfl rfl rfl ?_
  refine w_iai dX9_changes_17 hJ0.1 zs_434 (by omega) (by omega) zu_434 ?_
  intro x8 f5 h6 h7
  refine w_isi dX9_changes_18 hJ0 zs_434 (by omega) (by omega) zu_434 (by omega) (by omega) (zIR_a (by omega) (by omega)) ?_
  intro M9 hJ10 f11 hn12
  refine w_lo dX9_changes_19 rfl rfl rfl rfl ?_
  refine w_gf dX9_changes_20 rfl hJ10.1.1 zs_386 (zr_386_69 hJ10.1) ?_
  refine w_lo dX9_changes_23 rfl rfl rfl rfl ?_
  refine w_lo dX9_changes_24 rfl rfl rfl rfl ?_
  refine w_isi dX9_changes_25 hJ10 zs_434 (by omega) (by omega) zu_434 (by omega) (by omega) (zIR_a (by omega) (by omega)) ?_
  intro M13 hJ14 f15 hn16
  refine w_en dX9_changes_26 rfl ?_
  exact ⟨_, rfl, hJ14, trivial⟩
set_option maxRecDepth 100000 in
theorem k_2410 {X : List Int32} {d N : Nat} {M0 : zM}  (hN : N ≤ 600) (hB0 : zB N M0) : ZV X (d + 2) 2410 [.ref 386] M0 (zRI N [(386, 387, 1), (415, 416, 1000), (433, 434, 1000), (386, 387, 68)] M0 (0) (1) (fun v M' => (∃ w : Int32, zvl M' (386) 1 = some (.int w) ∧ (w.toInt = 0) ∧ True))) := by
  have hJ0 : zJ N [(386, 387, 1), (415, 416, 1000), (433, 434, 1000), (386, 387, 68)] M0 M0 := zJ_refl hB0
  refine ZV.of (ini := false) rfl (Nat.le_of_ble_eq_true rfl) (by decide +kernel) ?_
  have main : ∀ n : Nat,
      (∀ (M : zM) (u43_1 : Int32) (v43_2 : Int32) (t_43 : Int32), zJ N [(386, 387, 1), (415, 416, 1000), (433, 434, 1000), (386, 387, 68)] M0 M → ((0 : Int) ≤ v43_2.toInt) → (v43_2.toInt ≤ 12) → (zvl M (386) 1 = some (.int t_43)) → (t_43.toInt = 0) → 3 * (12 - v43_2.toInt) + 1 < (n : Int) → ZW X (d + 1) 9 false (some .boolean) cX9_hear (zRI N [(386, 387, 1), (415, 416, 1000), (433, 434, 1000), (386, 387, 68)] M0 (0) (1) (fun v M' => (∃ w : Int32, zvl M' (386) 1 = some (.int w) ∧ (w.toInt = 0) ∧ True))) (43, [some (.ref 386), some (.int u43_1), some (.int v43_2)], [], M)) := by
    intro n
    induction n with
    | zero =>
      exact (fun M u43_1 v43_2 t_43 hJ v43_20 v43_21 hft_43 hrt_430 hn => absurd hn (by omega))
    | succ n ih =>
      have ih43 := ih
      · intro M u43_1 v43_2 t_43 hJ v43_20 v43_21 hft_43 hrt_430 hn
        refine w_lo dX9_hear_43 rfl rfl rfl rfl ?_
        refine w_lo dX9_hear_44 rfl rfl rfl rfl ?_
        refine w_iv dX9_hear_45 rfl rfl (As := []) rfl rfl hJ.1.1 zs_386 (Nat.le_of_ble_eq_true rfl) ?_
        refine ZV.of (ini := false) rfl (Nat.le_of_ble_eq_true rfl) (by decide +kernel) ?_
        show ZW _ _ _ _ _ _ _ (0, [some (.ref 386)], [], M)
        refine w_lo dX9_many_0 rfl rfl rfl rfl ?_
        refine w_gf dX9_many_1 rfl hJ.1.1 zs_386 (zr_386_13 hJ.1) ?_
        refine w_lo dX9_many_4 rfl rfl rfl rfl ?_
        refine w_gfi dX9_many_5 rfl hJ.1 zs_386 (Nat.le_of_ble_eq_true rfl) zo_386_12 ?_
        intro x1 f2 h3 h4
        refine w_iai dX9_many_8 hJ.1 zs_388 (by omega) (by omega) zu_388 ?_
        intro x8 f5 h6 h7
        refine w_eni dX9_many_9 rfl rfl ?_
        show ZW _ _ _ _ _ _ _ (48, [some (.ref 386), some (.int u43_1), some (.int v43_2)], [.int x8, .int v43_2], M)
        rcases zcut v43_2.toInt x8.toInt with h9 | h9
        · skip
          refine w_cge_f dX9_hear_48 (t := 85) rfl (by omega) ?_
          refine w_lo dX9_hear_51 rfl rfl rfl rfl ?_
          refine w_gf dX9_hear_52 rfl hJ.1.1 zs_386 (zr_386_67 hJ.1) ?_
          refine w_lo dX9_hear_55 rfl rfl rfl rfl ?_
          refine w_lo dX9_hear_56 rfl rfl rfl rfl ?_
          refine w_gf dX9_hear_57 rfl hJ.1.1 zs_386 (zr_386_0 hJ.1) ?_
          refine w_ic dX9_hear_60 zi_2 ?_
          refine w_lo dX9_hear_61 rfl rfl rfl rfl ?_
          refine w_mulc dX9_hear_62 zt_2 (by have := zt_2; omega) ?_
          intro x10 h11
          have := zt_2
          refine w_iai dX9_hear_63 hJ.1 zs_387 (by omega) (by omega) zu_387 ?_
          intro x15 f12 h13 h14
          refine w_bi dX9_hear_64 (c := 8) (by decide) ?_
          refine w_puI dX9_hear_66 rfl rfl ?_
          intro x16
          refine w_lo dX9_hear_67 rfl rfl rfl rfl ?_
          refine w_gf dX9_hear_68 rfl hJ.1.1 zs_386 (zr_386_0 hJ.1) ?_
          refine w_ic dX9_hear_71 zi_2 ?_
          refine w_lo dX9_hear_72 rfl rfl rfl rfl ?_
          refine w_mulc dX9_hear_73 zt_2 (by have := zt_2; omega) ?_
          intro x17 h18
          have := zt_2
          refine w_ic dX9_hear_74 zi_1 ?_
          refine w_add dX9_hear_75 (by have := zt_1; omega) ?_
          intro x19 h20
          have := zt_1
          refine w_iai dX9_hear_76 hJ.1 zs_387 (by omega) (by omega) zu_387 ?_
          intro x24 f21 h22 h23
          refine w_puI dX9_hear_77 rfl rfl ?_
          intro x25
          refine w_isi dX9_hear_78 hJ zs_433 (by omega) (by omega) zu_433 (zbot _) (ztop _) (zIR_s (zIR_s (zIR_a (by omega) (by omega)))) ?_
          intro M26 hJ27 f28 hn29
          refine w_inc (kk := 2) dX9_hear_79 rfl (m := 1) (by decide) (by omega) ?_
          intro x30 h31
          refine ⟨_, rfl, ?_⟩
          show ZW _ _ _ _ _ _ _ (82, [some (.ref 386), some (.int u43_1), some (.int x30)], [], M26)
          refine w_gt dX9_hear_82 (t := 43) rfl ?_
          have f32 := (hn29 (386) 1 (Or.inl (by omega))).trans (hft_43)
          exact ih43 M26 u43_1 x30 t_43 hJ27 (by omega) (by omega) f32 (by omega) (by omega)
        · skip
          refine w_cge_t dX9_hear_48 (t := 85) rfl (by omega) ?_
          refine w_lo dX9_hear_85 rfl rfl rfl rfl ?_
          refine w_ic dX9_hear_86 zi_1 ?_
          refine w_pfi dX9_hear_87 rfl hJ zs_386 (Nat.le_of_ble_eq_true rfl) zo_386_68 (by have := zt_1; omega) (by have := zt_1; omega) (zIR_s (zIR_s (zIR_s (zIR_k (by omega) (by omega))))) rfl rfl rfl ?_
          intro M33 hJ34 f35 hn36
          refine w_ic dX9_hear_90 zi_1 ?_
          refine w_en dX9_hear_91 rfl ?_
          have f37 := (hn36 (386) 1 (Or.inr (by decide))).trans (hft_43)
          exact ⟨_, _, rfl, (by have := zt_1; omega), (by have := zt_1; omega), hJ34, ⟨t_43, f37, (by have := zt_1; omega), trivial⟩⟩
  have ih43 := main 48
  show ZW _ _ _ _ _ _ _ (0, [some (.ref 386), none, none], [], M0)
  refine w_lo dX9_hear_0 rfl rfl rfl rfl ?_
  refine w_gfi dX9_hear_1 rfl hJ0.1 zs_386 (Nat.le_of_ble_eq_true rfl) zo_386_1 ?_
  intro x38 f39 h40 h41
  refine w_lo (ml' := [some (.ref 386), some (.int x38), none]) dX9_hear_4 rfl rfl rfl rfl ?_
  refine w_lo dX9_hear_5 rfl rfl rfl rfl ?_
  refine w_ic dX9_hear_6 zi_0 ?_
  refine w_pfi dX9_hear_7 rfl hJ0 zs_386 (Nat.le_of_ble_eq_true rfl) zo_386_1 (by have := zt_0; omega) (by have := zt_0; omega) (zIR_k (by omega) (by omega)) rfl rfl rfl ?_
  intro M42 hJ43 f44 hn45
  refine w_lo dX9_hear_10 rfl rfl rfl rfl ?_
  refine w_iv dX9_hear_11 rfl rfl (As := []) rfl rfl hJ43.1.1 zs_386 (Nat.le_of_ble_eq_true rfl) ?_
  refine ZV.of (ini := false) rfl (Nat.le_of_ble_eq_true rfl) (by decide +kernel) ?_
  show ZW _ _ _ _ _ _ _ (0, [some (.ref 386)], [], M42)
  refine w_lo dX9_many_0 rfl rfl rfl rfl ?_
  refine w_gf dX9_many_1 rfl hJ43.1.1 zs_386 (zr_386_13 hJ43.1) ?_
  refine w_lo dX9_many_4 rfl rfl rfl rfl ?_
  refine w_gfi dX9_many_5 rfl hJ43.1 zs_386 (Nat.le_of_ble_eq_true rfl) zo_386_12 ?_
  intro x46 f47 h48 h49
  refine w_iai dX9_many_8 hJ43.1 zs_388 (by omega) (by omega) zu_388 ?_
  intro x53 f50 h51 h52
  refine w_eni dX9_many_9 rfl rfl ?_
  show ZW _ _ _ _ _ _ _ (14, [some (.ref 386), some (.int x38), none], [.int x53], M42)
  rcases Int.decEq x53.toInt (0 : Int) with h54 | h54
  · skip
    refine w_ieq_f dX9_hear_14 (t := 27) rfl (by omega) ?_
    refine w_lo dX9_hear_17 rfl rfl rfl rfl ?_
    refine w_ic dX9_hear_18 zi_2 ?_
    refine w_lo dX9_hear_19 rfl rfl rfl rfl ?_
    refine w_iv dX9_hear_20 rfl rfl (As := []) rfl rfl hJ43.1.1 zs_386 (Nat.le_of_ble_eq_true rfl) ?_
    refine ZV.of (ini := false) rfl (Nat.le_of_ble_eq_true rfl) (by decide +kernel) ?_
    show ZW _ _ _ _ _ _ _ (0, [some (.ref 386)], [], M42)
    refine w_lo dX9_many_0 rfl rfl rfl rfl ?_
    refine w_gf dX9_many_1 rfl hJ43.1.1 zs_386 (zr_386_13 hJ43.1) ?_
    refine w_lo dX9_many_4 rfl rfl rfl rfl ?_
    refine w_gf dX9_many_5 rfl hJ43.1.1 zs_386 f47 ?_
    refine w_ia dX9_many_8 hJ43.1.1 zs_388 (znat (by omega)) f50 ?_
    refine w_eni dX9_many_9 rfl rfl ?_
    show ZW _ _ _ _ _ _ _ (23, [some (.ref 386), some (.int x38), none], [.int x53, .int 2, .int x38], M42)
    refine w_mulc dX9_hear_23 zt_2 (by have := zt_2; omega) ?_
    intro x58 h59
    have := zt_2
    rcases Int.decEq x38.toInt x58.toInt with h60 | h60
    · skip
      refine w_ceq_f dX9_hear_24 (t := 41) rfl (by omega) ?_
      refine w_lo dX9_hear_27 rfl rfl rfl rfl ?_
      refine w_ic dX9_hear_28 zi_1 ?_
      refine w_iv dX9_hear_29 rfl rfl (As := [.int 1]) rfl rfl hJ43.1.1 zs_386 (Nat.le_of_ble_eq_true rfl) ?_
      refine ZV.imp (k_2306 1 (by have := zt_1; omega) (by have := zt_1; omega) hN hJ43.1) ?_
      rintro _ ⟨x64, M61, rfl, h65, h66, hJ62, hq63⟩
      have hJ67 := zJ_trans hJ43 hJ62 (zSub_cons (fun _ _ h h' hk => zIR_s (zIR_a (by omega) (by omega))) zSub_nil)
      show ZW _ _ _ _ _ _ _ (32, [some (.ref 386), some (.int x38), none], [.int x64], M61)
      refine w_ilt_t dX9_hear_32 (t := 39) rfl (by omega) ?_
      refine w_ic dX9_hear_39 zi_0 ?_
      refine w_en dX9_hear_40 rfl ?_
      have f68 := (hJ62.2 (386) 1 (zNI (by omega) zNI_nil)).trans (f44)
      exact ⟨_, _, rfl, (by have := zt_0; omega), (by have := zt_0; omega), hJ67, ⟨0, f68, (by have := zt_0; have := zt_0; omega), trivial⟩⟩
    · skip
      refine w_ceq_t dX9_hear_24 (t := 41) rfl (by omega) ?_
      refine w_ic dX9_hear_41 zi_0 ?_
      refine w_lo (ml' := [some (.ref 386), some (.int x38), some (.int 0)]) dX9_hear_42 rfl rfl rfl rfl ?_
      exact ih43 M42 x38 0 0 hJ43 (by have := zt_0; omega) (by have := zt_0; omega) f44 (by have := zt_0; omega) (by have := zt_0; omega)
  · skip
    refine w_ieq_t dX9_hear_14 (t := 27) rfl (by omega) ?_
    refine w_lo dX9_hear_27 rfl rfl rfl rfl ?_
    refine w_ic dX9_hear_28 zi_1 ?_
    refine w_iv dX9_hear_29 rfl rfl (As := [.int 1]) rfl rfl hJ43.1.1 zs_386 (Nat.le_of_ble_eq_true rfl) ?_
    refine ZV.imp (k_2306 1 (by have := zt_1; omega) (by have := zt_1; omega) hN hJ43.1) ?_
    rintro _ ⟨x72, M69, rfl, h73, h74, hJ70, hq71⟩
    have hJ75 := zJ_trans hJ43 hJ70 (zSub_cons (fun _ _ h h' hk => zIR_s (zIR_a (by omega) (by omega))) zSub_nil)
    show ZW _ _ _ _ _ _ _ (32, [some (.ref 386), some (.int x38), none], [.int x72], M69)
    refine w_ilt_t dX9_hear_32 (t := 39) rfl (by omega) ?_
    refine w_ic dX9_hear_39 zi_0 ?_
    refine w_en dX9_hear_40 rfl ?_
    have f76 := (hJ70.2 (386) 1 (zNI (by omega) zNI_nil)).trans (f44)
    exact ⟨_, _, rfl, (by have := zt_0; omega), (by have := zt_0; omega), hJ75, ⟨0, f76, (by have := zt_0; have := zt_0; omega), trivial⟩⟩
set_option maxRecDepth 100000 in
theorem k_2416 {X : List Int32} {d N : Nat} {M0 : zM} (a0 : Int32) (ha00 : (0 : Int) ≤ a0.toInt) (ha01 : a0.toInt ≤ 11) (hN : N ≤ 600) (hB0 : zB N M0) : ZV X (d + 2) 2416 [.ref 386, .int a0] M0 (zRI N [] M0 (-1) (10) (fun _ _ => True)) := by
  have hJ0 : zJ N [] M0 M0 := zJ_refl hB0
  refine ZV.of (ini := false) rfl (Nat.le_of_ble_eq_true rfl) (by decide +kernel) ?_
  have main : ∀ n : Nat,
      (∀ (M : zM) (u2_1 : Int32) (v2_2 : Int32), zJ N [] M0 M → ((0 : Int) ≤ v2_2.toInt) → (v2_2.toInt ≤ 11) → 3 * (11 - v2_2.toInt) + 1 < (n : Int) → ZW X (d + 1) 9 false (some .int) cX9_nextTied (zRI N [] M0 (-1) (10) (fun _ _ => True)) (2, [some (.ref 386), some (.int u2_1), some (.int v2_2)], [], M)) := by
    intro n
    induction n with
    | zero =>
      exact (fun M u2_1 v2_2 hJ v2_20 v2_21 hn => absurd hn (by omega))
    | succ n ih =>
      have ih2 := ih
      · intro M u2_1 v2_2 hJ v2_20 v2_21 hn
        refine w_lo dX9_nextTied_2 rfl rfl rfl rfl ?_
        refine w_lo dX9_nextTied_3 rfl rfl rfl rfl ?_
        refine w_iv dX9_nextTied_4 rfl rfl (As := []) rfl rfl hJ.1.1 zs_386 (Nat.le_of_ble_eq_true rfl) ?_
        refine ZV.of (ini := false) rfl (Nat.le_of_ble_eq_true rfl) (by decide +kernel) ?_
        show ZW _ _ _ _ _ _ _ (0, [some (.ref 386)], [], M)
        refine w_lo dX9_many_0 rfl rfl rfl rfl ?_
        refine w_gf dX9_many_1 rfl hJ.1.1 zs_386 (zr_386_13 hJ.1) ?_
        refine w_lo dX9_many_4 rfl rfl rfl rfl ?_
        refine w_gfi dX9_many_5 rfl hJ.1 zs_386 (Nat.le_of_ble_eq_true rfl) zo_386_12 ?_
        intro x1 f2 h3 h4
        refine w_iai dX9_many_8 hJ.1 zs_388 (by omega) (by omega) zu_388 ?_
        intro x8 f5 h6 h7
        refine w_eni dX9_many_9 rfl rfl ?_
        show ZW _ _ _ _ _ _ _ (7, [some (.ref 386), some (.int u2_1), some (.int v2_2)], [.int x8, .int v2_2], M)
        refine w_ic dX9_nextTied_7 zi_1 ?_
        refine w_sub dX9_nextTied_8 (by have := zt_1; omega) ?_
        intro x9 h10
        have := zt_1
        rcases zcut v2_2.toInt x9.toInt with h11 | h11
        · skip
          refine w_cge_f dX9_nextTied_9 (t := 27) rfl (by omega) ?_
          refine w_lo dX9_nextTied_12 rfl rfl rfl rfl ?_
          refine w_gf dX9_nextTied_13 rfl hJ.1.1 zs_386 (zr_386_60 hJ.1) ?_
          refine w_lo dX9_nextTied_16 rfl rfl rfl rfl ?_
          refine w_iai dX9_nextTied_17 hJ.1 zs_429 (by omega) (by omega) zu_429 ?_
          intro x15 f12 h13 h14
          rcases Int.decEq x15.toInt (0 : Int) with h16 | h16
          · skip
            refine w_ine_t dX9_nextTied_18 (t := 27) rfl (by omega) ?_
            refine w_lo dX9_nextTied_27 rfl rfl rfl rfl ?_
            refine w_lo dX9_nextTied_28 rfl rfl rfl rfl ?_
            refine w_iv dX9_nextTied_29 rfl rfl (As := []) rfl rfl hJ.1.1 zs_386 (Nat.le_of_ble_eq_true rfl) ?_
            refine ZV.of (ini := false) rfl (Nat.le_of_ble_eq_true rfl) (by decide +kernel) ?_
            show ZW _ _ _ _ _ _ _ (0, [some (.ref 386)], [], M)
            refine w_lo dX9_many_0 rfl rfl rfl rfl ?_
            refine w_gf dX9_many_1 rfl hJ.1.1 zs_386 (zr_386_13 hJ.1) ?_
            refine w_lo dX9_many_4 rfl rfl rfl rfl ?_
            refine w_gf dX9_many_5 rfl hJ.1.1 zs_386 f2 ?_
            refine w_ia dX9_many_8 hJ.1.1 zs_388 (znat (by omega)) f5 ?_
            refine w_eni dX9_many_9 rfl rfl ?_
            show ZW _ _ _ _ _ _ _ (32, [some (.ref 386), some (.int u2_1), some (.int v2_2)], [.int x8, .int v2_2], M)
            refine w_ic dX9_nextTied_32 zi_1 ?_
            refine w_sub dX9_nextTied_33 (by have := zt_1; omega) ?_
            intro x20 h21
            have := zt_1
            rcases zcut v2_2.toInt x20.toInt with h22 | h22
            · skip
              refine w_cge_f dX9_nextTied_34 (t := 41) rfl (by omega) ?_
              refine w_lo dX9_nextTied_37 rfl rfl rfl rfl ?_
              refine w_gt dX9_nextTied_38 (t := 42) rfl ?_
              refine w_eni dX9_nextTied_42 rfl rfl ?_
              exact ⟨_, _, rfl, (by omega), (by omega), hJ, trivial⟩
            · skip
              refine w_cge_t dX9_nextTied_34 (t := 41) rfl (by omega) ?_
              refine w_ic dX9_nextTied_41 zi_m1 ?_
              refine w_en dX9_nextTied_42 rfl ?_
              exact ⟨_, _, rfl, (by have := zt_m1; omega), (by have := zt_m1; omega), hJ, trivial⟩
          · skip
            refine w_ine_f dX9_nextTied_18 (t := 27) rfl (by omega) ?_
            refine w_inc (kk := 2) dX9_nextTied_21 rfl (m := 1) (by decide) (by omega) ?_
            intro x23 h24
            refine ⟨_, rfl, ?_⟩
            show ZW _ _ _ _ _ _ _ (24, [some (.ref 386), some (.int u2_1), some (.int x23)], [], M)
            refine w_gt dX9_nextTied_24 (t := 2) rfl ?_
            exact ih2 M u2_1 x23 hJ (by omega) (by omega) (by omega)
        · skip
          refine w_cge_t dX9_nextTied_9 (t := 27) rfl (by omega) ?_
          refine w_lo dX9_nextTied_27 rfl rfl rfl rfl ?_
          refine w_lo dX9_nextTied_28 rfl rfl rfl rfl ?_
          refine w_iv dX9_nextTied_29 rfl rfl (As := []) rfl rfl hJ.1.1 zs_386 (Nat.le_of_ble_eq_true rfl) ?_
          refine ZV.of (ini := false) rfl (Nat.le_of_ble_eq_true rfl) (by decide +kernel) ?_
          show ZW _ _ _ _ _ _ _ (0, [some (.ref 386)], [], M)
          refine w_lo dX9_many_0 rfl rfl rfl rfl ?_
          refine w_gf dX9_many_1 rfl hJ.1.1 zs_386 (zr_386_13 hJ.1) ?_
          refine w_lo dX9_many_4 rfl rfl rfl rfl ?_
          refine w_gf dX9_many_5 rfl hJ.1.1 zs_386 f2 ?_
          refine w_ia dX9_many_8 hJ.1.1 zs_388 (znat (by omega)) f5 ?_
          refine w_eni dX9_many_9 rfl rfl ?_
          show ZW _ _ _ _ _ _ _ (32, [some (.ref 386), some (.int u2_1), some (.int v2_2)], [.int x8, .int v2_2], M)
          refine w_ic dX9_nextTied_32 zi_1 ?_
          refine w_sub dX9_nextTied_33 (by have := zt_1; omega) ?_
          intro x28 h29
          have := zt_1
          rcases zcut v2_2.toInt x28.toInt with h30 | h30
          · skip
            refine w_cge_f dX9_nextTied_34 (t := 41) rfl (by omega) ?_
            refine w_lo dX9_nextTied_37 rfl rfl rfl rfl ?_
            refine w_gt dX9_nextTied_38 (t := 42) rfl ?_
            refine w_eni dX9_nextTied_42 rfl rfl ?_
            exact ⟨_, _, rfl, (by omega), (by omega), hJ, trivial⟩
          · skip
            refine w_cge_t dX9_nextTied_34 (t := 41) rfl (by omega) ?_
            refine w_ic dX9_nextTied_41 zi_m1 ?_
            refine w_en dX9_nextTied_42 rfl ?_
            exact ⟨_, _, rfl, (by have := zt_m1; omega), (by have := zt_m1; omega), hJ, trivial⟩
  have ih2 := main 45
  show ZW _ _ _ _ _ _ _ (0, [some (.ref 386), some (.int a0), none], [], M0)
  refine w_lo dX9_nextTied_0 rfl rfl rfl rfl ?_
  refine w_lo (ml' := [some (.ref 386), some (.int a0), some (.int a0)]) dX9_nextTied_1 rfl rfl rfl rfl ?_
  exact ih2 M0 a0 a0 hJ0 (by omega) (by omega) (by omega)
set_option maxRecDepth 100000 in
theorem k_2415 {X : List Int32} {d N : Nat} {M0 : zM} (a0 : Int32) (ha00 : (0 : Int) ≤ a0.toInt) (ha01 : a0.toInt ≤ 4) (hN : N ≤ 600) (hB0 : zB N M0) : ZV X (d + 3) 2415 [.ref 386, .int a0] M0 (zRI N [(437, 438, 1000)] M0 (0) (1) (fun _ _ => True)) := by
  have hJ0 : zJ N [(437, 438, 1000)] M0 M0 := zJ_refl hB0
  refine ZV.of (ini := false) rfl (Nat.le_of_ble_eq_true rfl) (by decide +kernel) ?_
  have main : ∀ n : Nat,
      (∀ (M : zM) (v4_1 : Int32) (v4_2 : Int32) (v4_3 : Int32), zJ N [(437, 438, 1000)] M0 M → ((0 : Int) ≤ v4_1.toInt) → (v4_1.toInt ≤ 4) → ((0 : Int) ≤ v4_2.toInt) → (v4_2.toInt ≤ 11) → ((0 : Int) ≤ v4_3.toInt) → (v4_3.toInt ≤ 4) → 3 * (4 - v4_3.toInt) + 1 < (n : Int) → ZW X (d + 2) 9 false (some .boolean) cX9_firstCuts (zRI N [(437, 438, 1000)] M0 (0) (1) (fun _ _ => True)) (4, [some (.ref 386), some (.int v4_1), some (.int v4_2), some (.int v4_3)], [], M)) := by
    intro n
    induction n with
    | zero =>
      exact (fun M v4_1 v4_2 v4_3 hJ v4_10 v4_11 v4_20 v4_21 v4_30 v4_31 hn => absurd hn (by omega))
    | succ n ih =>
      have ih4 := ih
      · intro M v4_1 v4_2 v4_3 hJ v4_10 v4_11 v4_20 v4_21 v4_30 v4_31 hn
        refine w_lo dX9_firstCuts_4 rfl rfl rfl rfl ?_
        refine w_lo dX9_firstCuts_5 rfl rfl rfl rfl ?_
        rcases zcut v4_3.toInt v4_1.toInt with h1 | h1
        · skip
          refine w_cge_f dX9_firstCuts_6 (t := 47) rfl (by omega) ?_
          refine w_lo dX9_firstCuts_9 rfl rfl rfl rfl ?_
          refine w_gf dX9_firstCuts_10 rfl hJ.1.1 zs_386 (zr_386_78 hJ.1) ?_
          refine w_lo dX9_firstCuts_13 rfl rfl rfl rfl ?_
          refine w_lo dX9_firstCuts_14 rfl rfl rfl rfl ?_
          refine w_lo dX9_firstCuts_15 rfl rfl rfl rfl ?_
          refine w_iv dX9_firstCuts_16 rfl rfl (As := [.int v4_2]) rfl rfl hJ.1.1 zs_386 (Nat.le_of_ble_eq_true rfl) ?_
          refine ZV.imp (k_2416 v4_2 (by omega) (by omega) hN hJ.1) ?_
          rintro _ ⟨x5, M2, rfl, h6, h7, hJ3, hq4⟩
          have hJ8 := zJ_trans hJ hJ3 zSub_nil
          show ZW _ _ _ _ _ _ _ (19, [some (.ref 386), some (.int v4_1), some (.int v4_2), some (.int v4_3)], [.int x5, .int v4_3, .ref 437], M2)
          refine w_isi dX9_firstCuts_19 hJ8 zs_437 (by omega) (by omega) zu_437 (by omega) (by omega) (zIR_a (by omega) (by omega)) ?_
          intro M9 hJ10 f11 hn12
          refine w_lo dX9_firstCuts_20 rfl rfl rfl rfl ?_
          refine w_gf dX9_firstCuts_21 rfl hJ10.1.1 zs_386 (zr_386_78 hJ10.1) ?_
          refine w_lo dX9_firstCuts_24 rfl rfl rfl rfl ?_
          refine w_ia dX9_firstCuts_25 hJ10.1.1 zs_437 (znat (by omega)) f11 ?_
          refine w_ic dX9_firstCuts_26 zi_m1 ?_
          rcases Int.decEq x5.toInt (-1 : Int) with h16 | h16
          · skip
            refine w_cne_t dX9_firstCuts_27 (t := 32) rfl (by have := zt_m1; omega) ?_
            refine w_lo dX9_firstCuts_32 rfl rfl rfl rfl ?_
            refine w_gf dX9_firstCuts_33 rfl hJ10.1.1 zs_386 (zr_386_78 hJ10.1) ?_
            refine w_lo dX9_firstCuts_36 rfl rfl rfl rfl ?_
            refine w_ia dX9_firstCuts_37 hJ10.1.1 zs_437 (znat (by omega)) f11 ?_
            refine w_ic dX9_firstCuts_38 zi_1 ?_
            refine w_add dX9_firstCuts_39 (by have := zt_1; omega) ?_
            intro x20 h21
            have := zt_1
            refine w_lo (ml' := [some (.ref 386), some (.int v4_1), some (.int x20), some (.int v4_3)]) dX9_firstCuts_40 rfl rfl rfl rfl ?_
            refine w_inc (kk := 3) dX9_firstCuts_41 rfl (m := 1) (by decide) (by omega) ?_
            intro x22 h23
            refine ⟨_, rfl, ?_⟩
            show ZW _ _ _ _ _ _ _ (44, [some (.ref 386), some (.int v4_1), some (.int x20), some (.int x22)], [], M9)
            refine w_gt dX9_firstCuts_44 (t := 4) rfl ?_
            exact ih4 M9 v4_1 x20 x22 hJ10 (by omega) (by omega) (by omega) (by omega) (by omega) (by omega) (by omega)
          · skip
            refine w_cne_f dX9_firstCuts_27 (t := 32) rfl (by have := zt_m1; omega) ?_
            refine w_ic dX9_firstCuts_30 zi_0 ?_
            refine w_en dX9_firstCuts_31 rfl ?_
            exact ⟨_, _, rfl, (by have := zt_0; omega), (by have := zt_0; omega), hJ10, trivial⟩
        · skip
          refine w_cge_t dX9_firstCuts_6 (t := 47) rfl (by omega) ?_
          refine w_ic dX9_firstCuts_47 zi_1 ?_
          refine w_en dX9_firstCuts_48 rfl ?_
          exact ⟨_, _, rfl, (by have := zt_1; omega), (by have := zt_1; omega), hJ, trivial⟩
  have ih4 := main 24
  show ZW _ _ _ _ _ _ _ (0, [some (.ref 386), some (.int a0), none, none], [], M0)
  refine w_ic dX9_firstCuts_0 zi_0 ?_
  refine w_lo (ml' := [some (.ref 386), some (.int a0), some (.int 0), none]) dX9_firstCuts_1 rfl rfl rfl rfl ?_
  refine w_ic dX9_firstCuts_2 zi_0 ?_
  refine w_lo (ml' := [some (.ref 386), some (.int a0), some (.int 0), some (.int 0)]) dX9_firstCuts_3 rfl rfl rfl rfl ?_
  exact ih4 M0 a0 0 0 hJ0 (by omega) (by omega) (by have := zt_0; omega) (by have := zt_0; omega) (by have := zt_0; omega) (by have := zt_0; omega) (by have := zt_0; omega)
set_option maxRecDepth 100000 in
theorem k_2418 {X : List Int32} {d N : Nat} {M0 : zM} (a0 : Int32) (ha00 : (0 : Int) ≤ a0.toInt) (ha01 : a0.toInt ≤ 10) (a1 : Int32) (ha10 : (0 : Int) ≤ a1.toInt) (ha11 : a1.toInt ≤ 4) (hN : N ≤ 600) (hB0 : zB N M0) : ZV X (d + 1) 2418 [.ref 386, .int a0, .int a1] M0 (zRI N [] M0 (0) (1) (fun _ _ => True)) := by
  have hJ0 : zJ N [] M0 M0 := zJ_refl hB0
  refine ZV.of (ini := false) rfl (Nat.le_of_ble_eq_true rfl) (by decide +kernel) ?_
  have main : ∀ n : Nat,
      (∀ (M : zM) (v13_1 : Int32) (v13_2 : Int32) (v13_3 : Int32), zJ N [] M0 M → ((0 : Int) ≤ v13_1.toInt) → (v13_1.toInt ≤ 10) → ((0 : Int) ≤ v13_2.toInt) → (v13_2.toInt ≤ 4) → ((0 : Int) ≤ v13_3.toInt) → (v13_3.toInt ≤ 4) → 3 * (4 - v13_3.toInt) + 1 < (n : Int) → ZW X (d + 0) 9 false (some .boolean) cX9_isCut (zRI N [] M0 (0) (1) (fun _ _ => True)) (13, [some (.ref 386), some (.int v13_1), some (.int v13_2), some (.int v13_3)], [], M)) := by
    intro n
    induction n with
    | zero =>
      exact (fun M v13_1 v13_2 v13_3 hJ v13_10 v13_11 v13_20 v13_21 v13_30 v13_31 hn => absurd hn (by omega))
    | succ n ih =>
      have ih13 := ih
      · intro M v13_1 v13_2 v13_3 hJ v13_10 v13_11 v13_20 v13_21 v13_30 v13_31 hn
        refine w_lo dX9_isCut_13 rfl rfl rfl rfl ?_
        refine w_lo dX9_isCut_14 rfl rfl rfl rfl ?_
        rcases zcut v13_3.toInt v13_2.toInt with h1 | h1
        · skip
          refine w_cge_f dX9_isCut_15 (t := 36) rfl (by omega) ?_
          refine w_lo dX9_isCut_18 rfl rfl rfl rfl ?_
          refine w_gf dX9_isCut_19 rfl hJ.1.1 zs_386 (zr_386_78 hJ.1) ?_
          refine w_lo dX9_isCut_22 rfl rfl rfl rfl ?_
          refine w_iai dX9_isCut_23 hJ.1 zs_437 (by omega) (by omega) zu_437 ?_
          intro x5 f2 h3 h4
          refine w_lo dX9_isCut_24 rfl rfl rfl rfl ?_
          rcases Int.decEq x5.toInt v13_1.toInt with h6 | h6
          · skip
            refine w_cne_t dX9_isCut_25 (t := 30) rfl (by omega) ?_
            refine w_inc (kk := 3) dX9_isCut_30 rfl (m := 1) (by decide) (by omega) ?_
            intro x7 h8
            refine ⟨_, rfl, ?_⟩
            show ZW _ _ _ _ _ _ _ (33, [some (.ref 386), some (.int v13_1), some (.int v13_2), some (.int x7)], [], M)
            refine w_gt dX9_isCut_33 (t := 13) rfl ?_
            exact ih13 M v13_1 v13_2 x7 hJ (by omega) (by omega) (by omega) (by omega) (by omega) (by omega) (by omega)
          · skip
            refine w_cne_f dX9_isCut_25 (t := 30) rfl (by omega) ?_
            refine w_ic dX9_isCut_28 zi_1 ?_
            refine w_en dX9_isCut_29 rfl ?_
            exact ⟨_, _, rfl, (by have := zt_1; omega), (by have := zt_1; omega), hJ, trivial⟩
        · skip
          refine w_cge_t dX9_isCut_15 (t := 36) rfl (by omega) ?_
          refine w_ic dX9_isCut_36 zi_0 ?_
          refine w_en dX9_isCut_37 rfl ?_
          exact ⟨_, _, rfl, (by have := zt_0; omega), (by have := zt_0; omega), hJ, trivial⟩
  have ih13 := main 24
  show ZW _ _ _ _ _ _ _ (0, [some (.ref 386), some (.int a0), some (.int a1), none], [], M0)
  refine w_lo dX9_isCut_0 rfl rfl rfl rfl ?_
  refine w_gf dX9_isCut_1 rfl hJ0.1.1 zs_386 (zr_386_60 hJ0.1) ?_
  refine w_lo dX9_isCut_4 rfl rfl rfl rfl ?_
  refine w_iai dX9_isCut_5 hJ0.1 zs_429 (by omega) (by omega) zu_429 ?_
  intro x12 f9 h10 h11
  rcases Int.decEq x12.toInt (0 : Int) with h13 | h13
  · skip
    refine w_ine_t dX9_isCut_6 (t := 11) rfl (by omega) ?_
    refine w_ic dX9_isCut_11 zi_0 ?_
    refine w_lo (ml' := [some (.ref 386), some (.int a0), some (.int a1), some (.int 0)]) dX9_isCut_12 rfl rfl rfl rfl ?_
    exact ih13 M0 a0 a1 0 hJ0 (by omega) (by omega) (by omega) (by omega) (by have := zt_0; omega) (by have := zt_0; omega) (by have := zt_0; omega)
  · skip
    refine w_ine_f dX9_isCut_6 (t := 11) rfl (by omega) ?_
    refine w_ic dX9_isCut_9 zi_1 ?_
    refine w_en dX9_isCut_10 rfl ?_
    exact ⟨_, _, rfl, (by have := zt_1; omega), (by have := zt_1; omega), hJ0, trivial⟩
set_option maxRecDepth 100000 in
theorem k_2417 {X : List Int32} {d N : Nat} {M0 : zM} (a0 : Int32) (ha00 : (0 : Int) ≤ a0.toInt) (ha01 : a0.toInt ≤ 4) (hN : N ≤ 600) (hB0 : zB N M0) : ZV X (d + 2) 2417 [.ref 386, .int a0] M0 (zRI N [] M0 (0) (2147483647) (fun _ _ => True)) := by
  have hJ0 : zJ N [] M0 M0 := zJ_refl hB0
  refine ZV.of (ini := false) rfl (Nat.le_of_ble_eq_true rfl) (by decide +kernel) ?_
  have main : ∀ n : Nat,
      (∀ (M : zM) (v7_1 : Int32) (v7_2 : Int32) (v7_3 : Int32) (v7_4 : Int32), zJ N [] M0 M → ((0 : Int) ≤ v7_1.toInt) → (v7_1.toInt ≤ 4) → ((0 : Int) ≤ v7_2.toInt) → (v7_2.toInt ≤ 2147483647) → ((-2147483648 : Int) ≤ v7_3.toInt) → (v7_3.toInt ≤ 2147483647) → ((0 : Int) ≤ v7_4.toInt) → (v7_4.toInt ≤ 12) → 5 * (12 - v7_4.toInt) + 3 < (n : Int) → ZW X (d + 1) 9 false (some .int) cX9_heaviest (zRI N [] M0 (0) (2147483647) (fun _ _ => True)) (7, [some (.ref 386), some (.int v7_1), some (.int v7_2), some (.int v7_3), some (.int v7_4)], [], M)) ∧
      (∀ (M : zM) (v37_1 : Int32) (v37_2 : Int32) (v37_3 : Int32) (v37_4 : Int32), zJ N [] M0 M → ((0 : Int) ≤ v37_1.toInt) → (v37_1.toInt ≤ 4) → ((0 : Int) ≤ v37_2.toInt) → (v37_2.toInt ≤ 2147483647) → ((-2147483648 : Int) ≤ v37_3.toInt) → (v37_3.toInt ≤ 2147483647) → ((0 : Int) ≤ v37_4.toInt) → (v37_4.toInt ≤ 11) → 5 * (12 - v37_4.toInt) + 2 < (n : Int) → ZW X (d + 1) 9 false (some .int) cX9_heaviest (zRI N [] M0 (0) (2147483647) (fun _ _ => True)) (37, [some (.ref 386), some (.int v37_1), some (.int v37_2), some (.int v37_3), some (.int v37_4)], [], M)) ∧
      (∀ (M : zM) (v38_1 : Int32) (v38_2 : Int32) (u38_3 : Int32) (v38_4 : Int32) (s38_0 : Int32), zJ N [] M0 M → ((0 : Int) ≤ v38_1.toInt) → (v38_1.toInt ≤ 4) → ((0 : Int) ≤ v38_2.toInt) → (v38_2.toInt ≤ 2147483647) → ((0 : Int) ≤ v38_4.toInt) → (v38_4.toInt ≤ 11) → ((-2147483648 : Int) ≤ s38_0.toInt) → (s38_0.toInt ≤ 2147483647) → 5 * (12 - v38_4.toInt) + 1 < (n : Int) → ZW X (d + 1) 9 false (some .int) cX9_heaviest (zRI N [] M0 (0) (2147483647) (fun _ _ => True)) (38, [some (.ref 386), some (.int v38_1), some (.int v38_2), some (.int u38_3), some (.int v38_4)], [.int s38_0], M)) := by
    intro n
    induction n with
    | zero =>
      exact ⟨(fun M v7_1 v7_2 v7_3 v7_4 hJ v7_10 v7_11 v7_20 v7_21 v7_30 v7_31 v7_40 v7_41 hn => absurd hn (by omega)), (fun M v37_1 v37_2 v37_3 v37_4 hJ v37_10 v37_11 v37_20 v37_21 v37_30 v37_31 v37_40 v37_41 hn => absurd hn (by omega)), (fun M v38_1 v38_2 u38_3 v38_4 s38_0 hJ v38_10 v38_11 v38_20 v38_21 v38_40 v38_41 s38_00 s38_01 hn => absurd hn (by omega))⟩
    | succ n ih =>
      obtain ⟨ih7, ih37, ih38⟩ := ih
      refine ⟨?_, ?_, ?_⟩
      · intro M v7_1 v7_2 v7_3 v7_4 hJ v7_10 v7_11 v7_20 v7_21 v7_30 v7_31 v7_40 v7_41 hn
        refine w_lo dX9_heaviest_7 rfl rfl rfl rfl ?_
        refine w_lo dX9_heaviest_9 rfl rfl rfl rfl ?_
        refine w_iv dX9_heaviest_10 rfl rfl (As := []) rfl rfl hJ.1.1 zs_386 (Nat.le_of_ble_eq_true rfl) ?_
        refine ZV.of (ini := false) rfl (Nat.le_of_ble_eq_true rfl) (by decide +kernel) ?_
        show ZW _ _ _ _ _ _ _ (0, [some (.ref 386)], [], M)
        refine w_lo dX9_many_0 rfl rfl rfl rfl ?_
        refine w_gf dX9_many_1 rfl hJ.1.1 zs_386 (zr_386_13 hJ.1) ?_
        refine w_lo dX9_many_4 rfl rfl rfl rfl ?_
        refine w_gfi dX9_many_5 rfl hJ.1 zs_386 (Nat.le_of_ble_eq_true rfl) zo_386_12 ?_
        intro x1 f2 h3 h4
        refine w_iai dX9_many_8 hJ.1 zs_388 (by omega) (by omega) zu_388 ?_
        intro x8 f5 h6 h7
        refine w_eni dX9_many_9 rfl rfl ?_
        show ZW _ _ _ _ _ _ _ (13, [some (.ref 386), some (.int v7_1), some (.int v7_2), some (.int v7_3), some (.int v7_4)], [.int x8, .int v7_4], M)
        rcases zcut v7_4.toInt x8.toInt with h9 | h9
        · skip
          refine w_cge_f dX9_heaviest_13 (t := 79) rfl (by omega) ?_
          refine w_lo dX9_heaviest_16 rfl rfl rfl rfl ?_
          rcases zcut (0 : Int) v7_4.toInt with h10 | h10
          · skip
            refine w_ile_f dX9_heaviest_18 (t := 37) rfl (by omega) ?_
            refine w_lo dX9_heaviest_21 rfl rfl rfl rfl ?_
            refine w_lo dX9_heaviest_22 rfl rfl rfl rfl ?_
            refine w_ic dX9_heaviest_24 zi_1 ?_
            refine w_sub dX9_heaviest_25 (by have := zt_1; omega) ?_
            intro x11 h12
            have := zt_1
            refine w_lo dX9_heaviest_26 rfl rfl rfl rfl ?_
            refine w_iv dX9_heaviest_27 rfl rfl (As := [.int x11, .int v7_1]) rfl rfl hJ.1.1 zs_386 (Nat.le_of_ble_eq_true rfl) ?_
            refine ZV.imp (k_2418 x11 (by omega) (by omega) v7_1 (by omega) (by omega) hN hJ.1) ?_
            rintro _ ⟨x16, M13, rfl, h17, h18, hJ14, hq15⟩
            have hJ19 := zJ_trans hJ hJ14 zSub_nil
            show ZW _ _ _ _ _ _ _ (30, [some (.ref 386), some (.int v7_1), some (.int v7_2), some (.int v7_3), some (.int v7_4)], [.int x16], M13)
            rcases Int.decEq x16.toInt (0 : Int) with h20 | h20
            · skip
              refine w_ieq_f dX9_heaviest_30 (t := 37) rfl (by omega) ?_
              refine w_ic dX9_heaviest_33 zi_0 ?_
              refine w_gt dX9_heaviest_34 (t := 38) rfl ?_
              exact ih38 M13 v7_1 v7_2 v7_3 v7_4 0 hJ19 (by omega) (by omega) (by omega) (ztop _) (by omega) (by omega) (zbot _) (ztop _) (by have := zt_0; omega)
            · skip
              refine w_ieq_t dX9_heaviest_30 (t := 37) rfl (by omega) ?_
              exact ih37 M13 v7_1 v7_2 v7_3 v7_4 hJ19 (by omega) (by omega) (by omega) (ztop _) (zbot _) (ztop _) (by omega) (by omega) (by omega)
          · skip
            refine w_ile_t dX9_heaviest_18 (t := 37) rfl (by omega) ?_
            exact ih37 M v7_1 v7_2 v7_3 v7_4 hJ (by omega) (by omega) (by omega) (ztop _) (zbot _) (ztop _) (by omega) (by omega) (by omega)
        · skip
          refine w_cge_t dX9_heaviest_13 (t := 79) rfl (by omega) ?_
          refine w_lo dX9_heaviest_79 rfl rfl rfl rfl ?_
          refine w_eni dX9_heaviest_80 rfl rfl ?_
          exact ⟨_, _, rfl, (by omega), (ztop _), hJ, trivial⟩
      · intro M v37_1 v37_2 v37_3 v37_4 hJ v37_10 v37_11 v37_20 v37_21 v37_30 v37_31 v37_40 v37_41 hn
        refine w_lo dX9_heaviest_37 rfl rfl rfl rfl ?_
        exact ih38 M v37_1 v37_2 v37_3 v37_4 v37_3 hJ (by omega) (by omega) (by omega) (ztop _) (by omega) (by omega) (zbot _) (ztop _) (by omega)
      · intro M v38_1 v38_2 u38_3 v38_4 s38_0 hJ v38_10 v38_11 v38_20 v38_21 v38_40 v38_41 s38_00 s38_01 hn
        refine w_lo (ml' := [some (.ref 386), some (.int v38_1), some (.int v38_2), some (.int s38_0), some (.int v38_4)]) dX9_heaviest_38 rfl rfl rfl rfl ?_
        refine w_lo dX9_heaviest_39 rfl rfl rfl rfl ?_
        refine w_lo dX9_heaviest_40 rfl rfl rfl rfl ?_
        refine w_gf dX9_heaviest_41 rfl hJ.1.1 zs_386 (zr_386_15 hJ.1) ?_
        refine w_bi dX9_heaviest_44 (c := 12) (by decide) ?_
        refine w_lo dX9_heaviest_46 rfl rfl rfl rfl ?_
        refine w_gfi dX9_heaviest_47 rfl hJ.1 zs_386 (Nat.le_of_ble_eq_true rfl) zo_386_12 ?_
        intro x21 f22 h23 h24
        refine w_mulc dX9_heaviest_50 zt_12 (by have := zt_12; omega) ?_
        intro x25 h26
        have := zt_12
        refine w_lo dX9_heaviest_51 rfl rfl rfl rfl ?_
        refine w_gf dX9_heaviest_52 rfl hJ.1.1 zs_386 (zr_386_50 hJ.1) ?_
        refine w_lo dX9_heaviest_55 rfl rfl rfl rfl ?_
        refine w_iai dX9_heaviest_57 hJ.1 zs_419 (by omega) (by omega) zu_419 ?_
        intro x30 f27 h28 h29
        refine w_add dX9_heaviest_58 (by omega) ?_
        intro x31 h32
        refine w_iai dX9_heaviest_59 hJ.1 zs_390 (by omega) (by omega) zu_390 ?_
        intro x36 f33 h34 h35
        refine w_puI dX9_heaviest_60 rfl rfl ?_
        intro x37
        refine w_lo (ml' := [some (.ref 386), some (.int v38_1), some (.int v38_2), some (.int x37), some (.int v38_4)]) dX9_heaviest_61 rfl rfl rfl rfl ?_
        refine w_lo dX9_heaviest_62 rfl rfl rfl rfl ?_
        refine w_lo dX9_heaviest_63 rfl rfl rfl rfl ?_
        rcases zcut v38_2.toInt x37.toInt with h38 | h38
        · skip
          refine w_cle_f dX9_heaviest_64 (t := 71) rfl (by omega) ?_
          refine w_lo dX9_heaviest_67 rfl rfl rfl rfl ?_
          refine w_gt dX9_heaviest_68 (t := 72) rfl ?_
          refine w_lo (ml' := [some (.ref 386), some (.int v38_1), some (.int x37), some (.int x37), some (.int v38_4)]) dX9_heaviest_72 rfl rfl rfl rfl ?_
          refine w_inc (kk := 4) dX9_heaviest_73 rfl (m := 1) (by decide) (by omega) ?_
          intro x39 h40
          refine ⟨_, rfl, ?_⟩
          show ZW _ _ _ _ _ _ _ (76, [some (.ref 386), some (.int v38_1), some (.int x37), some (.int x37), some (.int x39)], [], M)
          refine w_gt dX9_heaviest_76 (t := 7) rfl ?_
          exact ih7 M v38_1 x37 x37 x39 hJ (by omega) (by omega) (by omega) (ztop _) (zbot _) (ztop _) (by omega) (by omega) (by omega)
        · skip
          refine w_cle_t dX9_heaviest_64 (t := 71) rfl (by omega) ?_
          refine w_lo dX9_heaviest_71 rfl rfl rfl rfl ?_
          refine w_lo (ml' := [some (.ref 386), some (.int v38_1), some (.int v38_2), some (.int x37), some (.int v38_4)]) dX9_heaviest_72 rfl rfl rfl rfl ?_
          refine w_inc (kk := 4) dX9_heaviest_73 rfl (m := 1) (by decide) (by omega) ?_
          intro x41 h42
          refine ⟨_, rfl, ?_⟩
          show ZW _ _ _ _ _ _ _ (76, [some (.ref 386), some (.int v38_1), some (.int v38_2), some (.int x37), some (.int x41)], [], M)
          refine w_gt dX9_heaviest_76 (t := 7) rfl ?_
          exact ih7 M v38_1 v38_2 x37 x41 hJ (by omega) (by omega) (by omega) (ztop _) (zbot _) (ztop _) (by omega) (by omega) (by omega)
  obtain ⟨ih7, ih37, ih38⟩ := main 78
  show ZW _ _ _ _ _ _ _ (0, [some (.ref 386), some (.int a0), none, none, none], [], M0)
  refine w_ic dX9_heaviest_0 zi_0 ?_
  refine w_lo (ml' := [some (.ref 386), some (.int a0), some (.int 0), none, none]) dX9_heaviest_1 rfl rfl rfl rfl ?_
  refine w_ic dX9_heaviest_2 zi_0 ?_
  refine w_lo (ml' := [some (.ref 386), some (.int a0), some (.int 0), some (.int 0), none]) dX9_heaviest_3 rfl rfl rfl rfl ?_
  refine w_ic dX9_heaviest_4 zi_0 ?_
  refine w_lo (ml' := [some (.ref 386), some (.int a0), some (.int 0), some (.int 0), some (.int 0)]) dX9_heaviest_5 rfl rfl rfl rfl ?_
  exact ih7 M0 a0 0 0 0 hJ0 (by omega) (by omega) (by have := zt_0; omega) (ztop _) (zbot _) (ztop _) (by have := zt_0; omega) (by have := zt_0; omega) (by have := zt_0; omega)
set_option maxRecDepth 100000 in
theorem k_2419 {X : List Int32} {d N : Nat} {M0 : zM} (a0 : Int32) (ha00 : (0 : Int) ≤ a0.toInt) (ha01 : a0.toInt ≤ 4) (hN : N ≤ 600) (hB0 : zB N M0) : ZV X (d + 3) 2419 [.ref 386, .int a0] M0 (zRI N [(437, 438, 1000)] M0 (0) (1) (fun _ _ => True)) := by
  have hJ0 : zJ N [(437, 438, 1000)] M0 M0 := zJ_refl hB0
  refine ZV.of (ini := false) rfl (Nat.le_of_ble_eq_true rfl) (by decide +kernel) ?_
  have main : ∀ n : Nat,
      (∀ (M : zM) (v4_1 : Int32) (v4_2 : Int32) (o4_3 : Option Value) (o4_4 : Option Value) (o4_5 : Option Value), zJ N [(437, 438, 1000)] M0 M → ((0 : Int) ≤ v4_1.toInt) → (v4_1.toInt ≤ 4) → ((-1 : Int) ≤ v4_2.toInt) → (v4_2.toInt ≤ 3) → 24 * (v4_2.toInt - (-1)) + 22 < (n : Int) → ZW X (d + 2) 9 false (some .boolean) cX9_nextCuts (zRI N [(437, 438, 1000)] M0 (0) (1) (fun _ _ => True)) (4, [some (.ref 386), some (.int v4_1), some (.int v4_2), o4_3, o4_4, o4_5], [], M)) ∧
      (∀ (M : zM) (v45_1 : Int32) (v45_2 : Int32) (u45_3 : Int32) (v45_4 : Int32) (v45_5 : Int32), zJ N [(437, 438, 1000)] M0 M → ((0 : Int) ≤ v45_1.toInt) → (v45_1.toInt ≤ 4) → ((0 : Int) ≤ v45_2.toInt) → (v45_2.toInt ≤ 3) → ((0 : Int) ≤ v45_4.toInt) → (v45_4.toInt ≤ 1) → ((1 : Int) ≤ v45_5.toInt) → (v45_5.toInt ≤ 4) → 24 * (v45_2.toInt - (-1)) + 4 * (4 - v45_5.toInt) + 1 < (n : Int) → ZW X (d + 2) 9 false (some .boolean) cX9_nextCuts (zRI N [(437, 438, 1000)] M0 (0) (1) (fun _ _ => True)) (45, [some (.ref 386), some (.int v45_1), some (.int v45_2), some (.int u45_3), some (.int v45_4), some (.int v45_5)], [], M)) := by
    intro n
    induction n with
    | zero =>
      exact ⟨(fun M v4_1 v4_2 o4_3 o4_4 o4_5 hJ v4_10 v4_11 v4_20 v4_21 hn => absurd hn (by omega)), (fun M v45_1 v45_2 u45_3 v45_4 v45_5 hJ v45_10 v45_11 v45_20 v45_21 v45_40 v45_41 v45_50 v45_51 hn => absurd hn (by omega))⟩
    | succ n ih =>
      obtain ⟨ih4, ih45⟩ := ih
      refine ⟨?_, ?_⟩
      · intro M v4_1 v4_2 o4_3 o4_4 o4_5 hJ v4_10 v4_11 v4_20 v4_21 hn
        refine w_lo dX9_nextCuts_4 rfl rfl rfl rfl ?_
        rcases zcut v4_2.toInt (0 : Int) with h1 | h1
        · skip
          refine w_ilt_t dX9_nextCuts_5 (t := 115) rfl (by omega) ?_
          refine w_ic dX9_nextCuts_115 zi_0 ?_
          refine w_en dX9_nextCuts_116 rfl ?_
          exact ⟨_, _, rfl, (by have := zt_0; omega), (by have := zt_0; omega), hJ, trivial⟩
        · skip
          refine w_ilt_f dX9_nextCuts_5 (t := 115) rfl (by omega) ?_
          refine w_lo dX9_nextCuts_8 rfl rfl rfl rfl ?_
          refine w_lo dX9_nextCuts_9 rfl rfl rfl rfl ?_
          refine w_gf dX9_nextCuts_10 rfl hJ.1.1 zs_386 (zr_386_78 hJ.1) ?_
          refine w_lo dX9_nextCuts_13 rfl rfl rfl rfl ?_
          refine w_iai dX9_nextCuts_14 hJ.1 zs_437 (by omega) (by omega) zu_437 ?_
          intro x5 f2 h3 h4
          refine w_ic dX9_nextCuts_15 zi_1 ?_
          refine w_add dX9_nextCuts_16 (by have := zt_1; omega) ?_
          intro x6 h7
          have := zt_1
          refine w_iv dX9_nextCuts_17 rfl rfl (As := [.int x6]) rfl rfl hJ.1.1 zs_386 (Nat.le_of_ble_eq_true rfl) ?_
          refine ZV.imp (k_2416 x6 (by omega) (by omega) hN hJ.1) ?_
          rintro _ ⟨x11, M8, rfl, h12, h13, hJ9, hq10⟩
          have hJ14 := zJ_trans hJ hJ9 zSub_nil
          show ZW _ _ _ _ _ _ _ (20, [some (.ref 386), some (.int v4_1), some (.int v4_2), o4_3, o4_4, o4_5], [.int x11], M8)
          refine w_lo (ml' := [some (.ref 386), some (.int v4_1), some (.int v4_2), some (.int x11), o4_4, o4_5]) dX9_nextCuts_20 rfl rfl rfl rfl ?_
          refine w_lo dX9_nextCuts_21 rfl rfl rfl rfl ?_
          refine w_ic dX9_nextCuts_22 zi_m1 ?_
          rcases Int.decEq x11.toInt (-1 : Int) with h15 | h15
          · skip
            refine w_ceq_f dX9_nextCuts_23 (t := 30) rfl (by have := zt_m1; omega) ?_
            refine w_ic dX9_nextCuts_26 zi_1 ?_
            refine w_gt dX9_nextCuts_27 (t := 31) rfl ?_
            refine w_lo (ml' := [some (.ref 386), some (.int v4_1), some (.int v4_2), some (.int x11), some (.int 1), o4_5]) dX9_nextCuts_31 rfl rfl rfl rfl ?_
            refine w_lo dX9_nextCuts_33 rfl rfl rfl rfl ?_
            refine w_gf dX9_nextCuts_34 rfl hJ14.1.1 zs_386 (zr_386_78 hJ14.1) ?_
            refine w_lo dX9_nextCuts_37 rfl rfl rfl rfl ?_
            refine w_lo dX9_nextCuts_38 rfl rfl rfl rfl ?_
            refine w_isi dX9_nextCuts_39 hJ14 zs_437 (by omega) (by omega) zu_437 (by omega) (by omega) (zIR_a (by omega) (by omega)) ?_
            intro M16 hJ17 f18 hn19
            refine w_lo dX9_nextCuts_40 rfl rfl rfl rfl ?_
            refine w_ic dX9_nextCuts_41 zi_1 ?_
            refine w_add dX9_nextCuts_42 (by have := zt_1; omega) ?_
            intro x20 h21
            have := zt_1
            refine w_lo (ml' := [some (.ref 386), some (.int v4_1), some (.int v4_2), some (.int x11), some (.int 1), some (.int x20)]) dX9_nextCuts_43 rfl rfl rfl rfl ?_
            exact ih45 M16 v4_1 v4_2 x11 1 x20 hJ17 (by omega) (by omega) (by omega) (by omega) (by have := zt_1; omega) (by have := zt_1; omega) (by omega) (by omega) (by have := zt_1; omega)
          · skip
            refine w_ceq_t dX9_nextCuts_23 (t := 30) rfl (by have := zt_m1; omega) ?_
            refine w_ic dX9_nextCuts_30 zi_0 ?_
            refine w_lo (ml' := [some (.ref 386), some (.int v4_1), some (.int v4_2), some (.int x11), some (.int 0), o4_5]) dX9_nextCuts_31 rfl rfl rfl rfl ?_
            refine w_lo dX9_nextCuts_33 rfl rfl rfl rfl ?_
            refine w_gf dX9_nextCuts_34 rfl hJ14.1.1 zs_386 (zr_386_78 hJ14.1) ?_
            refine w_lo dX9_nextCuts_37 rfl rfl rfl rfl ?_
            refine w_lo dX9_nextCuts_38 rfl rfl rfl rfl ?_
            refine w_isi dX9_nextCuts_39 hJ14 zs_437 (by omega) (by omega) zu_437 (by omega) (by omega) (zIR_a (by omega) (by omega)) ?_
            intro M22 hJ23 f24 hn25
            refine w_lo dX9_nextCuts_40 rfl rfl rfl rfl ?_
            refine w_ic dX9_nextCuts_41 zi_1 ?_
            refine w_add dX9_nextCuts_42 (by have := zt_1; omega) ?_
            intro x26 h27
            have := zt_1
            refine w_lo (ml' := [some (.ref 386), some (.int v4_1), some (.int v4_2), some (.int x11), some (.int 0), some (.int x26)]) dX9_nextCuts_43 rfl rfl rfl rfl ?_
            exact ih45 M22 v4_1 v4_2 x11 0 x26 hJ23 (by omega) (by omega) (by omega) (by omega) (by have := zt_0; omega) (by have := zt_0; omega) (by omega) (by omega) (by have := zt_0; omega)
      · intro M v45_1 v45_2 u45_3 v45_4 v45_5 hJ v45_10 v45_11 v45_20 v45_21 v45_40 v45_41 v45_50 v45_51 hn
        refine w_lo dX9_nextCuts_45 rfl rfl rfl rfl ?_
        refine w_lo dX9_nextCuts_47 rfl rfl rfl rfl ?_
        rcases zcut v45_5.toInt v45_1.toInt with h28 | h28
        · skip
          refine w_cge_f dX9_nextCuts_48 (t := 102) rfl (by omega) ?_
          refine w_lo dX9_nextCuts_51 rfl rfl rfl rfl ?_
          rcases Int.decEq v45_4.toInt (0 : Int) with h29 | h29
          · skip
            refine w_ieq_f dX9_nextCuts_53 (t := 102) rfl (by omega) ?_
            refine w_lo dX9_nextCuts_56 rfl rfl rfl rfl ?_
            refine w_gf dX9_nextCuts_57 rfl hJ.1.1 zs_386 (zr_386_78 hJ.1) ?_
            refine w_lo dX9_nextCuts_60 rfl rfl rfl rfl ?_
            refine w_lo dX9_nextCuts_62 rfl rfl rfl rfl ?_
            refine w_lo dX9_nextCuts_63 rfl rfl rfl rfl ?_
            refine w_gf dX9_nextCuts_64 rfl hJ.1.1 zs_386 (zr_386_78 hJ.1) ?_
            refine w_lo dX9_nextCuts_67 rfl rfl rfl rfl ?_
            refine w_ic dX9_nextCuts_69 zi_1 ?_
            refine w_sub dX9_nextCuts_70 (by have := zt_1; omega) ?_
            intro x30 h31
            have := zt_1
            refine w_iai dX9_nextCuts_71 hJ.1 zs_437 (by omega) (by omega) zu_437 ?_
            intro x35 f32 h33 h34
            refine w_ic dX9_nextCuts_72 zi_1 ?_
            refine w_add dX9_nextCuts_73 (by have := zt_1; omega) ?_
            intro x36 h37
            have := zt_1
            refine w_iv dX9_nextCuts_74 rfl rfl (As := [.int x36]) rfl rfl hJ.1.1 zs_386 (Nat.le_of_ble_eq_true rfl) ?_
            refine ZV.imp (k_2416 x36 (by omega) (by omega) hN hJ.1) ?_
            rintro _ ⟨x41, M38, rfl, h42, h43, hJ39, hq40⟩
            have hJ44 := zJ_trans hJ hJ39 zSub_nil
            show ZW _ _ _ _ _ _ _ (77, [some (.ref 386), some (.int v45_1), some (.int v45_2), some (.int u45_3), some (.int v45_4), some (.int v45_5)], [.int x41, .int v45_5, .ref 437], M38)
            refine w_isi dX9_nextCuts_77 hJ44 zs_437 (by omega) (by omega) zu_437 (by omega) (by omega) (zIR_a (by omega) (by omega)) ?_
            intro M45 hJ46 f47 hn48
            refine w_lo dX9_nextCuts_78 rfl rfl rfl rfl ?_
            refine w_gf dX9_nextCuts_79 rfl hJ46.1.1 zs_386 (zr_386_78 hJ46.1) ?_
            refine w_lo dX9_nextCuts_82 rfl rfl rfl rfl ?_
            refine w_ia dX9_nextCuts_84 hJ46.1.1 zs_437 (znat (by omega)) f47 ?_
            refine w_ic dX9_nextCuts_85 zi_m1 ?_
            rcases Int.decEq x41.toInt (-1 : Int) with h52 | h52
            · skip
              refine w_ceq_f dX9_nextCuts_86 (t := 93) rfl (by have := zt_m1; omega) ?_
              refine w_ic dX9_nextCuts_89 zi_1 ?_
              refine w_gt dX9_nextCuts_90 (t := 94) rfl ?_
              refine w_lo (ml' := [some (.ref 386), some (.int v45_1), some (.int v45_2), some (.int u45_3), some (.int 1), some (.int v45_5)]) dX9_nextCuts_94 rfl rfl rfl rfl ?_
              refine w_inc (kk := 5) dX9_nextCuts_96 rfl (m := 1) (by decide) (by omega) ?_
              intro x53 h54
              refine ⟨_, rfl, ?_⟩
              show ZW _ _ _ _ _ _ _ (99, [some (.ref 386), some (.int v45_1), some (.int v45_2), some (.int u45_3), some (.int 1), some (.int x53)], [], M45)
              refine w_gt dX9_nextCuts_99 (t := 45) rfl ?_
              exact ih45 M45 v45_1 v45_2 u45_3 1 x53 hJ46 (by omega) (by omega) (by omega) (by omega) (by have := zt_1; omega) (by have := zt_1; omega) (by omega) (by omega) (by have := zt_1; omega)
            · skip
              refine w_ceq_t dX9_nextCuts_86 (t := 93) rfl (by have := zt_m1; omega) ?_
              refine w_ic dX9_nextCuts_93 zi_0 ?_
              refine w_lo (ml' := [some (.ref 386), some (.int v45_1), some (.int v45_2), some (.int u45_3), some (.int 0), some (.int v45_5)]) dX9_nextCuts_94 rfl rfl rfl rfl ?_
              refine w_inc (kk := 5) dX9_nextCuts_96 rfl (m := 1) (by decide) (by omega) ?_
              intro x55 h56
              refine ⟨_, rfl, ?_⟩
              show ZW _ _ _ _ _ _ _ (99, [some (.ref 386), some (.int v45_1), some (.int v45_2), some (.int u45_3), some (.int 0), some (.int x55)], [], M45)
              refine w_gt dX9_nextCuts_99 (t := 45) rfl ?_
              exact ih45 M45 v45_1 v45_2 u45_3 0 x55 hJ46 (by omega) (by omega) (by omega) (by omega) (by have := zt_0; omega) (by have := zt_0; omega) (by omega) (by omega) (by have := zt_0; omega)
          · skip
            refine w_ieq_t dX9_nextCuts_53 (t := 102) rfl (by omega) ?_
            refine w_lo dX9_nextCuts_102 rfl rfl rfl rfl ?_
            refine w_ieq_t dX9_nextCuts_104 (t := 109) rfl (by omega) ?_
            refine w_inc (kk := 2) dX9_nextCuts_109 rfl (m := -1) (by decide) (by omega) ?_
            intro x57 h58
            refine ⟨_, rfl, ?_⟩
            show ZW _ _ _ _ _ _ _ (112, [some (.ref 386), some (.int v45_1), some (.int x57), some (.int u45_3), some (.int v45_4), some (.int v45_5)], [], M)
            refine w_gt dX9_nextCuts_112 (t := 4) rfl ?_
            exact ih4 M v45_1 x57 (some (.int u45_3)) (some (.int v45_4)) (some (.int v45_5)) hJ (by omega) (by omega) (by omega) (by omega) (by omega)
        · skip
          refine w_cge_t dX9_nextCuts_48 (t := 102) rfl (by omega) ?_
          refine w_lo dX9_nextCuts_102 rfl rfl rfl rfl ?_
          rcases Int.decEq v45_4.toInt (0 : Int) with h59 | h59
          · skip
            refine w_ieq_f dX9_nextCuts_104 (t := 109) rfl (by omega) ?_
            refine w_ic dX9_nextCuts_107 zi_1 ?_
            refine w_en dX9_nextCuts_108 rfl ?_
            exact ⟨_, _, rfl, (by have := zt_1; omega), (by have := zt_1; omega), hJ, trivial⟩
          · skip
            refine w_ieq_t dX9_nextCuts_104 (t := 109) rfl (by omega) ?_
            refine w_inc (kk := 2) dX9_nextCuts_109 rfl (m := -1) (by decide) (by omega) ?_
            intro x60 h61
            refine ⟨_, rfl, ?_⟩
            show ZW _ _ _ _ _ _ _ (112, [some (.ref 386), some (.int v45_1), some (.int x60), some (.int u45_3), some (.int v45_4), some (.int v45_5)], [], M)
            refine w_gt dX9_nextCuts_112 (t := 4) rfl ?_
            exact ih4 M v45_1 x60 (some (.int u45_3)) (some (.int v45_4)) (some (.int v45_5)) hJ (by omega) (by omega) (by omega) (by omega) (by omega)
  obtain ⟨ih4, ih45⟩ := main 171
  show ZW _ _ _ _ _ _ _ (0, [some (.ref 386), some (.int a0), none, none, none, none], [], M0)
  refine w_lo dX9_nextCuts_0 rfl rfl rfl rfl ?_
  refine w_ic dX9_nextCuts_1 zi_1 ?_
  refine w_sub dX9_nextCuts_2 (by have := zt_1; omega) ?_
  intro x62 h63
  have := zt_1
  refine w_lo (ml' := [some (.ref 386), some (.int a0), some (.int x62), none, none, none]) dX9_nextCuts_3 rfl rfl rfl rfl ?_
  exact ih4 M0 a0 x62 none none none hJ0 (by omega) (by omega) (by omega) (by omega) (by omega)
set_option maxRecDepth 100000 in
theorem k_2420 {X : List Int32} {d N : Nat} {M0 : zM} (a0 : Int32) (hN : N ≤ 600) (hB0 : zB N M0) : ZV X (d + 2) 2420 [.ref 386, .int a0] M0 (zRI N [] M0 (-1) (4095) (fun _ _ => True)) := by
  have hJ0 : zJ N [] M0 M0 := zJ_refl hB0
  refine ZV.of (ini := false) rfl (Nat.le_of_ble_eq_true rfl) (by decide +kernel) ?_
  have main : ∀ n : Nat,
      (∀ (M : zM) (v42_1 : Int32) (v42_2 : Int32) (v42_3 : Int32) (v42_4 : Int32) (v42_5 : Int32) (o42_6 : Option Value), zJ N [] M0 M → ((0 : Int) ≤ v42_1.toInt) → (v42_1.toInt ≤ 11) → ((0 : Int) ≤ v42_2.toInt) → (v42_2.toInt ≤ 4095) → ((-2147483648 : Int) ≤ v42_3.toInt) → (v42_3.toInt ≤ 2147483647) → ((0 : Int) ≤ v42_4.toInt) → (v42_4.toInt ≤ 1) → ((1 : Int) ≤ v42_5.toInt) → (v42_5.toInt ≤ 12) → 8 * (12 - v42_5.toInt) + 110 < (n : Int) → ZW X (d + 1) 9 false (some .int) cX9_walk (zRI N [] M0 (-1) (4095) (fun _ _ => True)) (42, [some (.ref 386), some (.int v42_1), some (.int v42_2), some (.int v42_3), some (.int v42_4), some (.int v42_5), o42_6], [], M)) ∧
      (∀ (M : zM) (v111_1 : Int32) (v111_2 : Int32) (v111_3 : Int32) (u111_4 : Int32) (v111_5 : Int32) (v111_6 : Int32), zJ N [] M0 M → ((0 : Int) ≤ v111_1.toInt) → (v111_1.toInt ≤ 11) → ((0 : Int) ≤ v111_2.toInt) → (v111_2.toInt ≤ 4095) → ((-2147483648 : Int) ≤ v111_3.toInt) → (v111_3.toInt ≤ 2147483647) → ((1 : Int) ≤ v111_5.toInt) → (v111_5.toInt ≤ 11) → ((-2147483648 : Int) ≤ v111_6.toInt) → (v111_6.toInt ≤ 2147483647) → 8 * (12 - v111_5.toInt) + 109 < (n : Int) → ZW X (d + 1) 9 false (some .int) cX9_walk (zRI N [] M0 (-1) (4095) (fun _ _ => True)) (111, [some (.ref 386), some (.int v111_1), some (.int v111_2), some (.int v111_3), some (.int u111_4), some (.int v111_5), some (.int v111_6)], [], M)) ∧
      (∀ (M : zM) (v128_1 : Int32) (u128_2 : Int32) (v128_3 : Int32) (v128_4 : Int32) (v128_5 : Int32) (v128_6 : Int32) (s128_0 : Int32) (s128_1 : Int32), zJ N [] M0 M → ((0 : Int) ≤ v128_1.toInt) → (v128_1.toInt ≤ 11) → ((-2147483648 : Int) ≤ v128_3.toInt) → (v128_3.toInt ≤ 2147483647) → ((0 : Int) ≤ v128_4.toInt) → (v128_4.toInt ≤ 1) → ((1 : Int) ≤ v128_5.toInt) → (v128_5.toInt ≤ 11) → ((-2147483648 : Int) ≤ v128_6.toInt) → (v128_6.toInt ≤ 2147483647) → ((0 : Int) ≤ s128_0.toInt) → (s128_0.toInt ≤ 4095) → ((0 : Int) ≤ s128_1.toInt) → (s128_1.toInt ≤ 2048) → 8 * (12 - v128_5.toInt) + 108 < (n : Int) → ZW X (d + 1) 9 false (some .int) cX9_walk (zRI N [] M0 (-1) (4095) (fun _ _ => True)) (128, [some (.ref 386), some (.int v128_1), some (.int u128_2), some (.int v128_3), some (.int v128_4), some (.int v128_5), some (.int v128_6)], [.int s128_1, .int s128_0], M)) ∧
      (∀ (M : zM) (v151_1 : Int32) (v151_2 : Int32) (u151_3 : Int32) (u151_4 : Int32) (u151_5 : Int32) (o151_6 : Option Value), zJ N [] M0 M → ((0 : Int) ≤ v151_1.toInt) → (v151_1.toInt ≤ 11) → ((0 : Int) ≤ v151_2.toInt) → (v151_2.toInt ≤ 4095) → 107 < (n : Int) → ZW X (d + 1) 9 false (some .int) cX9_walk (zRI N [] M0 (-1) (4095) (fun _ _ => True)) (151, [some (.ref 386), some (.int v151_1), some (.int v151_2), some (.int u151_3), some (.int u151_4), some (.int u151_5), o151_6], [], M)) ∧
      (∀ (M : zM) (u181_1 : Int32) (v181_2 : Int32) (v181_3 : Int32) (v181_4 : Int32) (v181_5 : Int32) (o181_6 : Option Value), zJ N [] M0 M → ((0 : Int) ≤ v181_2.toInt) → (v181_2.toInt ≤ 4095) → ((-2147483648 : Int) ≤ v181_3.toInt) → (v181_3.toInt ≤ 2147483647) → ((0 : Int) ≤ v181_4.toInt) → (v181_4.toInt ≤ 1) → ((-1 : Int) ≤ v181_5.toInt) → (v181_5.toInt ≤ 10) → 8 * (v181_5.toInt - (-1)) + 2 < (n : Int) → ZW X (d + 1) 9 false (some .int) cX9_walk (zRI N [] M0 (-1) (4095) (fun _ _ => True)) (181, [some (.ref 386), some (.int u181_1), some (.int v181_2), some (.int v181_3), some (.int v181_4), some (.int v181_5), o181_6], [], M)) ∧
      (∀ (M : zM) (u242_1 : Int32) (v242_2 : Int32) (v242_3 : Int32) (u242_4 : Int32) (v242_5 : Int32) (v242_6 : Int32), zJ N [] M0 M → ((0 : Int) ≤ v242_2.toInt) → (v242_2.toInt ≤ 4095) → ((-2147483648 : Int) ≤ v242_3.toInt) → (v242_3.toInt ≤ 2147483647) → ((0 : Int) ≤ v242_5.toInt) → (v242_5.toInt ≤ 10) → ((-2147483648 : Int) ≤ v242_6.toInt) → (v242_6.toInt ≤ 2147483647) → 8 * (v242_5.toInt - (-1)) + 1 < (n : Int) → ZW X (d + 1) 9 false (some .int) cX9_walk (zRI N [] M0 (-1) (4095) (fun _ _ => True)) (242, [some (.ref 386), some (.int u242_1), some (.int v242_2), some (.int v242_3), some (.int u242_4), some (.int v242_5), some (.int v242_6)], [], M)) := by
    intro n
    induction n with
    | zero =>
      exact ⟨(fun M v42_1 v42_2 v42_3 v42_4 v42_5 o42_6 hJ v42_10 v42_11 v42_20 v42_21 v42_30 v42_31 v42_40 v42_41 v42_50 v42_51 hn => absurd hn (by omega)), (fun M v111_1 v111_2 v111_3 u111_4 v111_5 v111_6 hJ v111_10 v111_11 v111_20 v111_21 v111_30 v111_31 v111_50 v111_51 v111_60 v111_61 hn => absurd hn (by omega)), (fun M v128_1 u128_2 v128_3 v128_4 v128_5 v128_6 s128_0 s128_1 hJ v128_10 v128_11 v128_30 v128_31 v128_40 v128_41 v128_50 v128_51 v128_60 v128_61 s128_00 s128_01 s128_10 s128_11 hn => absurd hn (by omega)), (fun M v151_1 v151_2 u151_3 u151_4 u151_5 o151_6 hJ v151_10 v151_11 v151_20 v151_21 hn => absurd hn (by omega)), (fun M u181_1 v181_2 v181_3 v181_4 v181_5 o181_6 hJ v181_20 v181_21 v181_30 v181_31 v181_40 v181_41 v181_50 v181_51 hn => absurd hn (by omega)), (fun M u242_1 v242_2 v242_3 u242_4 v242_5 v242_6 hJ v242_20 v242_21 v242_30 v242_31 v242_50 v242_51 v242_60 v242_61 hn => absurd hn (by omega))⟩
    | succ n ih =>
      obtain ⟨ih42, ih111, ih128, ih151, ih181, ih242⟩ := ih
      refine ⟨?_, ?_, ?_, ?_, ?_, ?_⟩
      · intro M v42_1 v42_2 v42_3 v42_4 v42_5 o42_6 hJ v42_10 v42_11 v42_20 v42_21 v42_30 v42_31 v42_40 v42_41 v42_50 v42_51 hn
        refine w_lo dX9_walk_42 rfl rfl rfl rfl ?_
        refine w_lo dX9_walk_44 rfl rfl rfl rfl ?_
        refine w_iv dX9_walk_45 rfl rfl (As := []) rfl rfl hJ.1.1 zs_386 (Nat.le_of_ble_eq_true rfl) ?_
        refine ZV.of (ini := false) rfl (Nat.le_of_ble_eq_true rfl) (by decide +kernel) ?_
        show ZW _ _ _ _ _ _ _ (0, [some (.ref 386)], [], M)
        refine w_lo dX9_many_0 rfl rfl rfl rfl ?_
        refine w_gf dX9_many_1 rfl hJ.1.1 zs_386 (zr_386_13 hJ.1) ?_
        refine w_lo dX9_many_4 rfl rfl rfl rfl ?_
        refine w_gfi dX9_many_5 rfl hJ.1 zs_386 (Nat.le_of_ble_eq_true rfl) zo_386_12 ?_
        intro x1 f2 h3 h4
        refine w_iai dX9_many_8 hJ.1 zs_388 (by omega) (by omega) zu_388 ?_
        intro x8 f5 h6 h7
        refine w_eni dX9_many_9 rfl rfl ?_
        show ZW _ _ _ _ _ _ _ (48, [some (.ref 386), some (.int v42_1), some (.int v42_2), some (.int v42_3), some (.int v42_4), some (.int v42_5), o42_6], [.int x8, .int v42_5], M)
        rcases zcut v42_5.toInt x8.toInt with h9 | h9
        · skip
          refine w_cge_f dX9_walk_48 (t := 151) rfl (by omega) ?_
          refine w_lo dX9_walk_51 rfl rfl rfl rfl ?_
          rcases Int.decEq v42_4.toInt (0 : Int) with h10 | h10
          · skip
            refine w_ieq_f dX9_walk_53 (t := 151) rfl (by omega) ?_
            refine w_lo dX9_walk_56 rfl rfl rfl rfl ?_
            refine w_gf dX9_walk_57 rfl hJ.1.1 zs_386 (zr_386_15 hJ.1) ?_
            refine w_bi dX9_walk_60 (c := 12) (by decide) ?_
            refine w_lo dX9_walk_62 rfl rfl rfl rfl ?_
            refine w_gf dX9_walk_63 rfl hJ.1.1 zs_386 f2 ?_
            refine w_mulc dX9_walk_66 zt_12 (by have := zt_12; omega) ?_
            intro x11 h12
            have := zt_12
            refine w_lo dX9_walk_67 rfl rfl rfl rfl ?_
            refine w_gf dX9_walk_68 rfl hJ.1.1 zs_386 (zr_386_50 hJ.1) ?_
            refine w_lo dX9_walk_71 rfl rfl rfl rfl ?_
            refine w_iai dX9_walk_73 hJ.1 zs_419 (by omega) (by omega) zu_419 ?_
            intro x16 f13 h14 h15
            refine w_add dX9_walk_74 (by omega) ?_
            intro x17 h18
            refine w_iai dX9_walk_75 hJ.1 zs_390 (by omega) (by omega) zu_390 ?_
            intro x22 f19 h20 h21
            refine w_lo (ml' := [some (.ref 386), some (.int v42_1), some (.int v42_2), some (.int v42_3), some (.int v42_4), some (.int v42_5), some (.int x22)]) dX9_walk_76 rfl rfl rfl rfl ?_
            refine w_lo dX9_walk_78 rfl rfl rfl rfl ?_
            refine w_gf dX9_walk_79 rfl hJ.1.1 zs_386 (zr_386_60 hJ.1) ?_
            refine w_lo dX9_walk_82 rfl rfl rfl rfl ?_
            refine w_ic dX9_walk_84 zi_1 ?_
            refine w_sub dX9_walk_85 (by have := zt_1; omega) ?_
            intro x23 h24
            have := zt_1
            refine w_iai dX9_walk_86 hJ.1 zs_429 (by omega) (by omega) zu_429 ?_
            intro x28 f25 h26 h27
            refine w_ic dX9_walk_87 zi_1 ?_
            rcases Int.decEq x28.toInt (1 : Int) with h29 | h29
            · skip
              refine w_cne_t dX9_walk_88 (t := 111) rfl (by have := zt_1; omega) ?_
              exact ih111 M v42_1 v42_2 v42_3 v42_4 v42_5 x22 hJ (by omega) (by omega) (by omega) (by omega) (zbot _) (ztop _) (by omega) (by omega) (zbot _) (ztop _) (by omega)
            · skip
              refine w_cne_f dX9_walk_88 (t := 111) rfl (by have := zt_1; omega) ?_
              refine w_lo dX9_walk_91 rfl rfl rfl rfl ?_
              refine w_lo dX9_walk_92 rfl rfl rfl rfl ?_
              refine w_gf dX9_walk_93 rfl hJ.1.1 zs_386 (zr_386_61 hJ.1) ?_
              refine w_lo dX9_walk_96 rfl rfl rfl rfl ?_
              refine w_ic dX9_walk_98 zi_1 ?_
              refine w_sub dX9_walk_99 (by have := zt_1; omega) ?_
              intro x30 h31
              have := zt_1
              refine w_iai dX9_walk_100 hJ.1 zs_430 (by omega) (by omega) zu_430 ?_
              intro x35 f32 h33 h34
              refine w_puI dX9_walk_101 rfl rfl ?_
              intro x36
              refine w_lo dX9_walk_102 rfl rfl rfl rfl ?_
              rcases zcut x36.toInt x22.toInt with h37 | h37
              · skip
                refine w_clt_t dX9_walk_104 (t := 111) rfl (by omega) ?_
                exact ih111 M v42_1 v42_2 v42_3 v42_4 v42_5 x22 hJ (by omega) (by omega) (by omega) (by omega) (zbot _) (ztop _) (by omega) (by omega) (zbot _) (ztop _) (by omega)
              · skip
                refine w_clt_f dX9_walk_104 (t := 111) rfl (by omega) ?_
                refine w_ic dX9_walk_107 zi_1 ?_
                refine w_gt dX9_walk_108 (t := 112) rfl ?_
                refine w_lo (ml' := [some (.ref 386), some (.int v42_1), some (.int v42_2), some (.int v42_3), some (.int 1), some (.int v42_5), some (.int x22)]) dX9_walk_112 rfl rfl rfl rfl ?_
                refine w_lo dX9_walk_114 rfl rfl rfl rfl ?_
                refine w_lo dX9_walk_115 rfl rfl rfl rfl ?_
                refine w_ieq_f dX9_walk_117 (t := 127) rfl (by have := zt_1; omega) ?_
                refine w_ic dX9_walk_120 zi_1 ?_
                refine w_lo dX9_walk_121 rfl rfl rfl rfl ?_
                refine w_shl dX9_walk_123 (by omega) (by omega) (m := 11) (by omega) ?_
                intro x38 h39 h40
                have : (2 : Int) ^ 11 = 2048 := by decide
                refine w_gt dX9_walk_124 (t := 128) rfl ?_
                exact ih128 M v42_1 v42_2 v42_3 1 v42_5 x22 v42_2 x38 hJ (by omega) (by omega) (zbot _) (ztop _) (by have := zt_1; omega) (by have := zt_1; omega) (by omega) (by omega) (zbot _) (ztop _) (by omega) (by omega) (by omega) (by omega) (by have := zt_1; omega)
          · skip
            refine w_ieq_t dX9_walk_53 (t := 151) rfl (by omega) ?_
            exact ih151 M v42_1 v42_2 v42_3 v42_4 v42_5 o42_6 hJ (by omega) (by omega) (by omega) (by omega) (by omega)
        · skip
          refine w_cge_t dX9_walk_48 (t := 151) rfl (by omega) ?_
          exact ih151 M v42_1 v42_2 v42_3 v42_4 v42_5 o42_6 hJ (by omega) (by omega) (by omega) (by omega) (by omega)
      · intro M v111_1 v111_2 v111_3 u111_4 v111_5 v111_6 hJ v111_10 v111_11 v111_20 v111_21 v111_30 v111_31 v111_50 v111_51 v111_60 v111_61 hn
        refine w_ic dX9_walk_111 zi_0 ?_
        refine w_lo (ml' := [some (.ref 386), some (.int v111_1), some (.int v111_2), some (.int v111_3), some (.int 0), some (.int v111_5), some (.int v111_6)]) dX9_walk_112 rfl rfl rfl rfl ?_
        refine w_lo dX9_walk_114 rfl rfl rfl rfl ?_
        refine w_lo dX9_walk_115 rfl rfl rfl rfl ?_
        refine w_ieq_t dX9_walk_117 (t := 127) rfl (by have := zt_0; omega) ?_
        refine w_ic dX9_walk_127 zi_0 ?_
        exact ih128 M v111_1 v111_2 v111_3 0 v111_5 v111_6 v111_2 0 hJ (by omega) (by omega) (zbot _) (ztop _) (by have := zt_0; omega) (by have := zt_0; omega) (by omega) (by omega) (zbot _) (ztop _) (by omega) (by omega) (by have := zt_0; omega) (by have := zt_0; omega) (by have := zt_0; omega)
      · intro M v128_1 u128_2 v128_3 v128_4 v128_5 v128_6 s128_0 s128_1 hJ v128_10 v128_11 v128_30 v128_31 v128_40 v128_41 v128_50 v128_51 v128_60 v128_61 s128_00 s128_01 s128_10 s128_11 hn
        refine w_or dX9_walk_128 (m := 12) (by decide) (by omega) (by omega) (by omega) (by omega) ?_
        intro x41 h42 h43
        have : (2 : Int) ^ 12 = 4096 := by decide
        refine w_lo (ml' := [some (.ref 386), some (.int v128_1), some (.int x41), some (.int v128_3), some (.int v128_4), some (.int v128_5), some (.int v128_6)]) dX9_walk_129 rfl rfl rfl rfl ?_
        refine w_lo dX9_walk_130 rfl rfl rfl rfl ?_
        refine w_lo dX9_walk_131 rfl rfl rfl rfl ?_
        refine w_gf dX9_walk_132 rfl hJ.1.1 zs_386 (zr_386_61 hJ.1) ?_
        refine w_lo dX9_walk_135 rfl rfl rfl rfl ?_
        refine w_ic dX9_walk_137 zi_1 ?_
        refine w_sub dX9_walk_138 (by have := zt_1; omega) ?_
        intro x44 h45
        have := zt_1
        refine w_iai dX9_walk_139 hJ.1 zs_430 (by omega) (by omega) zu_430 ?_
        intro x49 f46 h47 h48
        refine w_lo dX9_walk_140 rfl rfl rfl rfl ?_
        refine w_puI dX9_walk_142 rfl rfl ?_
        intro x50
        refine w_puI dX9_walk_143 rfl rfl ?_
        intro x51
        refine w_lo (ml' := [some (.ref 386), some (.int v128_1), some (.int x41), some (.int x51), some (.int v128_4), some (.int v128_5), some (.int v128_6)]) dX9_walk_144 rfl rfl rfl rfl ?_
        refine w_inc (kk := 5) dX9_walk_145 rfl (m := 1) (by decide) (by omega) ?_
        intro x52 h53
        refine ⟨_, rfl, ?_⟩
        show ZW _ _ _ _ _ _ _ (148, [some (.ref 386), some (.int v128_1), some (.int x41), some (.int x51), some (.int v128_4), some (.int x52), some (.int v128_6)], [], M)
        refine w_gt dX9_walk_148 (t := 42) rfl ?_
        exact ih42 M v128_1 x41 x51 v128_4 x52 (some (.int v128_6)) hJ (by omega) (by omega) (by omega) (by omega) (zbot _) (ztop _) (by omega) (by omega) (by omega) (by omega) (by omega)
      · intro M v151_1 v151_2 u151_3 u151_4 u151_5 o151_6 hJ v151_10 v151_11 v151_20 v151_21 hn
        refine w_ic dX9_walk_151 zi_3 ?_
        refine w_lo dX9_walk_152 rfl rfl rfl rfl ?_
        refine w_gf dX9_walk_153 rfl hJ.1.1 zs_386 (zr_386_15 hJ.1) ?_
        refine w_bi dX9_walk_156 (c := 12) (by decide) ?_
        refine w_lo dX9_walk_158 rfl rfl rfl rfl ?_
        refine w_gfi dX9_walk_159 rfl hJ.1 zs_386 (Nat.le_of_ble_eq_true rfl) zo_386_12 ?_
        intro x54 f55 h56 h57
        refine w_mulc dX9_walk_162 zt_12 (by have := zt_12; omega) ?_
        intro x58 h59
        have := zt_12
        refine w_lo dX9_walk_163 rfl rfl rfl rfl ?_
        refine w_gf dX9_walk_164 rfl hJ.1.1 zs_386 (zr_386_50 hJ.1) ?_
        refine w_lo dX9_walk_167 rfl rfl rfl rfl ?_
        refine w_iai dX9_walk_168 hJ.1 zs_419 (by omega) (by omega) zu_419 ?_
        intro x63 f60 h61 h62
        refine w_add dX9_walk_169 (by omega) ?_
        intro x64 h65
        refine w_iai dX9_walk_170 hJ.1 zs_390 (by omega) (by omega) zu_390 ?_
        intro x69 f66 h67 h68
        refine w_puI dX9_walk_171 rfl rfl ?_
        intro x70
        refine w_lo (ml' := [some (.ref 386), some (.int v151_1), some (.int v151_2), some (.int x70), some (.int u151_4), some (.int u151_5), o151_6]) dX9_walk_172 rfl rfl rfl rfl ?_
        refine w_ic dX9_walk_173 zi_1 ?_
        refine w_lo (ml' := [some (.ref 386), some (.int v151_1), some (.int v151_2), some (.int x70), some (.int 1), some (.int u151_5), o151_6]) dX9_walk_174 rfl rfl rfl rfl ?_
        refine w_lo dX9_walk_176 rfl rfl rfl rfl ?_
        refine w_ic dX9_walk_177 zi_1 ?_
        refine w_sub dX9_walk_178 (by have := zt_1; omega) ?_
        intro x71 h72
        have := zt_1
        refine w_lo (ml' := [some (.ref 386), some (.int v151_1), some (.int v151_2), some (.int x70), some (.int 1), some (.int x71), o151_6]) dX9_walk_179 rfl rfl rfl rfl ?_
        exact ih181 M v151_1 v151_2 x70 1 x71 o151_6 hJ (by omega) (by omega) (zbot _) (ztop _) (by have := zt_1; omega) (by have := zt_1; omega) (by omega) (by omega) (by have := zt_1; omega)
      · intro M u181_1 v181_2 v181_3 v181_4 v181_5 o181_6 hJ v181_20 v181_21 v181_30 v181_31 v181_40 v181_41 v181_50 v181_51 hn
        refine w_lo dX9_walk_181 rfl rfl rfl rfl ?_
        rcases zcut v181_5.toInt (0 : Int) with h73 | h73
        · skip
          refine w_ilt_t dX9_walk_183 (t := 280) rfl (by omega) ?_
          refine w_lo dX9_walk_280 rfl rfl rfl rfl ?_
          refine w_eni dX9_walk_281 rfl rfl ?_
          exact ⟨_, _, rfl, (by omega), (by omega), hJ, trivial⟩
        · skip
          refine w_ilt_f dX9_walk_183 (t := 280) rfl (by omega) ?_
          refine w_lo dX9_walk_186 rfl rfl rfl rfl ?_
          rcases Int.decEq v181_4.toInt (0 : Int) with h74 | h74
          · skip
            refine w_ieq_f dX9_walk_188 (t := 280) rfl (by omega) ?_
            refine w_lo dX9_walk_191 rfl rfl rfl rfl ?_
            refine w_gf dX9_walk_192 rfl hJ.1.1 zs_386 (zr_386_15 hJ.1) ?_
            refine w_bi dX9_walk_195 (c := 12) (by decide) ?_
            refine w_lo dX9_walk_197 rfl rfl rfl rfl ?_
            refine w_gfi dX9_walk_198 rfl hJ.1 zs_386 (Nat.le_of_ble_eq_true rfl) zo_386_12 ?_
            intro x75 f76 h77 h78
            refine w_mulc dX9_walk_201 zt_12 (by have := zt_12; omega) ?_
            intro x79 h80
            have := zt_12
            refine w_lo dX9_walk_202 rfl rfl rfl rfl ?_
            refine w_gf dX9_walk_203 rfl hJ.1.1 zs_386 (zr_386_50 hJ.1) ?_
            refine w_lo dX9_walk_206 rfl rfl rfl rfl ?_
            refine w_iai dX9_walk_208 hJ.1 zs_419 (by omega) (by omega) zu_419 ?_
            intro x84 f81 h82 h83
            refine w_add dX9_walk_209 (by omega) ?_
            intro x85 h86
            refine w_iai dX9_walk_210 hJ.1 zs_390 (by omega) (by omega) zu_390 ?_
            intro x90 f87 h88 h89
            refine w_lo (ml' := [some (.ref 386), some (.int u181_1), some (.int v181_2), some (.int v181_3), some (.int v181_4), some (.int v181_5), some (.int x90)]) dX9_walk_211 rfl rfl rfl rfl ?_
            refine w_lo dX9_walk_213 rfl rfl rfl rfl ?_
            refine w_gf dX9_walk_214 rfl hJ.1.1 zs_386 (zr_386_60 hJ.1) ?_
            refine w_lo dX9_walk_217 rfl rfl rfl rfl ?_
            refine w_iai dX9_walk_219 hJ.1 zs_429 (by omega) (by omega) zu_429 ?_
            intro x94 f91 h92 h93
            refine w_ic dX9_walk_220 zi_1 ?_
            rcases Int.decEq x94.toInt (1 : Int) with h95 | h95
            · skip
              refine w_cne_t dX9_walk_221 (t := 242) rfl (by have := zt_1; omega) ?_
              exact ih242 M u181_1 v181_2 v181_3 v181_4 v181_5 x90 hJ (by omega) (by omega) (zbot _) (ztop _) (by omega) (by omega) (zbot _) (ztop _) (by omega)
            · skip
              refine w_cne_f dX9_walk_221 (t := 242) rfl (by have := zt_1; omega) ?_
              refine w_lo dX9_walk_224 rfl rfl rfl rfl ?_
              refine w_lo dX9_walk_225 rfl rfl rfl rfl ?_
              refine w_gf dX9_walk_226 rfl hJ.1.1 zs_386 (zr_386_61 hJ.1) ?_
              refine w_lo dX9_walk_229 rfl rfl rfl rfl ?_
              refine w_iai dX9_walk_231 hJ.1 zs_430 (by omega) (by omega) zu_430 ?_
              intro x99 f96 h97 h98
              refine w_puI dX9_walk_232 rfl rfl ?_
              intro x100
              refine w_lo dX9_walk_233 rfl rfl rfl rfl ?_
              rcases zcut x100.toInt x90.toInt with h101 | h101
              · skip
                refine w_clt_t dX9_walk_235 (t := 242) rfl (by omega) ?_
                exact ih242 M u181_1 v181_2 v181_3 v181_4 v181_5 x90 hJ (by omega) (by omega) (zbot _) (ztop _) (by omega) (by omega) (zbot _) (ztop _) (by omega)
              · skip
                refine w_clt_f dX9_walk_235 (t := 242) rfl (by omega) ?_
                refine w_ic dX9_walk_238 zi_1 ?_
                refine w_gt dX9_walk_239 (t := 243) rfl ?_
                refine w_lo (ml' := [some (.ref 386), some (.int u181_1), some (.int v181_2), some (.int v181_3), some (.int 1), some (.int v181_5), some (.int x90)]) dX9_walk_243 rfl rfl rfl rfl ?_
                refine w_lo dX9_walk_245 rfl rfl rfl rfl ?_
                refine w_lo dX9_walk_246 rfl rfl rfl rfl ?_
                refine w_ieq_f dX9_walk_248 (t := 258) rfl (by have := zt_1; omega) ?_
                refine w_ic dX9_walk_251 zi_1 ?_
                refine w_lo dX9_walk_252 rfl rfl rfl rfl ?_
                refine w_shl dX9_walk_254 (by omega) (by omega) (m := 10) (by omega) ?_
                intro x102 h103 h104
                have : (2 : Int) ^ 10 = 1024 := by decide
                refine w_gt dX9_walk_255 (t := 259) rfl ?_
                refine w_or dX9_walk_259 (m := 12) (by decide) (by omega) (by omega) (by omega) (by omega) ?_
                intro x105 h106 h107
                have : (2 : Int) ^ 12 = 4096 := by decide
                refine w_lo (ml' := [some (.ref 386), some (.int u181_1), some (.int x105), some (.int v181_3), some (.int 1), some (.int v181_5), some (.int x90)]) dX9_walk_260 rfl rfl rfl rfl ?_
                refine w_lo dX9_walk_261 rfl rfl rfl rfl ?_
                refine w_lo dX9_walk_262 rfl rfl rfl rfl ?_
                refine w_gf dX9_walk_263 rfl hJ.1.1 zs_386 (zr_386_61 hJ.1) ?_
                refine w_lo dX9_walk_266 rfl rfl rfl rfl ?_
                refine w_ia dX9_walk_268 hJ.1.1 zs_430 (znat (by omega)) f96 ?_
                refine w_lo dX9_walk_269 rfl rfl rfl rfl ?_
                refine w_puI dX9_walk_271 rfl rfl ?_
                intro x111
                refine w_puI dX9_walk_272 rfl rfl ?_
                intro x112
                refine w_lo (ml' := [some (.ref 386), some (.int u181_1), some (.int x105), some (.int x112), some (.int 1), some (.int v181_5), some (.int x90)]) dX9_walk_273 rfl rfl rfl rfl ?_
                refine w_inc (kk := 5) dX9_walk_274 rfl (m := -1) (by decide) (by omega) ?_
                intro x113 h114
                refine ⟨_, rfl, ?_⟩
                show ZW _ _ _ _ _ _ _ (277, [some (.ref 386), some (.int u181_1), some (.int x105), some (.int x112), some (.int 1), some (.int x113), some (.int x90)], [], M)
                refine w_gt dX9_walk_277 (t := 181) rfl ?_
                exact ih181 M u181_1 x105 x112 1 x113 (some (.int x90)) hJ (by omega) (by omega) (zbot _) (ztop _) (by have := zt_1; omega) (by have := zt_1; omega) (by omega) (by omega) (by have := zt_1; omega)
          · skip
            refine w_ieq_t dX9_walk_188 (t := 280) rfl (by omega) ?_
            refine w_lo dX9_walk_280 rfl rfl rfl rfl ?_
            refine w_eni dX9_walk_281 rfl rfl ?_
            exact ⟨_, _, rfl, (by omega), (by omega), hJ, trivial⟩
      · intro M u242_1 v242_2 v242_3 u242_4 v242_5 v242_6 hJ v242_20 v242_21 v242_30 v242_31 v242_50 v242_51 v242_60 v242_61 hn
        refine w_ic dX9_walk_242 zi_0 ?_
        refine w_lo (ml' := [some (.ref 386), some (.int u242_1), some (.int v242_2), some (.int v242_3), some (.int 0), some (.int v242_5), some (.int v242_6)]) dX9_walk_243 rfl rfl rfl rfl ?_
        refine w_lo dX9_walk_245 rfl rfl rfl rfl ?_
        refine w_lo dX9_walk_246 rfl rfl rfl rfl ?_
        refine w_ieq_t dX9_walk_248 (t := 258) rfl (by have := zt_0; omega) ?_
        refine w_ic dX9_walk_258 zi_0 ?_
        refine w_or dX9_walk_259 (m := 12) (by decide) (by omega) (by omega) (by have := zt_0; omega) (by have := zt_0; omega) ?_
        intro x115 h116 h117
        have : (2 : Int) ^ 12 = 4096 := by decide
        refine w_lo (ml' := [some (.ref 386), some (.int u242_1), some (.int x115), some (.int v242_3), some (.int 0), some (.int v242_5), some (.int v242_6)]) dX9_walk_260 rfl rfl rfl rfl ?_
        refine w_lo dX9_walk_261 rfl rfl rfl rfl ?_
        refine w_lo dX9_walk_262 rfl rfl rfl rfl ?_
        refine w_gf dX9_walk_263 rfl hJ.1.1 zs_386 (zr_386_61 hJ.1) ?_
        refine w_lo dX9_walk_266 rfl rfl rfl rfl ?_
        refine w_iai dX9_walk_268 hJ.1 zs_430 (by omega) (by omega) zu_430 ?_
        intro x121 f118 h119 h120
        refine w_lo dX9_walk_269 rfl rfl rfl rfl ?_
        refine w_puI dX9_walk_271 rfl rfl ?_
        intro x122
        refine w_puI dX9_walk_272 rfl rfl ?_
        intro x123
        refine w_lo (ml' := [some (.ref 386), some (.int u242_1), some (.int x115), some (.int x123), some (.int 0), some (.int v242_5), some (.int v242_6)]) dX9_walk_273 rfl rfl rfl rfl ?_
        refine w_inc (kk := 5) dX9_walk_274 rfl (m := -1) (by decide) (by omega) ?_
        intro x124 h125
        refine ⟨_, rfl, ?_⟩
        show ZW _ _ _ _ _ _ _ (277, [some (.ref 386), some (.int u242_1), some (.int x115), some (.int x123), some (.int 0), some (.int x124), some (.int v242_6)], [], M)
        refine w_gt dX9_walk_277 (t := 181) rfl ?_
        exact ih181 M u242_1 x115 x123 0 x124 (some (.int v242_6)) hJ (by omega) (by omega) (zbot _) (ztop _) (by have := zt_0; omega) (by have := zt_0; omega) (by omega) (by omega) (by have := zt_0; omega)
  obtain ⟨ih42, ih111, ih128, ih151, ih181, ih242⟩ := main 219
  show ZW _ _ _ _ _ _ _ (0, [some (.ref 386), some (.int a0), none, none, none, none, none], [], M0)
  refine w_lo dX9_walk_0 rfl rfl rfl rfl ?_
  refine w_lo dX9_walk_1 rfl rfl rfl rfl ?_
  refine w_iv dX9_walk_2 rfl rfl (As := [.int a0]) rfl rfl hJ0.1.1 zs_386 (Nat.le_of_ble_eq_true rfl) ?_
  refine ZV.of (ini := false) rfl (Nat.le_of_ble_eq_true rfl) (by decide +kernel) ?_
  show ZW _ _ _ _ _ _ _ (0, [some (.ref 386), some (.int a0)], [], M0)
  refine w_lo dX9_isBoy_0 rfl rfl rfl rfl ?_
  rcases zcut a0.toInt (0 : Int) with h126 | h126
  · skip
    refine w_ilt_t dX9_isBoy_1 (t := 21) rfl (by omega) ?_
    refine w_ic dX9_isBoy_21 zi_0 ?_
    refine w_en dX9_isBoy_22 rfl ?_
    show ZW _ _ _ _ _ _ _ (5, [some (.ref 386), some (.int a0), none, none, none, none, none], [.int 0], M0)
    refine w_ine_f dX9_walk_5 (t := 10) rfl (by have := zt_0; omega) ?_
    refine w_ic dX9_walk_8 zi_m1 ?_
    refine w_en dX9_walk_9 rfl ?_
    exact ⟨_, _, rfl, (by have := zt_m1; omega), (by have := zt_m1; omega), hJ0, trivial⟩
  · skip
    refine w_ilt_f dX9_isBoy_1 (t := 21) rfl (by omega) ?_
    refine w_lo dX9_isBoy_4 rfl rfl rfl rfl ?_
    refine w_lo dX9_isBoy_5 rfl rfl rfl rfl ?_
    refine w_gf dX9_isBoy_6 rfl hJ0.1.1 zs_386 (zr_386_13 hJ0.1) ?_
    refine w_lo dX9_isBoy_9 rfl rfl rfl rfl ?_
    refine w_gfi dX9_isBoy_10 rfl hJ0.1 zs_386 (Nat.le_of_ble_eq_true rfl) zo_386_12 ?_
    intro x127 f128 h129 h130
    refine w_iai dX9_isBoy_13 hJ0.1 zs_388 (by omega) (by omega) zu_388 ?_
    intro x134 f131 h132 h133
    rcases zcut a0.toInt x134.toInt with h135 | h135
    · skip
      refine w_cge_f dX9_isBoy_14 (t := 21) rfl (by omega) ?_
      refine w_ic dX9_isBoy_17 zi_1 ?_
      refine w_gt dX9_isBoy_18 (t := 22) rfl ?_
      refine w_en dX9_isBoy_22 rfl ?_
      show ZW _ _ _ _ _ _ _ (5, [some (.ref 386), some (.int a0), none, none, none, none, none], [.int 1], M0)
      refine w_ine_t dX9_walk_5 (t := 10) rfl (by have := zt_1; omega) ?_
      refine w_ic dX9_walk_10 zi_0 ?_
      refine w_lo (ml' := [some (.ref 386), some (.int a0), some (.int 0), none, none, none, none]) dX9_walk_11 rfl rfl rfl rfl ?_
      refine w_ic dX9_walk_12 zi_3 ?_
      refine w_lo dX9_walk_13 rfl rfl rfl rfl ?_
      refine w_gf dX9_walk_14 rfl hJ0.1.1 zs_386 (zr_386_15 hJ0.1) ?_
      refine w_bi dX9_walk_17 (c := 12) (by decide) ?_
      refine w_lo dX9_walk_19 rfl rfl rfl rfl ?_
      refine w_gf dX9_walk_20 rfl hJ0.1.1 zs_386 f128 ?_
      refine w_mulc dX9_walk_23 zt_12 (by have := zt_12; omega) ?_
      intro x136 h137
      have := zt_12
      refine w_lo dX9_walk_24 rfl rfl rfl rfl ?_
      refine w_gf dX9_walk_25 rfl hJ0.1.1 zs_386 (zr_386_50 hJ0.1) ?_
      refine w_lo dX9_walk_28 rfl rfl rfl rfl ?_
      refine w_iai dX9_walk_29 hJ0.1 zs_419 (by omega) (by omega) zu_419 ?_
      intro x141 f138 h139 h140
      refine w_add dX9_walk_30 (by omega) ?_
      intro x142 h143
      refine w_iai dX9_walk_31 hJ0.1 zs_390 (by omega) (by omega) zu_390 ?_
      intro x147 f144 h145 h146
      refine w_puI dX9_walk_32 rfl rfl ?_
      intro x148
      refine w_lo (ml' := [some (.ref 386), some (.int a0), some (.int 0), some (.int x148), none, none, none]) dX9_walk_33 rfl rfl rfl rfl ?_
      refine w_ic dX9_walk_34 zi_1 ?_
      refine w_lo (ml' := [some (.ref 386), some (.int a0), some (.int 0), some (.int x148), some (.int 1), none, none]) dX9_walk_35 rfl rfl rfl rfl ?_
      refine w_lo dX9_walk_37 rfl rfl rfl rfl ?_
      refine w_ic dX9_walk_38 zi_1 ?_
      refine w_add dX9_walk_39 (by have := zt_1; omega) ?_
      intro x149 h150
      have := zt_1
      refine w_lo (ml' := [some (.ref 386), some (.int a0), some (.int 0), some (.int x148), some (.int 1), some (.int x149), none]) dX9_walk_40 rfl rfl rfl rfl ?_
      exact ih42 M0 a0 0 x148 1 x149 none hJ0 (by omega) (by omega) (by have := zt_0; omega) (by have := zt_0; omega) (zbot _) (ztop _) (by have := zt_1; omega) (by have := zt_1; omega) (by omega) (by omega) (by have := zt_0; have := zt_1; omega)
    · skip
      refine w_cge_t dX9_isBoy_14 (t := 21) rfl (by omega) ?_
      refine w_ic dX9_isBoy_21 zi_0 ?_
      refine w_en dX9_isBoy_22 rfl ?_
      show ZW _ _ _ _ _ _ _ (5, [some (.ref 386), some (.int a0), none, none, none, none, none], [.int 0], M0)
      refine w_ine_f dX9_walk_5 (t := 10) rfl (by have := zt_0; omega) ?_
      refine w_ic dX9_walk_8 zi_m1 ?_
      refine w_en dX9_walk_9 rfl ?_
      exact ⟨_, _, rfl, (by have := zt_m1; omega), (by have := zt_m1; omega), hJ0, trivial⟩
set_option maxRecDepth 100000 in
theorem k_2421 {X : List Int32} {d N : Nat} {M0 : zM} (a0 : Int32) (a1 : Int32) (hN : N ≤ 600) (hB0 : zB N M0) : ZV X (d + 2) 2421 [.ref 386, .int a0, .int a1] M0 (zRI N [] M0 (-2147483648) (2147483647) (fun _ _ => True)) := by
  have hJ0 : zJ N [] M0 M0 := zJ_refl hB0
  refine ZV.of (ini := false) rfl (Nat.le_of_ble_eq_true rfl) (by decide +kernel) ?_
  have main : ∀ n : Nat,
      (∀ (M : zM) (v27_1 : Int32) (v27_2 : Int32) (v27_3 : Int32) (o27_4 : Option Value) (o27_5 : Option Value) (o27_6 : Option Value), zJ N [] M0 M → ((1 : Int) ≤ v27_1.toInt) → (v27_1.toInt ≤ 9999) → ((-1 : Int) ≤ v27_2.toInt) → (v27_2.toInt ≤ 2147483647) → ((0 : Int) ≤ v27_3.toInt) → (v27_3.toInt ≤ 12) → 4 * (12 - v27_3.toInt) + 58 < (n : Int) → ZW X (d + 1) 9 false (some .int) cX9_beds (zRI N [] M0 (-2147483648) (2147483647) (fun _ _ => True)) (27, [some (.ref 386), some (.int v27_1), some (.int v27_2), some (.int v27_3), o27_4, o27_5, o27_6], [], M)) ∧
      (∀ (M : zM) (v69_1 : Int32) (v69_2 : Int32) (v69_3 : Int32) (v69_4 : Int32) (v69_5 : Int32) (o69_6 : Option Value), zJ N [] M0 M → ((1 : Int) ≤ v69_1.toInt) → (v69_1.toInt ≤ 9999) → ((-1 : Int) ≤ v69_2.toInt) → (v69_2.toInt ≤ 2147483647) → ((-2147483648 : Int) ≤ v69_3.toInt) → (v69_3.toInt ≤ 2147483647) → ((-2147483648 : Int) ≤ v69_4.toInt) → (v69_4.toInt ≤ 2147483647) → ((0 : Int) ≤ v69_5.toInt) → (v69_5.toInt ≤ 12) → 4 * (12 - v69_5.toInt) + 1 < (n : Int) → ZW X (d + 1) 9 false (some .int) cX9_beds (zRI N [] M0 (-2147483648) (2147483647) (fun _ _ => True)) (69, [some (.ref 386), some (.int v69_1), some (.int v69_2), some (.int v69_3), some (.int v69_4), some (.int v69_5), o69_6], [], M)) := by
    intro n
    induction n with
    | zero =>
      exact ⟨(fun M v27_1 v27_2 v27_3 o27_4 o27_5 o27_6 hJ v27_10 v27_11 v27_20 v27_21 v27_30 v27_31 hn => absurd hn (by omega)), (fun M v69_1 v69_2 v69_3 v69_4 v69_5 o69_6 hJ v69_10 v69_11 v69_20 v69_21 v69_30 v69_31 v69_40 v69_41 v69_50 v69_51 hn => absurd hn (by omega))⟩
    | succ n ih =>
      obtain ⟨ih27, ih69⟩ := ih
      refine ⟨?_, ?_⟩
      · intro M v27_1 v27_2 v27_3 o27_4 o27_5 o27_6 hJ v27_10 v27_11 v27_20 v27_21 v27_30 v27_31 hn
        refine w_lo dX9_beds_27 rfl rfl rfl rfl ?_
        refine w_lo dX9_beds_28 rfl rfl rfl rfl ?_
        refine w_iv dX9_beds_29 rfl rfl (As := []) rfl rfl hJ.1.1 zs_386 (Nat.le_of_ble_eq_true rfl) ?_
        refine ZV.of (ini := false) rfl (Nat.le_of_ble_eq_true rfl) (by decide +kernel) ?_
        show ZW _ _ _ _ _ _ _ (0, [some (.ref 386)], [], M)
        refine w_lo dX9_many_0 rfl rfl rfl rfl ?_
        refine w_gf dX9_many_1 rfl hJ.1.1 zs_386 (zr_386_13 hJ.1) ?_
        refine w_lo dX9_many_4 rfl rfl rfl rfl ?_
        refine w_gfi dX9_many_5 rfl hJ.1 zs_386 (Nat.le_of_ble_eq_true rfl) zo_386_12 ?_
        intro x1 f2 h3 h4
        refine w_iai dX9_many_8 hJ.1 zs_388 (by omega) (by omega) zu_388 ?_
        intro x8 f5 h6 h7
        refine w_eni dX9_many_9 rfl rfl ?_
        show ZW _ _ _ _ _ _ _ (32, [some (.ref 386), some (.int v27_1), some (.int v27_2), some (.int v27_3), o27_4, o27_5, o27_6], [.int x8, .int v27_3], M)
        rcases zcut v27_3.toInt x8.toInt with h9 | h9
        · skip
          refine w_cge_f dX9_beds_32 (t := 61) rfl (by omega) ?_
          refine w_lo dX9_beds_35 rfl rfl rfl rfl ?_
          refine w_gf dX9_beds_36 rfl hJ.1.1 zs_386 (zr_386_15 hJ.1) ?_
          refine w_bi dX9_beds_39 (c := 12) (by decide) ?_
          refine w_lo dX9_beds_41 rfl rfl rfl rfl ?_
          refine w_gf dX9_beds_42 rfl hJ.1.1 zs_386 f2 ?_
          refine w_mulc dX9_beds_45 zt_12 (by have := zt_12; omega) ?_
          intro x10 h11
          have := zt_12
          refine w_lo dX9_beds_46 rfl rfl rfl rfl ?_
          refine w_add dX9_beds_47 (by omega) ?_
          intro x12 h13
          refine w_iai dX9_beds_48 hJ.1 zs_390 (by omega) (by omega) zu_390 ?_
          intro x17 f14 h15 h16
          refine w_lo dX9_beds_49 rfl rfl rfl rfl ?_
          rcases zcut v27_1.toInt x17.toInt with h18 | h18
          · skip
            refine w_cle_f dX9_beds_50 (t := 55) rfl (by omega) ?_
            refine w_ic dX9_beds_53 zi_m1 ?_
            refine w_en dX9_beds_54 rfl ?_
            exact ⟨_, _, rfl, (zbot _), (ztop _), hJ, trivial⟩
          · skip
            refine w_cle_t dX9_beds_50 (t := 55) rfl (by omega) ?_
            refine w_inc (kk := 3) dX9_beds_55 rfl (m := 1) (by decide) (by omega) ?_
            intro x19 h20
            refine ⟨_, rfl, ?_⟩
            show ZW _ _ _ _ _ _ _ (58, [some (.ref 386), some (.int v27_1), some (.int v27_2), some (.int x19), o27_4, o27_5, o27_6], [], M)
            refine w_gt dX9_beds_58 (t := 27) rfl ?_
            exact ih27 M v27_1 v27_2 x19 o27_4 o27_5 o27_6 hJ (by omega) (by omega) (by omega) (ztop _) (by omega) (by omega) (by omega)
        · skip
          refine w_cge_t dX9_beds_32 (t := 61) rfl (by omega) ?_
          refine w_ic dX9_beds_61 zi_0 ?_
          refine w_lo (ml' := [some (.ref 386), some (.int v27_1), some (.int v27_2), some (.int 0), o27_4, o27_5, o27_6]) dX9_beds_62 rfl rfl rfl rfl ?_
          refine w_ic dX9_beds_63 zi_0 ?_
          refine w_lo (ml' := [some (.ref 386), some (.int v27_1), some (.int v27_2), some (.int 0), some (.int 0), o27_5, o27_6]) dX9_beds_64 rfl rfl rfl rfl ?_
          refine w_ic dX9_beds_66 zi_0 ?_
          refine w_lo (ml' := [some (.ref 386), some (.int v27_1), some (.int v27_2), some (.int 0), some (.int 0), some (.int 0), o27_6]) dX9_beds_67 rfl rfl rfl rfl ?_
          exact ih69 M v27_1 v27_2 0 0 0 o27_6 hJ (by omega) (by omega) (by omega) (ztop _) (zbot _) (ztop _) (zbot _) (ztop _) (by have := zt_0; omega) (by have := zt_0; omega) (by have := zt_0; omega)
      · intro M v69_1 v69_2 v69_3 v69_4 v69_5 o69_6 hJ v69_10 v69_11 v69_20 v69_21 v69_30 v69_31 v69_40 v69_41 v69_50 v69_51 hn
        refine w_lo dX9_beds_69 rfl rfl rfl rfl ?_
        refine w_lo dX9_beds_71 rfl rfl rfl rfl ?_
        refine w_iv dX9_beds_72 rfl rfl (As := []) rfl rfl hJ.1.1 zs_386 (Nat.le_of_ble_eq_true rfl) ?_
        refine ZV.of (ini := false) rfl (Nat.le_of_ble_eq_true rfl) (by decide +kernel) ?_
        show ZW _ _ _ _ _ _ _ (0, [some (.ref 386)], [], M)
        refine w_lo dX9_many_0 rfl rfl rfl rfl ?_
        refine w_gf dX9_many_1 rfl hJ.1.1 zs_386 (zr_386_13 hJ.1) ?_
        refine w_lo dX9_many_4 rfl rfl rfl rfl ?_
        refine w_gfi dX9_many_5 rfl hJ.1 zs_386 (Nat.le_of_ble_eq_true rfl) zo_386_12 ?_
        intro x21 f22 h23 h24
        refine w_iai dX9_many_8 hJ.1 zs_388 (by omega) (by omega) zu_388 ?_
        intro x28 f25 h26 h27
        refine w_eni dX9_many_9 rfl rfl ?_
        show ZW _ _ _ _ _ _ _ (75, [some (.ref 386), some (.int v69_1), some (.int v69_2), some (.int v69_3), some (.int v69_4), some (.int v69_5), o69_6], [.int x28, .int v69_5], M)
        rcases zcut v69_5.toInt x28.toInt with h29 | h29
        · skip
          refine w_cge_f dX9_beds_75 (t := 139) rfl (by omega) ?_
          refine w_lo dX9_beds_78 rfl rfl rfl rfl ?_
          refine w_gf dX9_beds_79 rfl hJ.1.1 zs_386 (zr_386_15 hJ.1) ?_
          refine w_bi dX9_beds_82 (c := 12) (by decide) ?_
          refine w_lo dX9_beds_84 rfl rfl rfl rfl ?_
          refine w_gf dX9_beds_85 rfl hJ.1.1 zs_386 f22 ?_
          refine w_mulc dX9_beds_88 zt_12 (by have := zt_12; omega) ?_
          intro x30 h31
          have := zt_12
          refine w_lo dX9_beds_89 rfl rfl rfl rfl ?_
          refine w_gf dX9_beds_90 rfl hJ.1.1 zs_386 (zr_386_50 hJ.1) ?_
          refine w_lo dX9_beds_93 rfl rfl rfl rfl ?_
          refine w_iai dX9_beds_95 hJ.1 zs_419 (by omega) (by omega) zu_419 ?_
          intro x35 f32 h33 h34
          refine w_add dX9_beds_96 (by omega) ?_
          intro x36 h37
          refine w_iai dX9_beds_97 hJ.1 zs_390 (by omega) (by omega) zu_390 ?_
          intro x41 f38 h39 h40
          refine w_lo (ml' := [some (.ref 386), some (.int v69_1), some (.int v69_2), some (.int v69_3), some (.int v69_4), some (.int v69_5), some (.int x41)]) dX9_beds_98 rfl rfl rfl rfl ?_
          refine w_lo dX9_beds_100 rfl rfl rfl rfl ?_
          refine w_lo dX9_beds_102 rfl rfl rfl rfl ?_
          rcases zcut v69_4.toInt x41.toInt with h42 | h42
          · skip
            refine w_cgt_t dX9_beds_104 (t := 112) rfl (by omega) ?_
            refine w_lo dX9_beds_112 rfl rfl rfl rfl ?_
            refine w_lo dX9_beds_113 rfl rfl rfl rfl ?_
            rcases Int.decEq v69_3.toInt v69_2.toInt with h43 | h43
            · skip
              refine w_cne_t dX9_beds_114 (t := 120) rfl (by omega) ?_
              refine w_incT (kk := 3) dX9_beds_120 rfl ?_
              intro x44
              refine ⟨_, rfl, ?_⟩
              show ZW _ _ _ _ _ _ _ (123, [some (.ref 386), some (.int v69_1), some (.int v69_2), some (.int x44), some (.int v69_4), some (.int v69_5), some (.int x41)], [], M)
              refine w_lo dX9_beds_123 rfl rfl rfl rfl ?_
              refine w_lo (ml' := [some (.ref 386), some (.int v69_1), some (.int v69_2), some (.int x44), some (.int v69_1), some (.int v69_5), some (.int x41)]) dX9_beds_124 rfl rfl rfl rfl ?_
              refine w_lo dX9_beds_126 rfl rfl rfl rfl ?_
              refine w_lo dX9_beds_128 rfl rfl rfl rfl ?_
              refine w_puI dX9_beds_130 rfl rfl ?_
              intro x46
              refine w_lo (ml' := [some (.ref 386), some (.int v69_1), some (.int v69_2), some (.int x44), some (.int x46), some (.int v69_5), some (.int x41)]) dX9_beds_131 rfl rfl rfl rfl ?_
              refine w_inc (kk := 5) dX9_beds_133 rfl (m := 1) (by decide) (by omega) ?_
              intro x47 h48
              refine ⟨_, rfl, ?_⟩
              show ZW _ _ _ _ _ _ _ (136, [some (.ref 386), some (.int v69_1), some (.int v69_2), some (.int x44), some (.int x46), some (.int x47), some (.int x41)], [], M)
              refine w_gt dX9_beds_136 (t := 69) rfl ?_
              exact ih69 M v69_1 v69_2 x44 x46 x47 (some (.int x41)) hJ (by omega) (by omega) (by omega) (ztop _) (zbot _) (ztop _) (zbot _) (ztop _) (by omega) (by omega) (by omega)
            · skip
              refine w_cne_f dX9_beds_114 (t := 120) rfl (by omega) ?_
              refine w_lo dX9_beds_117 rfl rfl rfl rfl ?_
              refine w_eni dX9_beds_119 rfl rfl ?_
              exact ⟨_, _, rfl, (zbot _), (ztop _), hJ, trivial⟩
          · skip
            refine w_cgt_f dX9_beds_104 (t := 112) rfl (by omega) ?_
            refine w_lo dX9_beds_107 rfl rfl rfl rfl ?_
            rcases Int.decEq v69_5.toInt (0 : Int) with h49 | h49
            · skip
              refine w_ine_t dX9_beds_109 (t := 126) rfl (by omega) ?_
              refine w_lo dX9_beds_126 rfl rfl rfl rfl ?_
              refine w_lo dX9_beds_128 rfl rfl rfl rfl ?_
              refine w_puI dX9_beds_130 rfl rfl ?_
              intro x50
              refine w_lo (ml' := [some (.ref 386), some (.int v69_1), some (.int v69_2), some (.int v69_3), some (.int x50), some (.int v69_5), some (.int x41)]) dX9_beds_131 rfl rfl rfl rfl ?_
              refine w_inc (kk := 5) dX9_beds_133 rfl (m := 1) (by decide) (by omega) ?_
              intro x51 h52
              refine ⟨_, rfl, ?_⟩
              show ZW _ _ _ _ _ _ _ (136, [some (.ref 386), some (.int v69_1), some (.int v69_2), some (.int v69_3), some (.int x50), some (.int x51), some (.int x41)], [], M)
              refine w_gt dX9_beds_136 (t := 69) rfl ?_
              exact ih69 M v69_1 v69_2 v69_3 x50 x51 (some (.int x41)) hJ (by omega) (by omega) (by omega) (ztop _) (zbot _) (ztop _) (zbot _) (ztop _) (by omega) (by omega) (by omega)
            · skip
              refine w_ine_f dX9_beds_109 (t := 126) rfl (by omega) ?_
              refine w_lo dX9_beds_112 rfl rfl rfl rfl ?_
              refine w_lo dX9_beds_113 rfl rfl rfl rfl ?_
              rcases Int.decEq v69_3.toInt v69_2.toInt with h53 | h53
              · skip
                refine w_cne_t dX9_beds_114 (t := 120) rfl (by omega) ?_
                refine w_incT (kk := 3) dX9_beds_120 rfl ?_
                intro x54
                refine ⟨_, rfl, ?_⟩
                show ZW _ _ _ _ _ _ _ (123, [some (.ref 386), some (.int v69_1), some (.int v69_2), some (.int x54), some (.int v69_4), some (.int v69_5), some (.int x41)], [], M)
                refine w_lo dX9_beds_123 rfl rfl rfl rfl ?_
                refine w_lo (ml' := [some (.ref 386), some (.int v69_1), some (.int v69_2), some (.int x54), some (.int v69_1), some (.int v69_5), some (.int x41)]) dX9_beds_124 rfl rfl rfl rfl ?_
                refine w_lo dX9_beds_126 rfl rfl rfl rfl ?_
                refine w_lo dX9_beds_128 rfl rfl rfl rfl ?_
                refine w_puI dX9_beds_130 rfl rfl ?_
                intro x56
                refine w_lo (ml' := [some (.ref 386), some (.int v69_1), some (.int v69_2), some (.int x54), some (.int x56), some (.int v69_5), some (.int x41)]) dX9_beds_131 rfl rfl rfl rfl ?_
                refine w_inc (kk := 5) dX9_beds_133 rfl (m := 1) (by decide) (by omega) ?_
                intro x57 h58
                refine ⟨_, rfl, ?_⟩
                show ZW _ _ _ _ _ _ _ (136, [some (.ref 386), some (.int v69_1), some (.int v69_2), some (.int x54), some (.int x56), some (.int x57), some (.int x41)], [], M)
                refine w_gt dX9_beds_136 (t := 69) rfl ?_
                exact ih69 M v69_1 v69_2 x54 x56 x57 (some (.int x41)) hJ (by omega) (by omega) (by omega) (ztop _) (zbot _) (ztop _) (zbot _) (ztop _) (by omega) (by omega) (by omega)
              · skip
                refine w_cne_f dX9_beds_114 (t := 120) rfl (by omega) ?_
                refine w_lo dX9_beds_117 rfl rfl rfl rfl ?_
                refine w_eni dX9_beds_119 rfl rfl ?_
                exact ⟨_, _, rfl, (zbot _), (ztop _), hJ, trivial⟩
        · skip
          refine w_cge_t dX9_beds_75 (t := 139) rfl (by omega) ?_
          refine w_lo dX9_beds_139 rfl rfl rfl rfl ?_
          refine w_ic dX9_beds_140 zi_m1 ?_
          rcases Int.decEq v69_2.toInt (-1 : Int) with h59 | h59
          · skip
            refine w_cne_t dX9_beds_141 (t := 148) rfl (by have := zt_m1; omega) ?_
            refine w_ic dX9_beds_148 zi_m1 ?_
            refine w_en dX9_beds_149 rfl ?_
            exact ⟨_, _, rfl, (zbot _), (ztop _), hJ, trivial⟩
          · skip
            refine w_cne_f dX9_beds_141 (t := 148) rfl (by have := zt_m1; omega) ?_
            refine w_lo dX9_beds_144 rfl rfl rfl rfl ?_
            refine w_gt dX9_beds_145 (t := 149) rfl ?_
            refine w_eni dX9_beds_149 rfl rfl ?_
            exact ⟨_, _, rfl, (zbot _), (ztop _), hJ, trivial⟩
  obtain ⟨ih27, ih69⟩ := main 119
  show ZW _ _ _ _ _ _ _ (0, [some (.ref 386), some (.int a0), some (.int a1), none, none, none, none], [], M0)
  refine w_lo dX9_beds_0 rfl rfl rfl rfl ?_
  refine w_ic dX9_beds_1 zi_1 ?_
  refine w_si dX9_beds_2 (c := 9999) (by decide) ?_
  refine w_ss dX9_beds_5 rfl rfl (As := [.int a0, .int 1, .int 9999]) rfl rfl (Nat.le_of_ble_eq_true rfl) ?_
  refine ZV.of (ini := false) rfl (Nat.le_of_ble_eq_true rfl) (by decide +kernel) ?_
  show ZW _ _ _ _ _ _ _ (0, [some (.int a0), some (.int 1), some (.int 9999)], [], M0)
  refine w_lo dX9_is_0 rfl rfl rfl rfl ?_
  refine w_lo dX9_is_1 rfl rfl rfl rfl ?_
  rcases zcut a0.toInt (1 : Int) with h60 | h60
  · skip
    refine w_clt_t dX9_is_2 (t := 14) rfl (by have := zt_1; omega) ?_
    refine w_ic dX9_is_14 zi_0 ?_
    refine w_en dX9_is_15 rfl ?_
    show ZW _ _ _ _ _ _ _ (8, [some (.ref 386), some (.int a0), some (.int a1), none, none, none, none], [.int 0], M0)
    refine w_ieq_t dX9_beds_8 (t := 23) rfl (by have := zt_0; omega) ?_
    refine w_ic dX9_beds_23 zi_m1 ?_
    refine w_en dX9_beds_24 rfl ?_
    exact ⟨_, _, rfl, (zbot _), (ztop _), hJ0, trivial⟩
  · skip
    refine w_clt_f dX9_is_2 (t := 14) rfl (by have := zt_1; omega) ?_
    refine w_lo dX9_is_5 rfl rfl rfl rfl ?_
    refine w_lo dX9_is_6 rfl rfl rfl rfl ?_
    rcases zcut (9999 : Int) a0.toInt with h61 | h61
    · skip
      refine w_cgt_t dX9_is_7 (t := 14) rfl (by have := zt_9999; omega) ?_
      refine w_ic dX9_is_14 zi_0 ?_
      refine w_en dX9_is_15 rfl ?_
      show ZW _ _ _ _ _ _ _ (8, [some (.ref 386), some (.int a0), some (.int a1), none, none, none, none], [.int 0], M0)
      refine w_ieq_t dX9_beds_8 (t := 23) rfl (by have := zt_0; omega) ?_
      refine w_ic dX9_beds_23 zi_m1 ?_
      refine w_en dX9_beds_24 rfl ?_
      exact ⟨_, _, rfl, (zbot _), (ztop _), hJ0, trivial⟩
    · skip
      refine w_cgt_f dX9_is_7 (t := 14) rfl (by have := zt_9999; omega) ?_
      refine w_ic dX9_is_10 zi_1 ?_
      refine w_gt dX9_is_11 (t := 15) rfl ?_
      refine w_en dX9_is_15 rfl ?_
      show ZW _ _ _ _ _ _ _ (8, [some (.ref 386), some (.int a0), some (.int a1), none, none, none, none], [.int 1], M0)
      refine w_ieq_f dX9_beds_8 (t := 23) rfl (by have := zt_1; omega) ?_
      refine w_lo dX9_beds_11 rfl rfl rfl rfl ?_
      refine w_iv dX9_beds_12 rfl rfl (As := []) rfl rfl hJ0.1.1 zs_386 (Nat.le_of_ble_eq_true rfl) ?_
      refine ZV.of (ini := false) rfl (Nat.le_of_ble_eq_true rfl) (by decide +kernel) ?_
      show ZW _ _ _ _ _ _ _ (0, [some (.ref 386)], [], M0)
      refine w_lo dX9_many_0 rfl rfl rfl rfl ?_
      refine w_gf dX9_many_1 rfl hJ0.1.1 zs_386 (zr_386_13 hJ0.1) ?_
      refine w_lo dX9_many_4 rfl rfl rfl rfl ?_
      refine w_gfi dX9_many_5 rfl hJ0.1 zs_386 (Nat.le_of_ble_eq_true rfl) zo_386_12 ?_
      intro x62 f63 h64 h65
      refine w_iai dX9_many_8 hJ0.1 zs_388 (by omega) (by omega) zu_388 ?_
      intro x69 f66 h67 h68
      refine w_eni dX9_many_9 rfl rfl ?_
      show ZW _ _ _ _ _ _ _ (15, [some (.ref 386), some (.int a0), some (.int a1), none, none, none, none], [.int x69], M0)
      rcases Int.decEq x69.toInt (0 : Int) with h70 | h70
      · skip
        refine w_ieq_f dX9_beds_15 (t := 23) rfl (by omega) ?_
        refine w_lo dX9_beds_18 rfl rfl rfl rfl ?_
        refine w_ic dX9_beds_19 zi_m1 ?_
        rcases zcut a1.toInt (-1 : Int) with h71 | h71
        · skip
          refine w_cge_f dX9_beds_20 (t := 25) rfl (by have := zt_m1; omega) ?_
          refine w_ic dX9_beds_23 zi_m1 ?_
          refine w_en dX9_beds_24 rfl ?_
          exact ⟨_, _, rfl, (zbot _), (ztop _), hJ0, trivial⟩
        · skip
          refine w_cge_t dX9_beds_20 (t := 25) rfl (by have := zt_m1; omega) ?_
          refine w_ic dX9_beds_25 zi_0 ?_
          refine w_lo (ml' := [some (.ref 386), some (.int a0), some (.int a1), some (.int 0), none, none, none]) dX9_beds_26 rfl rfl rfl rfl ?_
          exact ih27 M0 a0 a1 0 none none none hJ0 (by omega) (by omega) (by omega) (ztop _) (by have := zt_0; omega) (by have := zt_0; omega) (by have := zt_0; omega)
      · skip
        refine w_ieq_t dX9_beds_15 (t := 23) rfl (by omega) ?_
        refine w_ic dX9_beds_23 zi_m1 ?_
        refine w_en dX9_beds_24 rfl ?_
        exact ⟨_, _, rfl, (zbot _), (ztop _), hJ0, trivial⟩
set_option maxRecDepth 100000 in
theorem k_2423 {X : List Int32} {d N : Nat} {M0 : zM}  (hN : N ≤ 600) (hB0 : zB N M0) : ZV X (d + 2) 2423 [.ref 386] M0 (zRI N [(439, 440, 1000), (386, 387, 81)] M0 (1) (198) (fun _ _ => True)) := by
  have hJ0 : zJ N [(439, 440, 1000), (386, 387, 81)] M0 M0 := zJ_refl hB0
  refine ZV.of (ini := false) rfl (Nat.le_of_ble_eq_true rfl) (by decide +kernel) ?_
  have main : ∀ n : Nat,
      (∀ (M : zM) (v30_1 : Int32) (o30_2 : Option Value) (o30_3 : Option Value) (u_30 : Int32), zJ N [(439, 440, 1000), (386, 387, 81)] M0 M → ((0 : Int) ≤ v30_1.toInt) → (v30_1.toInt ≤ 12) → (zvl M (386) 81 = some (.int u_30)) → (0 ≤ u_30.toInt) → (u_30.toInt ≤ 2 + 7 * v30_1.toInt) → 6 * (12 - v30_1.toInt) + 1282 < (n : Int) → ZW X (d + 1) 9 false (some .int) cX9_image (zRI N [(439, 440, 1000), (386, 387, 81)] M0 (1) (198) (fun _ _ => True)) (30, [some (.ref 386), some (.int v30_1), o30_2, o30_3], [], M)) ∧
      (∀ (M : zM) (v69_1 : Int32) (v69_2 : Int32) (o69_3 : Option Value) (s69_0 : Int32) (u_69 : Int32), zJ N [(439, 440, 1000), (386, 387, 81)] M0 M → ((0 : Int) ≤ v69_1.toInt) → (v69_1.toInt ≤ 11) → ((0 : Int) ≤ v69_2.toInt) → (v69_2.toInt ≤ 11) → ((-2147483648 : Int) ≤ s69_0.toInt) → (s69_0.toInt ≤ 9999) → (zvl M (386) 81 = some (.int u_69)) → (0 ≤ u_69.toInt) → (u_69.toInt ≤ 2 + 7 * v69_1.toInt) → 6 * (12 - v69_1.toInt) + 1281 < (n : Int) → ZW X (d + 1) 9 false (some .int) cX9_image (zRI N [(439, 440, 1000), (386, 387, 81)] M0 (1) (198) (fun _ _ => True)) (69, [some (.ref 386), some (.int v69_1), some (.int v69_2), o69_3], [.int s69_0], M)) ∧
      (∀ (M : zM) (v140_1 : Int32) (o140_2 : Option Value) (o140_3 : Option Value) (u_140 : Int32), zJ N [(439, 440, 1000), (386, 387, 81)] M0 M → ((0 : Int) ≤ v140_1.toInt) → (v140_1.toInt ≤ 11) → (zvl M (386) 81 = some (.int u_140)) → (0 ≤ u_140.toInt) → (u_140.toInt ≤ 86 + 2 * v140_1.toInt) → 6 * (11 - v140_1.toInt) + 1202 < (n : Int) → ZW X (d + 1) 9 false (some .int) cX9_image (zRI N [(439, 440, 1000), (386, 387, 81)] M0 (1) (198) (fun _ _ => True)) (140, [some (.ref 386), some (.int v140_1), o140_2, o140_3], [], M)) ∧
      (∀ (M : zM) (v181_1 : Int32) (v181_2 : Int32) (o181_3 : Option Value) (u_181 : Int32), zJ N [(439, 440, 1000), (386, 387, 81)] M0 M → ((0 : Int) ≤ v181_1.toInt) → (v181_1.toInt ≤ 250) → ((0 : Int) ≤ v181_2.toInt) → (v181_2.toInt ≤ 198) → (zvl M (386) 81 = some (.int u_181)) → (0 ≤ u_181.toInt) → (u_181.toInt ≤ 108) → 6 * (198 - v181_2.toInt) + 1 < (n : Int) → ZW X (d + 1) 9 false (some .int) cX9_image (zRI N [(439, 440, 1000), (386, 387, 81)] M0 (1) (198) (fun _ _ => True)) (181, [some (.ref 386), some (.int v181_1), some (.int v181_2), o181_3], [], M)) := by
    intro n
    induction n with
    | zero =>
      exact ⟨(fun M v30_1 o30_2 o30_3 u_30 hJ v30_10 v30_11 hfu_30 hru_300 hru_301 hn => absurd hn (by omega)), (fun M v69_1 v69_2 o69_3 s69_0 u_69 hJ v69_10 v69_11 v69_20 v69_21 s69_00 s69_01 hfu_69 hru_690 hru_691 hn => absurd hn (by omega)), (fun M v140_1 o140_2 o140_3 u_140 hJ v140_10 v140_11 hfu_140 hru_1400 hru_1401 hn => absurd hn (by omega)), (fun M v181_1 v181_2 o181_3 u_181 hJ v181_10 v181_11 v181_20 v181_21 hfu_181 hru_1810 hru_1811 hn => absurd hn (by omega))⟩
    | succ n ih =>
      obtain ⟨ih30, ih69, ih140, ih181⟩ := ih
      refine ⟨?_, ?_, ?_, ?_⟩
      · intro M v30_1 o30_2 o30_3 u_30 hJ v30_10 v30_11 hfu_30 hru_300 hru_301 hn
        refine w_lo dX9_image_30 rfl rfl rfl rfl ?_
        refine w_lo dX9_image_31 rfl rfl rfl rfl ?_
        refine w_iv dX9_image_32 rfl rfl (As := []) rfl rfl hJ.1.1 zs_386 (Nat.le_of_ble_eq_true rfl) ?_
        refine ZV.of (ini := false) rfl (Nat.le_of_ble_eq_true rfl) (by decide +kernel) ?_
        show ZW _ _ _ _ _ _ _ (0, [some (.ref 386)], [], M)
        refine w_lo dX9_many_0 rfl rfl rfl rfl ?_
        refine w_gf dX9_many_1 rfl hJ.1.1 zs_386 (zr_386_13 hJ.1) ?_
        refine w_lo dX9_many_4 rfl rfl rfl rfl ?_
        refine w_gfi dX9_many_5 rfl hJ.1 zs_386 (Nat.le_of_ble_eq_true rfl) zo_386_12 ?_
        intro x1 f2 h3 h4
        refine w_iai dX9_many_8 hJ.1 zs_388 (by omega) (by omega) zu_388 ?_
        intro x8 f5 h6 h7
        refine w_eni dX9_many_9 rfl rfl ?_
        show ZW _ _ _ _ _ _ _ (35, [some (.ref 386), some (.int v30_1), o30_2, o30_3], [.int x8, .int v30_1], M)
        rcases zcut v30_1.toInt x8.toInt with h9 | h9
        · skip
          refine w_cge_f dX9_image_35 (t := 138) rfl (by omega) ?_
          refine w_lo dX9_image_38 rfl rfl rfl rfl ?_
          refine w_gf dX9_image_39 rfl hJ.1.1 zs_386 (zr_386_50 hJ.1) ?_
          refine w_lo dX9_image_42 rfl rfl rfl rfl ?_
          refine w_iai dX9_image_43 hJ.1 zs_419 (by omega) (by omega) zu_419 ?_
          intro x13 f10 h11 h12
          refine w_lo (ml' := [some (.ref 386), some (.int v30_1), some (.int x13), o30_3]) dX9_image_44 rfl rfl rfl rfl ?_
          refine w_lo dX9_image_45 rfl rfl rfl rfl ?_
          refine w_gf dX9_image_46 rfl hJ.1.1 zs_386 (zr_386_57 hJ.1) ?_
          refine w_lo dX9_image_49 rfl rfl rfl rfl ?_
          refine w_iai dX9_image_50 hJ.1 zs_426 (by omega) (by omega) zu_426 ?_
          intro x17 f14 h15 h16
          refine w_si dX9_image_51 (c := 9999) (by decide) ?_
          rcases zcut (9999 : Int) x17.toInt with h18 | h18
          · skip
            refine w_cle_f dX9_image_54 (t := 63) rfl (by have := zt_9999; omega) ?_
            refine w_si dX9_image_57 (c := 9999) (by decide) ?_
            refine w_gt dX9_image_60 (t := 69) rfl ?_
            exact ih69 M v30_1 x13 o30_3 9999 u_30 hJ (by omega) (by omega) (by omega) (by omega) (zbot _) (by have := zt_9999; omega) hfu_30 (by omega) (by omega) (by have := zt_9999; omega)
          · skip
            refine w_cle_t dX9_image_54 (t := 63) rfl (by have := zt_9999; omega) ?_
            refine w_lo dX9_image_63 rfl rfl rfl rfl ?_
            refine w_gf dX9_image_64 rfl hJ.1.1 zs_386 (zr_386_57 hJ.1) ?_
            refine w_lo dX9_image_67 rfl rfl rfl rfl ?_
            refine w_ia dX9_image_68 hJ.1.1 zs_426 (znat (by omega)) f14 ?_
            exact ih69 M v30_1 x13 o30_3 x17 u_30 hJ (by omega) (by omega) (by omega) (by omega) (zbot _) (by omega) hfu_30 (by omega) (by omega) (by omega)
        · skip
          refine w_cge_t dX9_image_35 (t := 138) rfl (by omega) ?_
          refine w_ic dX9_image_138 zi_0 ?_
          refine w_lo (ml' := [some (.ref 386), some (.int 0), o30_2, o30_3]) dX9_image_139 rfl rfl rfl rfl ?_
          exact ih140 M 0 o30_2 o30_3 u_30 hJ (by have := zt_0; omega) (by have := zt_0; omega) hfu_30 (by have := zt_0; omega) (by have := zt_0; omega) (by have := zt_0; omega)
      · intro M v69_1 v69_2 o69_3 s69_0 u_69 hJ v69_10 v69_11 v69_20 v69_21 s69_00 s69_01 hfu_69 hru_690 hru_691 hn
        refine w_lo (ml' := [some (.ref 386), some (.int v69_1), some (.int v69_2), some (.int s69_0)]) dX9_image_69 rfl rfl rfl rfl ?_
        refine w_lo dX9_image_70 rfl rfl rfl rfl ?_
        refine w_lo dX9_image_71 rfl rfl rfl rfl ?_
        refine w_iv dX9_image_72 rfl rfl (As := [.int v69_2]) rfl rfl hJ.1.1 zs_386 (Nat.le_of_ble_eq_true rfl) ?_
        refine ZV.of (ini := false) rfl (Nat.le_of_ble_eq_true rfl) (by decide +kernel) ?_
        show ZW _ _ _ _ _ _ _ (0, [some (.ref 386), some (.int v69_2)], [], M)
        refine w_lo dX9_writes_0 rfl rfl rfl rfl ?_
        refine w_gf dX9_writes_1 rfl hJ.1.1 zs_386 (zr_386_80 hJ.1) ?_
        refine w_lo dX9_writes_4 rfl rfl rfl rfl ?_
        refine w_gf dX9_writes_5 rfl hJ.1.1 zs_386 hfu_69 ?_
        refine w_lo dX9_writes_8 rfl rfl rfl rfl ?_
        refine w_si dX9_writes_9 (c := 255) (by decide) ?_
        refine w_and dX9_writes_12 (m := 255) zt_255 (by omega) ?_
        intro x22 h23 h24
        refine w_isi dX9_writes_13 hJ zs_439 (by omega) (by omega) zu_439 (by omega) (by omega) (zIR_a (by omega) (by omega)) ?_
        intro M25 hJ26 f27 hn28
        refine w_lo dX9_writes_14 rfl rfl rfl rfl ?_
        refine w_pu dX9_writes_15 rfl rfl ?_
        have f29 := (hn28 (386) 81 (Or.inl (by omega))).trans (hfu_69)
        refine w_gf dX9_writes_16 rfl hJ26.1.1 zs_386 f29 ?_
        refine w_ic dX9_writes_19 zi_1 ?_
        refine w_add dX9_writes_20 (by have := zt_1; omega) ?_
        intro x30 h31
        have := zt_1
        refine w_pfi dX9_writes_21 rfl hJ26 zs_386 (Nat.le_of_ble_eq_true rfl) zo_386_81 (by omega) (by omega) (zIR_s (zIR_k (by omega) (by omega))) rfl rfl rfl ?_
        intro M32 hJ33 f34 hn35
        refine w_en dX9_writes_24 rfl ?_
        show ZW _ _ _ _ _ _ _ (75, [some (.ref 386), some (.int v69_1), some (.int v69_2), some (.int s69_0)], [], M32)
        refine w_lo dX9_image_75 rfl rfl rfl rfl ?_
        refine w_lo dX9_image_76 rfl rfl rfl rfl ?_
        refine w_gf dX9_image_77 rfl hJ33.1.1 zs_386 (zr_386_51 hJ33.1) ?_
        refine w_lo dX9_image_80 rfl rfl rfl rfl ?_
        refine w_iai dX9_image_81 hJ33.1 zs_420 (by omega) (by omega) zu_420 ?_
        intro x39 f36 h37 h38
        refine w_iv dX9_image_82 rfl rfl (As := [.int x39]) rfl rfl hJ33.1.1 zs_386 (Nat.le_of_ble_eq_true rfl) ?_
        refine ZV.of (ini := false) rfl (Nat.le_of_ble_eq_true rfl) (by decide +kernel) ?_
        show ZW _ _ _ _ _ _ _ (0, [some (.ref 386), some (.int x39)], [], M32)
        refine w_lo dX9_writes_0 rfl rfl rfl rfl ?_
        refine w_gf dX9_writes_1 rfl hJ33.1.1 zs_386 (zr_386_80 hJ33.1) ?_
        refine w_lo dX9_writes_4 rfl rfl rfl rfl ?_
        refine w_gf dX9_writes_5 rfl hJ33.1.1 zs_386 f34 ?_
        refine w_lo dX9_writes_8 rfl rfl rfl rfl ?_
        refine w_si dX9_writes_9 (c := 255) (by decide) ?_
        refine w_and dX9_writes_12 (m := 255) zt_255 (by omega) ?_
        intro x40 h41 h42
        refine w_isi dX9_writes_13 hJ33 zs_439 (by omega) (by omega) zu_439 (by omega) (by omega) (zIR_a (by omega) (by omega)) ?_
        intro M43 hJ44 f45 hn46
        refine w_lo dX9_writes_14 rfl rfl rfl rfl ?_
        refine w_pu dX9_writes_15 rfl rfl ?_
        have f47 := (hn46 (386) 81 (Or.inl (by omega))).trans (f34)
        refine w_gf dX9_writes_16 rfl hJ44.1.1 zs_386 f47 ?_
        refine w_ic dX9_writes_19 zi_1 ?_
        refine w_add dX9_writes_20 (by have := zt_1; omega) ?_
        intro x48 h49
        have := zt_1
        refine w_pfi dX9_writes_21 rfl hJ44 zs_386 (Nat.le_of_ble_eq_true rfl) zo_386_81 (by omega) (by omega) (zIR_s (zIR_k (by omega) (by omega))) rfl rfl rfl ?_
        intro M50 hJ51 f52 hn53
        refine w_en dX9_writes_24 rfl ?_
        show ZW _ _ _ _ _ _ _ (85, [some (.ref 386), some (.int v69_1), some (.int v69_2), some (.int s69_0)], [], M50)
        refine w_lo dX9_image_85 rfl rfl rfl rfl ?_
        refine w_lo dX9_image_86 rfl rfl rfl rfl ?_
        refine w_gf dX9_image_87 rfl hJ51.1.1 zs_386 (zr_386_52 hJ51.1) ?_
        refine w_lo dX9_image_90 rfl rfl rfl rfl ?_
        refine w_iai dX9_image_91 hJ51.1 zs_421 (by omega) (by omega) zu_421 ?_
        intro x57 f54 h55 h56
        refine w_ic dX9_image_92 zi_1 ?_
        refine w_add dX9_image_93 (by have := zt_1; omega) ?_
        intro x58 h59
        have := zt_1
        refine w_iv dX9_image_94 rfl rfl (As := [.int x58]) rfl rfl hJ51.1.1 zs_386 (Nat.le_of_ble_eq_true rfl) ?_
        refine ZV.of (ini := false) rfl (Nat.le_of_ble_eq_true rfl) (by decide +kernel) ?_
        show ZW _ _ _ _ _ _ _ (0, [some (.ref 386), some (.int x58)], [], M50)
        refine w_lo dX9_writes_0 rfl rfl rfl rfl ?_
        refine w_gf dX9_writes_1 rfl hJ51.1.1 zs_386 (zr_386_80 hJ51.1) ?_
        refine w_lo dX9_writes_4 rfl rfl rfl rfl ?_
        refine w_gf dX9_writes_5 rfl hJ51.1.1 zs_386 f52 ?_
        refine w_lo dX9_writes_8 rfl rfl rfl rfl ?_
        refine w_si dX9_writes_9 (c := 255) (by decide) ?_
        refine w_and dX9_writes_12 (m := 255) zt_255 (by omega) ?_
        intro x60 h61 h62
        refine w_isi dX9_writes_13 hJ51 zs_439 (by omega) (by omega) zu_439 (by omega) (by omega) (zIR_a (by omega) (by omega)) ?_
        intro M63 hJ64 f65 hn66
        refine w_lo dX9_writes_14 rfl rfl rfl rfl ?_
        refine w_pu dX9_writes_15 rfl rfl ?_
        have f67 := (hn66 (386) 81 (Or.inl (by omega))).trans (f52)
        refine w_gf dX9_writes_16 rfl hJ64.1.1 zs_386 f67 ?_
        refine w_ic dX9_writes_19 zi_1 ?_
        refine w_add dX9_writes_20 (by have := zt_1; omega) ?_
        intro x68 h69
        have := zt_1
        refine w_pfi dX9_writes_21 rfl hJ64 zs_386 (Nat.le_of_ble_eq_true rfl) zo_386_81 (by omega) (by omega) (zIR_s (zIR_k (by omega) (by omega))) rfl rfl rfl ?_
        intro M70 hJ71 f72 hn73
        refine w_en dX9_writes_24 rfl ?_
        show ZW _ _ _ _ _ _ _ (97, [some (.ref 386), some (.int v69_1), some (.int v69_2), some (.int s69_0)], [], M70)
        refine w_lo dX9_image_97 rfl rfl rfl rfl ?_
        refine w_lo dX9_image_98 rfl rfl rfl rfl ?_
        refine w_gf dX9_image_99 rfl hJ71.1.1 zs_386 (zr_386_53 hJ71.1) ?_
        refine w_lo dX9_image_102 rfl rfl rfl rfl ?_
        refine w_iai dX9_image_103 hJ71.1 zs_422 (by omega) (by omega) zu_422 ?_
        intro x77 f74 h75 h76
        refine w_iv dX9_image_104 rfl rfl (As := [.int x77]) rfl rfl hJ71.1.1 zs_386 (Nat.le_of_ble_eq_true rfl) ?_
        refine ZV.of (ini := false) rfl (Nat.le_of_ble_eq_true rfl) (by decide +kernel) ?_
        show ZW _ _ _ _ _ _ _ (0, [some (.ref 386), some (.int x77)], [], M70)
        refine w_lo dX9_writes_0 rfl rfl rfl rfl ?_
        refine w_gf dX9_writes_1 rfl hJ71.1.1 zs_386 (zr_386_80 hJ71.1) ?_
        refine w_lo dX9_writes_4 rfl rfl rfl rfl ?_
        refine w_gf dX9_writes_5 rfl hJ71.1.1 zs_386 f72 ?_
        refine w_lo dX9_writes_8 rfl rfl rfl rfl ?_
        refine w_si dX9_writes_9 (c := 255) (by decide) ?_
        refine w_and dX9_writes_12 (m := 255) zt_255 (by omega) ?_
        intro x78 h79 h80
        refine w_isi dX9_writes_13 hJ71 zs_439 (by omega) (by omega) zu_439 (by omega) (by omega) (zIR_a (by omega) (by omega)) ?_
        intro M81 hJ82 f83 hn84
        refine w_lo dX9_writes_14 rfl rfl rfl rfl ?_
        refine w_pu dX9_writes_15 rfl rfl ?_
        have f85 := (hn84 (386) 81 (Or.inl (by omega))).trans (f72)
        refine w_gf dX9_writes_16 rfl hJ82.1.1 zs_386 f85 ?_
        refine w_ic dX9_writes_19 zi_1 ?_
        refine w_add dX9_writes_20 (by have := zt_1; omega) ?_
        intro x86 h87
        have := zt_1
        refine w_pfi dX9_writes_21 rfl hJ82 zs_386 (Nat.le_of_ble_eq_true rfl) zo_386_81 (by omega) (by omega) (zIR_s (zIR_k (by omega) (by omega))) rfl rfl rfl ?_
        intro M88 hJ89 f90 hn91
        refine w_en dX9_writes_24 rfl ?_
        show ZW _ _ _ _ _ _ _ (107, [some (.ref 386), some (.int v69_1), some (.int v69_2), some (.int s69_0)], [], M88)
        refine w_lo dX9_image_107 rfl rfl rfl rfl ?_
        refine w_lo dX9_image_108 rfl rfl rfl rfl ?_
        refine w_gf dX9_image_109 rfl hJ89.1.1 zs_386 (zr_386_54 hJ89.1) ?_
        refine w_lo dX9_image_112 rfl rfl rfl rfl ?_
        refine w_iai dX9_image_113 hJ89.1 zs_423 (by omega) (by omega) zu_423 ?_
        intro x95 f92 h93 h94
        refine w_ic dX9_image_114 zi_1 ?_
        refine w_add dX9_image_115 (by have := zt_1; omega) ?_
        intro x96 h97
        have := zt_1
        refine w_iv dX9_image_116 rfl rfl (As := [.int x96]) rfl rfl hJ89.1.1 zs_386 (Nat.le_of_ble_eq_true rfl) ?_
        refine ZV.of (ini := false) rfl (Nat.le_of_ble_eq_true rfl) (by decide +kernel) ?_
        show ZW _ _ _ _ _ _ _ (0, [some (.ref 386), some (.int x96)], [], M88)
        refine w_lo dX9_writes_0 rfl rfl rfl rfl ?_
        refine w_gf dX9_writes_1 rfl hJ89.1.1 zs_386 (zr_386_80 hJ89.1) ?_
        refine w_lo dX9_writes_4 rfl rfl rfl rfl ?_
        refine w_gf dX9_writes_5 rfl hJ89.1.1 zs_386 f90 ?_
        refine w_lo dX9_writes_8 rfl rfl rfl rfl ?_
        refine w_si dX9_writes_9 (c := 255) (by decide) ?_
        refine w_and dX9_writes_12 (m := 255) zt_255 (by omega) ?_
        intro x98 h99 h100
        refine w_isi dX9_writes_13 hJ89 zs_439 (by omega) (by omega) zu_439 (by omega) (by omega) (zIR_a (by omega) (by omega)) ?_
        intro M101 hJ102 f103 hn104
        refine w_lo dX9_writes_14 rfl rfl rfl rfl ?_
        refine w_pu dX9_writes_15 rfl rfl ?_
        have f105 := (hn104 (386) 81 (Or.inl (by omega))).trans (f90)
        refine w_gf dX9_writes_16 rfl hJ102.1.1 zs_386 f105 ?_
        refine w_ic dX9_writes_19 zi_1 ?_
        refine w_add dX9_writes_20 (by have := zt_1; omega) ?_
        intro x106 h107
        have := zt_1
        refine w_pfi dX9_writes_21 rfl hJ102 zs_386 (Nat.le_of_ble_eq_true rfl) zo_386_81 (by omega) (by omega) (zIR_s (zIR_k (by omega) (by omega))) rfl rfl rfl ?_
        intro M108 hJ109 f110 hn111
        refine w_en dX9_writes_24 rfl ?_
        show ZW _ _ _ _ _ _ _ (119, [some (.ref 386), some (.int v69_1), some (.int v69_2), some (.int s69_0)], [], M108)
        refine w_lo dX9_image_119 rfl rfl rfl rfl ?_
        refine w_lo dX9_image_120 rfl rfl rfl rfl ?_
        refine w_bi dX9_image_121 (c := 8) (by decide) ?_
        refine w_puI dX9_image_123 rfl rfl ?_
        intro x112
        refine w_iv dX9_image_124 rfl rfl (As := [.int x112]) rfl rfl hJ109.1.1 zs_386 (Nat.le_of_ble_eq_true rfl) ?_
        refine ZV.of (ini := false) rfl (Nat.le_of_ble_eq_true rfl) (by decide +kernel) ?_
        show ZW _ _ _ _ _ _ _ (0, [some (.ref 386), some (.int x112)], [], M108)
        refine w_lo dX9_writes_0 rfl rfl rfl rfl ?_
        refine w_gf dX9_writes_1 rfl hJ109.1.1 zs_386 (zr_386_80 hJ109.1) ?_
        refine w_lo dX9_writes_4 rfl rfl rfl rfl ?_
        refine w_gf dX9_writes_5 rfl hJ109.1.1 zs_386 f110 ?_
        refine w_lo dX9_writes_8 rfl rfl rfl rfl ?_
        refine w_si dX9_writes_9 (c := 255) (by decide) ?_
        refine w_and dX9_writes_12 (m := 255) zt_255 (by omega) ?_
        intro x113 h114 h115
        refine w_isi dX9_writes_13 hJ109 zs_439 (by omega) (by omega) zu_439 (by omega) (by omega) (zIR_a (by omega) (by omega)) ?_
        intro M116 hJ117 f118 hn119
        refine w_lo dX9_writes_14 rfl rfl rfl rfl ?_
        refine w_pu dX9_writes_15 rfl rfl ?_
        have f120 := (hn119 (386) 81 (Or.inl (by omega))).trans (f110)
        refine w_gf dX9_writes_16 rfl hJ117.1.1 zs_386 f120 ?_
        refine w_ic dX9_writes_19 zi_1 ?_
        refine w_add dX9_writes_20 (by have := zt_1; omega) ?_
        intro x121 h122
        have := zt_1
        refine w_pfi dX9_writes_21 rfl hJ117 zs_386 (Nat.le_of_ble_eq_true rfl) zo_386_81 (by omega) (by omega) (zIR_s (zIR_k (by omega) (by omega))) rfl rfl rfl ?_
        intro M123 hJ124 f125 hn126
        refine w_en dX9_writes_24 rfl ?_
        show ZW _ _ _ _ _ _ _ (127, [some (.ref 386), some (.int v69_1), some (.int v69_2), some (.int s69_0)], [], M123)
        refine w_lo dX9_image_127 rfl rfl rfl rfl ?_
        refine w_lo dX9_image_128 rfl rfl rfl rfl ?_
        refine w_iv dX9_image_129 rfl rfl (As := [.int s69_0]) rfl rfl hJ124.1.1 zs_386 (Nat.le_of_ble_eq_true rfl) ?_
        refine ZV.of (ini := false) rfl (Nat.le_of_ble_eq_true rfl) (by decide +kernel) ?_
        show ZW _ _ _ _ _ _ _ (0, [some (.ref 386), some (.int s69_0)], [], M123)
        refine w_lo dX9_writes_0 rfl rfl rfl rfl ?_
        refine w_gf dX9_writes_1 rfl hJ124.1.1 zs_386 (zr_386_80 hJ124.1) ?_
        refine w_lo dX9_writes_4 rfl rfl rfl rfl ?_
        refine w_gf dX9_writes_5 rfl hJ124.1.1 zs_386 f125 ?_
        refine w_lo dX9_writes_8 rfl rfl rfl rfl ?_
        refine w_si dX9_writes_9 (c := 255) (by decide) ?_
        refine w_and dX9_writes_12 (m := 255) zt_255 (by omega) ?_
        intro x127 h128 h129
        refine w_isi dX9_writes_13 hJ124 zs_439 (by omega) (by omega) zu_439 (by omega) (by omega) (zIR_a (by omega) (by omega)) ?_
        intro M130 hJ131 f132 hn133
        refine w_lo dX9_writes_14 rfl rfl rfl rfl ?_
        refine w_pu dX9_writes_15 rfl rfl ?_
        have f134 := (hn133 (386) 81 (Or.inl (by omega))).trans (f125)
        refine w_gf dX9_writes_16 rfl hJ131.1.1 zs_386 f134 ?_
        refine w_ic dX9_writes_19 zi_1 ?_
        refine w_add dX9_writes_20 (by have := zt_1; omega) ?_
        intro x135 h136
        have := zt_1
        refine w_pfi dX9_writes_21 rfl hJ131 zs_386 (Nat.le_of_ble_eq_true rfl) zo_386_81 (by omega) (by omega) (zIR_s (zIR_k (by omega) (by omega))) rfl rfl rfl ?_
        intro M137 hJ138 f139 hn140
        refine w_en dX9_writes_24 rfl ?_
        show ZW _ _ _ _ _ _ _ (132, [some (.ref 386), some (.int v69_1), some (.int v69_2), some (.int s69_0)], [], M137)
        refine w_inc (kk := 1) dX9_image_132 rfl (m := 1) (by decide) (by omega) ?_
        intro x141 h142
        refine ⟨_, rfl, ?_⟩
        show ZW _ _ _ _ _ _ _ (135, [some (.ref 386), some (.int x141), some (.int v69_2), some (.int s69_0)], [], M137)
        refine w_gt dX9_image_135 (t := 30) rfl ?_
        exact ih30 M137 x141 (some (.int v69_2)) (some (.int s69_0)) x135 hJ138 (by omega) (by omega) f139 (by omega) (by omega) (by omega)
      · intro M v140_1 o140_2 o140_3 u_140 hJ v140_10 v140_11 hfu_140 hru_1400 hru_1401 hn
        refine w_lo dX9_image_140 rfl rfl rfl rfl ?_
        refine w_lo dX9_image_141 rfl rfl rfl rfl ?_
        refine w_iv dX9_image_142 rfl rfl (As := []) rfl rfl hJ.1.1 zs_386 (Nat.le_of_ble_eq_true rfl) ?_
        refine ZV.of (ini := false) rfl (Nat.le_of_ble_eq_true rfl) (by decide +kernel) ?_
        show ZW _ _ _ _ _ _ _ (0, [some (.ref 386)], [], M)
        refine w_lo dX9_many_0 rfl rfl rfl rfl ?_
        refine w_gf dX9_many_1 rfl hJ.1.1 zs_386 (zr_386_13 hJ.1) ?_
        refine w_lo dX9_many_4 rfl rfl rfl rfl ?_
        refine w_gfi dX9_many_5 rfl hJ.1 zs_386 (Nat.le_of_ble_eq_true rfl) zo_386_12 ?_
        intro x143 f144 h145 h146
        refine w_iai dX9_many_8 hJ.1 zs_388 (by omega) (by omega) zu_388 ?_
        intro x150 f147 h148 h149
        refine w_eni dX9_many_9 rfl rfl ?_
        show ZW _ _ _ _ _ _ _ (145, [some (.ref 386), some (.int v140_1), o140_2, o140_3], [.int x150, .int v140_1], M)
        refine w_ic dX9_image_145 zi_1 ?_
        refine w_sub dX9_image_146 (by have := zt_1; omega) ?_
        intro x151 h152
        have := zt_1
        rcases zcut v140_1.toInt x151.toInt with h153 | h153
        · skip
          refine w_cge_f dX9_image_147 (t := 176) rfl (by omega) ?_
          refine w_lo dX9_image_150 rfl rfl rfl rfl ?_
          refine w_lo dX9_image_151 rfl rfl rfl rfl ?_
          refine w_gf dX9_image_152 rfl hJ.1.1 zs_386 (zr_386_60 hJ.1) ?_
          refine w_lo dX9_image_155 rfl rfl rfl rfl ?_
          refine w_iai dX9_image_156 hJ.1 zs_429 (by omega) (by omega) zu_429 ?_
          intro x157 f154 h155 h156
          refine w_iv dX9_image_157 rfl rfl (As := [.int x157]) rfl rfl hJ.1.1 zs_386 (Nat.le_of_ble_eq_true rfl) ?_
          refine ZV.of (ini := false) rfl (Nat.le_of_ble_eq_true rfl) (by decide +kernel) ?_
          show ZW _ _ _ _ _ _ _ (0, [some (.ref 386), some (.int x157)], [], M)
          refine w_lo dX9_writes_0 rfl rfl rfl rfl ?_
          refine w_gf dX9_writes_1 rfl hJ.1.1 zs_386 (zr_386_80 hJ.1) ?_
          refine w_lo dX9_writes_4 rfl rfl rfl rfl ?_
          refine w_gf dX9_writes_5 rfl hJ.1.1 zs_386 hfu_140 ?_
          refine w_lo dX9_writes_8 rfl rfl rfl rfl ?_
          refine w_si dX9_writes_9 (c := 255) (by decide) ?_
          refine w_and dX9_writes_12 (m := 255) zt_255 (by omega) ?_
          intro x158 h159 h160
          refine w_isi dX9_writes_13 hJ zs_439 (by omega) (by omega) zu_439 (by omega) (by omega) (zIR_a (by omega) (by omega)) ?_
          intro M161 hJ162 f163 hn164
          refine w_lo dX9_writes_14 rfl rfl rfl rfl ?_
          refine w_pu dX9_writes_15 rfl rfl ?_
          have f165 := (hn164 (386) 81 (Or.inl (by omega))).trans (hfu_140)
          refine w_gf dX9_writes_16 rfl hJ162.1.1 zs_386 f165 ?_
          refine w_ic dX9_writes_19 zi_1 ?_
          refine w_add dX9_writes_20 (by have := zt_1; omega) ?_
          intro x166 h167
          have := zt_1
          refine w_pfi dX9_writes_21 rfl hJ162 zs_386 (Nat.le_of_ble_eq_true rfl) zo_386_81 (by omega) (by omega) (zIR_s (zIR_k (by omega) (by omega))) rfl rfl rfl ?_
          intro M168 hJ169 f170 hn171
          refine w_en dX9_writes_24 rfl ?_
          show ZW _ _ _ _ _ _ _ (160, [some (.ref 386), some (.int v140_1), o140_2, o140_3], [], M168)
          refine w_lo dX9_image_160 rfl rfl rfl rfl ?_
          refine w_lo dX9_image_161 rfl rfl rfl rfl ?_
          refine w_gf dX9_image_162 rfl hJ169.1.1 zs_386 (zr_386_61 hJ169.1) ?_
          refine w_lo dX9_image_165 rfl rfl rfl rfl ?_
          refine w_iai dX9_image_166 hJ169.1 zs_430 (by omega) (by omega) zu_430 ?_
          intro x175 f172 h173 h174
          refine w_iv dX9_image_167 rfl rfl (As := [.int x175]) rfl rfl hJ169.1.1 zs_386 (Nat.le_of_ble_eq_true rfl) ?_
          refine ZV.of (ini := false) rfl (Nat.le_of_ble_eq_true rfl) (by decide +kernel) ?_
          show ZW _ _ _ _ _ _ _ (0, [some (.ref 386), some (.int x175)], [], M168)
          refine w_lo dX9_writes_0 rfl rfl rfl rfl ?_
          refine w_gf dX9_writes_1 rfl hJ169.1.1 zs_386 (zr_386_80 hJ169.1) ?_
          refine w_lo dX9_writes_4 rfl rfl rfl rfl ?_
          refine w_gf dX9_writes_5 rfl hJ169.1.1 zs_386 f170 ?_
          refine w_lo dX9_writes_8 rfl rfl rfl rfl ?_
          refine w_si dX9_writes_9 (c := 255) (by decide) ?_
          refine w_and dX9_writes_12 (m := 255) zt_255 (by omega) ?_
          intro x176 h177 h178
          refine w_isi dX9_writes_13 hJ169 zs_439 (by omega) (by omega) zu_439 (by omega) (by omega) (zIR_a (by omega) (by omega)) ?_
          intro M179 hJ180 f181 hn182
          refine w_lo dX9_writes_14 rfl rfl rfl rfl ?_
          refine w_pu dX9_writes_15 rfl rfl ?_
          have f183 := (hn182 (386) 81 (Or.inl (by omega))).trans (f170)
          refine w_gf dX9_writes_16 rfl hJ180.1.1 zs_386 f183 ?_
          refine w_ic dX9_writes_19 zi_1 ?_
          refine w_add dX9_writes_20 (by have := zt_1; omega) ?_
          intro x184 h185
          have := zt_1
          refine w_pfi dX9_writes_21 rfl hJ180 zs_386 (Nat.le_of_ble_eq_true rfl) zo_386_81 (by omega) (by omega) (zIR_s (zIR_k (by omega) (by omega))) rfl rfl rfl ?_
          intro M186 hJ187 f188 hn189
          refine w_en dX9_writes_24 rfl ?_
          show ZW _ _ _ _ _ _ _ (170, [some (.ref 386), some (.int v140_1), o140_2, o140_3], [], M186)
          refine w_inc (kk := 1) dX9_image_170 rfl (m := 1) (by decide) (by omega) ?_
          intro x190 h191
          refine ⟨_, rfl, ?_⟩
          show ZW _ _ _ _ _ _ _ (173, [some (.ref 386), some (.int x190), o140_2, o140_3], [], M186)
          refine w_gt dX9_image_173 (t := 140) rfl ?_
          exact ih140 M186 x190 o140_2 o140_3 x184 hJ187 (by omega) (by omega) f188 (by omega) (by omega) (by omega)
        · skip
          refine w_cge_t dX9_image_147 (t := 176) rfl (by omega) ?_
          refine w_bi dX9_image_176 (c := 89) (by decide) ?_
          refine w_lo (ml' := [some (.ref 386), some (.int 89), o140_2, o140_3]) dX9_image_178 rfl rfl rfl rfl ?_
          refine w_ic dX9_image_179 zi_0 ?_
          refine w_lo (ml' := [some (.ref 386), some (.int 89), some (.int 0), o140_3]) dX9_image_180 rfl rfl rfl rfl ?_
          exact ih181 M 89 0 o140_3 u_140 hJ (by have := zt_89; omega) (by have := zt_89; omega) (by have := zt_0; omega) (by have := zt_0; omega) hfu_140 (by have := zt_89; have := zt_0; omega) (by have := zt_89; have := zt_0; omega) (by have := zt_89; have := zt_0; omega)
      · intro M v181_1 v181_2 o181_3 u_181 hJ v181_10 v181_11 v181_20 v181_21 hfu_181 hru_1810 hru_1811 hn
        refine w_lo dX9_image_181 rfl rfl rfl rfl ?_
        refine w_lo dX9_image_182 rfl rfl rfl rfl ?_
        refine w_gf dX9_image_183 rfl hJ.1.1 zs_386 hfu_181 ?_
        rcases zcut v181_2.toInt u_181.toInt with h192 | h192
        · skip
          refine w_cge_f dX9_image_186 (t := 210) rfl (by omega) ?_
          refine w_ic dX9_image_189 zi_5 ?_
          refine w_lo dX9_image_190 rfl rfl rfl rfl ?_
          refine w_mulc dX9_image_191 zt_5 (by have := zt_5; omega) ?_
          intro x193 h194
          have := zt_5
          refine w_lo dX9_image_192 rfl rfl rfl rfl ?_
          refine w_gf dX9_image_193 rfl hJ.1.1 zs_386 (zr_386_80 hJ.1) ?_
          refine w_lo dX9_image_196 rfl rfl rfl rfl ?_
          refine w_iai dX9_image_197 hJ.1 zs_439 (by omega) (by omega) zu_439 ?_
          intro x198 f195 h196 h197
          refine w_add dX9_image_198 (by omega) ?_
          intro x199 h200
          refine w_si dX9_image_199 (c := 251) (by decide) ?_
          refine w_remP dX9_image_202 (by omega) (by have := zt_251; omega) ?_
          intro x201 h202 h203 h204
          have := zt_251
          refine w_lo (ml' := [some (.ref 386), some (.int x201), some (.int v181_2), o181_3]) dX9_image_203 rfl rfl rfl rfl ?_
          refine w_inc (kk := 2) dX9_image_204 rfl (m := 1) (by decide) (by omega) ?_
          intro x205 h206
          refine ⟨_, rfl, ?_⟩
          show ZW _ _ _ _ _ _ _ (207, [some (.ref 386), some (.int x201), some (.int x205), o181_3], [], M)
          refine w_gt dX9_image_207 (t := 181) rfl ?_
          exact ih181 M x201 x205 o181_3 u_181 hJ (by omega) (by omega) (by omega) (by omega) hfu_181 (by omega) (by omega) (by omega)
        · skip
          refine w_cge_t dX9_image_186 (t := 210) rfl (by omega) ?_
          refine w_lo dX9_image_210 rfl rfl rfl rfl ?_
          refine w_lo dX9_image_211 rfl rfl rfl rfl ?_
          refine w_iv dX9_image_212 rfl rfl (As := [.int v181_1]) rfl rfl hJ.1.1 zs_386 (Nat.le_of_ble_eq_true rfl) ?_
          refine ZV.of (ini := false) rfl (Nat.le_of_ble_eq_true rfl) (by decide +kernel) ?_
          show ZW _ _ _ _ _ _ _ (0, [some (.ref 386), some (.int v181_1)], [], M)
          refine w_lo dX9_writes_0 rfl rfl rfl rfl ?_
          refine w_gf dX9_writes_1 rfl hJ.1.1 zs_386 (zr_386_80 hJ.1) ?_
          refine w_lo dX9_writes_4 rfl rfl rfl rfl ?_
          refine w_gf dX9_writes_5 rfl hJ.1.1 zs_386 hfu_181 ?_
          refine w_lo dX9_writes_8 rfl rfl rfl rfl ?_
          refine w_si dX9_writes_9 (c := 255) (by decide) ?_
          refine w_and dX9_writes_12 (m := 255) zt_255 (by omega) ?_
          intro x207 h208 h209
          refine w_isi dX9_writes_13 hJ zs_439 (by omega) (by omega) zu_439 (by omega) (by omega) (zIR_a (by omega) (by omega)) ?_
          intro M210 hJ211 f212 hn213
          refine w_lo dX9_writes_14 rfl rfl rfl rfl ?_
          refine w_pu dX9_writes_15 rfl rfl ?_
          have f214 := (hn213 (386) 81 (Or.inl (by omega))).trans (hfu_181)
          refine w_gf dX9_writes_16 rfl hJ211.1.1 zs_386 f214 ?_
          refine w_ic dX9_writes_19 zi_1 ?_
          refine w_add dX9_writes_20 (by have := zt_1; omega) ?_
          intro x215 h216
          have := zt_1
          refine w_pfi dX9_writes_21 rfl hJ211 zs_386 (Nat.le_of_ble_eq_true rfl) zo_386_81 (by omega) (by omega) (zIR_s (zIR_k (by omega) (by omega))) rfl rfl rfl ?_
          intro M217 hJ218 f219 hn220
          refine w_en dX9_writes_24 rfl ?_
          show ZW _ _ _ _ _ _ _ (215, [some (.ref 386), some (.int v181_1), some (.int v181_2), o181_3], [], M217)
          refine w_lo dX9_image_215 rfl rfl rfl rfl ?_
          refine w_gf dX9_image_216 rfl hJ218.1.1 zs_386 f219 ?_
          refine w_eni dX9_image_219 rfl rfl ?_
          exact ⟨_, _, rfl, (by omega), (by omega), hJ218, trivial⟩
  obtain ⟨ih30, ih69, ih140, ih181⟩ := main 1371
  show ZW _ _ _ _ _ _ _ (0, [some (.ref 386), none, none, none], [], M0)
  refine w_lo dX9_image_0 rfl rfl rfl rfl ?_
  refine w_ic dX9_image_1 zi_0 ?_
  refine w_pfi dX9_image_2 rfl hJ0 zs_386 (Nat.le_of_ble_eq_true rfl) zo_386_81 (by have := zt_0; omega) (by have := zt_0; omega) (zIR_s (zIR_k (by omega) (by omega))) rfl rfl rfl ?_
  intro M221 hJ222 f223 hn224
  refine w_lo dX9_image_5 rfl rfl rfl rfl ?_
  refine w_lo dX9_image_6 rfl rfl rfl rfl ?_
  refine w_gf dX9_image_7 rfl hJ222.1.1 zs_386 (zr_386_49 hJ222.1) ?_
  refine w_ic dX9_image_10 zi_0 ?_
  refine w_iai dX9_image_11 hJ222.1 zs_418 (by have := zt_0; omega) (by have := zt_0; omega) zu_418 ?_
  intro x228 f225 h226 h227
  refine w_bi dX9_image_12 (c := 8) (by decide) ?_
  refine w_puI dX9_image_14 rfl rfl ?_
  intro x229
  refine w_iv dX9_image_15 rfl rfl (As := [.int x229]) rfl rfl hJ222.1.1 zs_386 (Nat.le_of_ble_eq_true rfl) ?_
  refine ZV.of (ini := false) rfl (Nat.le_of_ble_eq_true rfl) (by decide +kernel) ?_
  show ZW _ _ _ _ _ _ _ (0, [some (.ref 386), some (.int x229)], [], M221)
  refine w_lo dX9_writes_0 rfl rfl rfl rfl ?_
  refine w_gf dX9_writes_1 rfl hJ222.1.1 zs_386 (zr_386_80 hJ222.1) ?_
  refine w_lo dX9_writes_4 rfl rfl rfl rfl ?_
  refine w_gf dX9_writes_5 rfl hJ222.1.1 zs_386 f223 ?_
  refine w_lo dX9_writes_8 rfl rfl rfl rfl ?_
  refine w_si dX9_writes_9 (c := 255) (by decide) ?_
  refine w_and dX9_writes_12 (m := 255) zt_255 (by omega) ?_
  intro x230 h231 h232
  refine w_isi dX9_writes_13 hJ222 zs_439 (by have := zt_0; omega) (by have := zt_0; omega) zu_439 (by omega) (by omega) (zIR_a (by omega) (by omega)) ?_
  intro M233 hJ234 f235 hn236
  refine w_lo dX9_writes_14 rfl rfl rfl rfl ?_
  refine w_pu dX9_writes_15 rfl rfl ?_
  have f237 := (hn236 (386) 81 (Or.inl (by omega))).trans (f223)
  refine w_gf dX9_writes_16 rfl hJ234.1.1 zs_386 f237 ?_
  refine w_ic dX9_writes_19 zi_1 ?_
  refine w_pu (st' := [.int 1, .ref 386]) dX9_writes_20 rfl rfl ?_
  refine w_pfi dX9_writes_21 rfl hJ234 zs_386 (Nat.le_of_ble_eq_true rfl) zo_386_81 (by have := zt_1; omega) (by have := zt_1; omega) (zIR_s (zIR_k (by omega) (by omega))) rfl rfl rfl ?_
  intro M238 hJ239 f240 hn241
  refine w_en dX9_writes_24 rfl ?_
  show ZW _ _ _ _ _ _ _ (18, [some (.ref 386), none, none, none], [], M238)
  refine w_lo dX9_image_18 rfl rfl rfl rfl ?_
  refine w_lo dX9_image_19 rfl rfl rfl rfl ?_
  refine w_gf dX9_image_20 rfl hJ239.1.1 zs_386 (zr_386_49 hJ239.1) ?_
  refine w_ic dX9_image_23 zi_0 ?_
  have f245 := (hn241 (418) (0 : Int32).toInt.toNat (Or.inl (by omega))).trans ((hn236 (418) (0 : Int32).toInt.toNat (Or.inl (by omega))).trans (f225))
  refine w_ia dX9_image_24 hJ239.1.1 zs_418 (znat (by have := zt_0; omega)) f245 ?_
  refine w_iv dX9_image_25 rfl rfl (As := [.int x228]) rfl rfl hJ239.1.1 zs_386 (Nat.le_of_ble_eq_true rfl) ?_
  refine ZV.of (ini := false) rfl (Nat.le_of_ble_eq_true rfl) (by decide +kernel) ?_
  show ZW _ _ _ _ _ _ _ (0, [some (.ref 386), some (.int x228)], [], M238)
  refine w_lo dX9_writes_0 rfl rfl rfl rfl ?_
  refine w_gf dX9_writes_1 rfl hJ239.1.1 zs_386 (zr_386_80 hJ239.1) ?_
  refine w_lo dX9_writes_4 rfl rfl rfl rfl ?_
  refine w_gf dX9_writes_5 rfl hJ239.1.1 zs_386 f240 ?_
  refine w_lo dX9_writes_8 rfl rfl rfl rfl ?_
  refine w_si dX9_writes_9 (c := 255) (by decide) ?_
  refine w_and dX9_writes_12 (m := 255) zt_255 (by omega) ?_
  intro x246 h247 h248
  refine w_isi dX9_writes_13 hJ239 zs_439 (by have := zt_1; omega) (by have := zt_1; omega) zu_439 (by omega) (by omega) (zIR_a (by omega) (by omega)) ?_
  intro M249 hJ250 f251 hn252
  refine w_lo dX9_writes_14 rfl rfl rfl rfl ?_
  refine w_pu dX9_writes_15 rfl rfl ?_
  have f253 := (hn252 (386) 81 (Or.inl (by omega))).trans (f240)
  refine w_gf dX9_writes_16 rfl hJ250.1.1 zs_386 f253 ?_
  refine w_ic dX9_writes_19 zi_1 ?_
  refine w_pu (st' := [.int 2, .ref 386]) dX9_writes_20 rfl rfl ?_
  refine w_pfi dX9_writes_21 rfl hJ250 zs_386 (Nat.le_of_ble_eq_true rfl) zo_386_81 (by have := zt_2; omega) (by have := zt_2; omega) (zIR_s (zIR_k (by omega) (by omega))) rfl rfl rfl ?_
  intro M254 hJ255 f256 hn257
  refine w_en dX9_writes_24 rfl ?_
  show ZW _ _ _ _ _ _ _ (28, [some (.ref 386), none, none, none], [], M254)
  refine w_ic dX9_image_28 zi_0 ?_
  refine w_lo (ml' := [some (.ref 386), some (.int 0), none, none]) dX9_image_29 rfl rfl rfl rfl ?_
  exact ih30 M254 0 none none 2 hJ255 (by have := zt_0; omega) (by have := zt_0; omega) f256 (by have := zt_0; have := zt_2; omega) (by have := zt_0; have := zt_2; omega) (by have := zt_0; have := zt_2; omega)
set_option maxRecDepth 100000 in
theorem k_2425 {X : List Int32} {d N : Nat} {M0 : zM} (a0 : Int32) (hN : N ≤ 600) (hB0 : zB N M0) : ZV X (d + 2) 2425 [.ref 386, .int a0] M0 (zRI N [] M0 (-1) (255) (fun _ _ => True)) := by
  have hJ0 : zJ N [] M0 M0 := zJ_refl hB0
  refine ZV.of (ini := false) rfl (Nat.le_of_ble_eq_true rfl) (by decide +kernel) ?_
  show ZW _ _ _ _ _ _ _ (0, [some (.ref 386), some (.int a0)], [], M0)
  refine w_lo dX9_octet_0 rfl rfl rfl rfl ?_
  refine w_ic dX9_octet_1 zi_0 ?_
  refine w_lo dX9_octet_2 rfl rfl rfl rfl ?_
  refine w_gfi dX9_octet_3 rfl hJ0.1 zs_386 (Nat.le_of_ble_eq_true rfl) zo_386_81 ?_
  intro x1 f2 h3 h4
  refine w_ic dX9_octet_6 zi_1 ?_
  refine w_sub dX9_octet_7 (by have := zt_1; omega) ?_
  intro x5 h6
  have := zt_1
  refine w_ss dX9_octet_8 rfl rfl (As := [.int a0, .int 0, .int x5]) rfl rfl (Nat.le_of_ble_eq_true rfl) ?_
  refine ZV.of (ini := false) rfl (Nat.le_of_ble_eq_true rfl) (by decide +kernel) ?_
  show ZW _ _ _ _ _ _ _ (0, [some (.int a0), some (.int 0), some (.int x5)], [], M0)
  refine w_lo dX9_is_0 rfl rfl rfl rfl ?_
  refine w_lo dX9_is_1 rfl rfl rfl rfl ?_
  rcases zcut a0.toInt (0 : Int) with h7 | h7
  · skip
    refine w_clt_t dX9_is_2 (t := 14) rfl (by have := zt_0; omega) ?_
    refine w_ic dX9_is_14 zi_0 ?_
    refine w_en dX9_is_15 rfl ?_
    show ZW _ _ _ _ _ _ _ (11, [some (.ref 386), some (.int a0)], [.int 0], M0)
    refine w_ieq_t dX9_octet_11 (t := 23) rfl (by have := zt_0; omega) ?_
    refine w_ic dX9_octet_23 zi_m1 ?_
    refine w_en dX9_octet_24 rfl ?_
    exact ⟨_, _, rfl, (by have := zt_m1; omega), (by have := zt_m1; omega), hJ0, trivial⟩
  · skip
    refine w_clt_f dX9_is_2 (t := 14) rfl (by have := zt_0; omega) ?_
    refine w_lo dX9_is_5 rfl rfl rfl rfl ?_
    refine w_lo dX9_is_6 rfl rfl rfl rfl ?_
    rcases zcut x5.toInt a0.toInt with h8 | h8
    · skip
      refine w_cgt_t dX9_is_7 (t := 14) rfl (by omega) ?_
      refine w_ic dX9_is_14 zi_0 ?_
      refine w_en dX9_is_15 rfl ?_
      show ZW _ _ _ _ _ _ _ (11, [some (.ref 386), some (.int a0)], [.int 0], M0)
      refine w_ieq_t dX9_octet_11 (t := 23) rfl (by have := zt_0; omega) ?_
      refine w_ic dX9_octet_23 zi_m1 ?_
      refine w_en dX9_octet_24 rfl ?_
      exact ⟨_, _, rfl, (by have := zt_m1; omega), (by have := zt_m1; omega), hJ0, trivial⟩
    · skip
      refine w_cgt_f dX9_is_7 (t := 14) rfl (by omega) ?_
      refine w_ic dX9_is_10 zi_1 ?_
      refine w_gt dX9_is_11 (t := 15) rfl ?_
      refine w_en dX9_is_15 rfl ?_
      show ZW _ _ _ _ _ _ _ (11, [some (.ref 386), some (.int a0)], [.int 1], M0)
      refine w_ieq_f dX9_octet_11 (t := 23) rfl (by have := zt_1; omega) ?_
      refine w_lo dX9_octet_14 rfl rfl rfl rfl ?_
      refine w_gf dX9_octet_15 rfl hJ0.1.1 zs_386 (zr_386_80 hJ0.1) ?_
      refine w_lo dX9_octet_18 rfl rfl rfl rfl ?_
      refine w_iai dX9_octet_19 hJ0.1 zs_439 (by omega) (by omega) zu_439 ?_
      intro x12 f9 h10 h11
      refine w_gt dX9_octet_20 (t := 24) rfl ?_
      refine w_eni dX9_octet_24 rfl rfl ?_
      exact ⟨_, _, rfl, (by omega), (by omega), hJ0, trivial⟩
set_option maxRecDepth 100000 in
theorem k_2428 {X : List Int32} {d N : Nat} {M0 : zM}  (hN : N ≤ 600) (hB0 : zB N M0) : ZV X (d + 2) 2428 [.ref 386] M0 (zRI N [] M0 (0) (11) (fun _ _ => True)) := by
  have hJ0 : zJ N [] M0 M0 := zJ_refl hB0
  refine ZV.of (ini := false) rfl (Nat.le_of_ble_eq_true rfl) (by decide +kernel) ?_
  show ZW _ _ _ _ _ _ _ (0, [some (.ref 386)], [], M0)
  refine w_lo dX9_knotsMany_0 rfl rfl rfl rfl ?_
  refine w_iv dX9_knotsMany_1 rfl rfl (As := []) rfl rfl hJ0.1.1 zs_386 (Nat.le_of_ble_eq_true rfl) ?_
  refine ZV.of (ini := false) rfl (Nat.le_of_ble_eq_true rfl) (by decide +kernel) ?_
  show ZW _ _ _ _ _ _ _ (0, [some (.ref 386)], [], M0)
  refine w_lo dX9_many_0 rfl rfl rfl rfl ?_
  refine w_gf dX9_many_1 rfl hJ0.1.1 zs_386 (zr_386_13 hJ0.1) ?_
  refine w_lo dX9_many_4 rfl rfl rfl rfl ?_
  refine w_gfi dX9_many_5 rfl hJ0.1 zs_386 (Nat.le_of_ble_eq_true rfl) zo_386_12 ?_
  intro x1 f2 h3 h4
  refine w_iai dX9_many_8 hJ0.1 zs_388 (by omega) (by omega) zu_388 ?_
  intro x8 f5 h6 h7
  refine w_eni dX9_many_9 rfl rfl ?_
  show ZW _ _ _ _ _ _ _ (4, [some (.ref 386)], [.int x8], M0)
  rcases zcut (0 : Int) x8.toInt with h9 | h9
  · skip
    refine w_ile_f dX9_knotsMany_4 (t := 16) rfl (by omega) ?_
    refine w_lo dX9_knotsMany_7 rfl rfl rfl rfl ?_
    refine w_iv dX9_knotsMany_8 rfl rfl (As := []) rfl rfl hJ0.1.1 zs_386 (Nat.le_of_ble_eq_true rfl) ?_
    refine ZV.of (ini := false) rfl (Nat.le_of_ble_eq_true rfl) (by decide +kernel) ?_
    show ZW _ _ _ _ _ _ _ (0, [some (.ref 386)], [], M0)
    refine w_lo dX9_many_0 rfl rfl rfl rfl ?_
    refine w_gf dX9_many_1 rfl hJ0.1.1 zs_386 (zr_386_13 hJ0.1) ?_
    refine w_lo dX9_many_4 rfl rfl rfl rfl ?_
    refine w_gf dX9_many_5 rfl hJ0.1.1 zs_386 f2 ?_
    refine w_ia dX9_many_8 hJ0.1.1 zs_388 (znat (by omega)) f5 ?_
    refine w_eni dX9_many_9 rfl rfl ?_
    show ZW _ _ _ _ _ _ _ (11, [some (.ref 386)], [.int x8], M0)
    refine w_ic dX9_knotsMany_11 zi_1 ?_
    refine w_sub dX9_knotsMany_12 (by have := zt_1; omega) ?_
    intro x13 h14
    have := zt_1
    refine w_gt dX9_knotsMany_13 (t := 17) rfl ?_
    refine w_eni dX9_knotsMany_17 rfl rfl ?_
    exact ⟨_, _, rfl, (by omega), (by omega), hJ0, trivial⟩
  · skip
    refine w_ile_t dX9_knotsMany_4 (t := 16) rfl (by omega) ?_
    refine w_ic dX9_knotsMany_16 zi_0 ?_
    refine w_en dX9_knotsMany_17 rfl ?_
    exact ⟨_, _, rfl, (by have := zt_0; omega), (by have := zt_0; omega), hJ0, trivial⟩
set_option maxRecDepth 100000 in
theorem k_2429 {X : List Int32} {d N : Nat} {M0 : zM} (a0 : Int32) (ha00 : (2 : Int) ≤ a0.toInt) (ha01 : a0.toInt ≤ 88) (hN : N ≤ 600) (hB0 : zB N M0) : ZV X (d + 2) 2429 [.ref 386, .int a0] M0 (zRI N [] M0 (0) (1) (fun _ _ => True)) := by
  have hJ0 : zJ N [] M0 M0 := zJ_refl hB0
  refine ZV.of (ini := false) rfl (Nat.le_of_ble_eq_true rfl) (by decide +kernel) ?_
  have main : ∀ n : Nat,
      (∀ (M : zM) (v129_1 : Int32) (v129_2 : Int32) (v129_3 : Int32) (v129_4 : Int32), zJ N [] M0 M → ((2 : Int) ≤ v129_1.toInt) → (v129_1.toInt ≤ 88) → ((0 : Int) ≤ v129_2.toInt) → (v129_2.toInt ≤ 11) → ((-1 : Int) ≤ v129_3.toInt) → (v129_3.toInt ≤ 5) → ((-1 : Int) ≤ v129_4.toInt) → (v129_4.toInt ≤ 5) → 4 < (n : Int) → ZW X (d + 1) 9 false (some .boolean) cX9_isBoyOn (zRI N [] M0 (0) (1) (fun _ _ => True)) (129, [some (.ref 386), some (.int v129_1), some (.int v129_2), some (.int v129_3), some (.int v129_4)], [], M)) ∧
      (∀ (M : zM) (v140_1 : Int32) (v140_2 : Int32) (v140_3 : Int32) (v140_4 : Int32), zJ N [] M0 M → ((2 : Int) ≤ v140_1.toInt) → (v140_1.toInt ≤ 88) → ((0 : Int) ≤ v140_2.toInt) → (v140_2.toInt ≤ 11) → ((-1 : Int) ≤ v140_3.toInt) → (v140_3.toInt ≤ 5) → ((-1 : Int) ≤ v140_4.toInt) → (v140_4.toInt ≤ 5) → 3 < (n : Int) → ZW X (d + 1) 9 false (some .boolean) cX9_isBoyOn (zRI N [] M0 (0) (1) (fun _ _ => True)) (140, [some (.ref 386), some (.int v140_1), some (.int v140_2), some (.int v140_3), some (.int v140_4)], [], M)) ∧
      (∀ (M : zM) (v159_1 : Int32) (u159_2 : Int32) (v159_3 : Int32) (v159_4 : Int32), zJ N [] M0 M → ((2 : Int) ≤ v159_1.toInt) → (v159_1.toInt ≤ 88) → ((-1 : Int) ≤ v159_3.toInt) → (v159_3.toInt ≤ 5) → ((-1 : Int) ≤ v159_4.toInt) → (v159_4.toInt ≤ 5) → 2 < (n : Int) → ZW X (d + 1) 9 false (some .boolean) cX9_isBoyOn (zRI N [] M0 (0) (1) (fun _ _ => True)) (159, [some (.ref 386), some (.int v159_1), some (.int u159_2), some (.int v159_3), some (.int v159_4)], [], M)) ∧
      (∀ (M : zM) (v172_1 : Int32) (u172_2 : Int32) (u172_3 : Int32) (u172_4 : Int32), zJ N [] M0 M → ((2 : Int) ≤ v172_1.toInt) → (v172_1.toInt ≤ 88) → 1 < (n : Int) → ZW X (d + 1) 9 false (some .boolean) cX9_isBoyOn (zRI N [] M0 (0) (1) (fun _ _ => True)) (172, [some (.ref 386), some (.int v172_1), some (.int u172_2), some (.int u172_3), some (.int u172_4)], [], M)) := by
    intro n
    induction n with
    | zero =>
      exact ⟨(fun M v129_1 v129_2 v129_3 v129_4 hJ v129_10 v129_11 v129_20 v129_21 v129_30 v129_31 v129_40 v129_41 hn => absurd hn (by omega)), (fun M v140_1 v140_2 v140_3 v140_4 hJ v140_10 v140_11 v140_20 v140_21 v140_30 v140_31 v140_40 v140_41 hn => absurd hn (by omega)), (fun M v159_1 u159_2 v159_3 v159_4 hJ v159_10 v159_11 v159_30 v159_31 v159_40 v159_41 hn => absurd hn (by omega)), (fun M v172_1 u172_2 u172_3 u172_4 hJ v172_10 v172_11 hn => absurd hn (by omega))⟩
    | succ n ih =>
      obtain ⟨ih129, ih140, ih159, ih172⟩ := ih
      refine ⟨?_, ?_, ?_, ?_⟩
      · intro M v129_1 v129_2 v129_3 v129_4 hJ v129_10 v129_11 v129_20 v129_21 v129_30 v129_31 v129_40 v129_41 hn
        refine w_lo dX9_isBoyOn_129 rfl rfl rfl rfl ?_
        refine w_ic dX9_isBoyOn_130 zi_m1 ?_
        rcases Int.decEq v129_3.toInt (-1 : Int) with h1 | h1
        · skip
          refine w_cne_t dX9_isBoyOn_131 (t := 140) rfl (by have := zt_m1; omega) ?_
          exact ih140 M v129_1 v129_2 v129_3 v129_4 hJ (by omega) (by omega) (by omega) (by omega) (by omega) (by omega) (by omega) (by omega) (by omega)
        · skip
          refine w_cne_f dX9_isBoyOn_131 (t := 140) rfl (by have := zt_m1; omega) ?_
          refine w_lo dX9_isBoyOn_134 rfl rfl rfl rfl ?_
          refine w_ic dX9_isBoyOn_136 zi_m1 ?_
          rcases Int.decEq v129_4.toInt (-1 : Int) with h2 | h2
          · skip
            refine w_ceq_f dX9_isBoyOn_137 (t := 159) rfl (by have := zt_m1; omega) ?_
            exact ih140 M v129_1 v129_2 v129_3 v129_4 hJ (by omega) (by omega) (by omega) (by omega) (by omega) (by omega) (by omega) (by omega) (by omega)
          · skip
            refine w_ceq_t dX9_isBoyOn_137 (t := 159) rfl (by have := zt_m1; omega) ?_
            exact ih159 M v129_1 v129_2 v129_3 v129_4 hJ (by omega) (by omega) (by omega) (by omega) (by omega) (by omega) (by omega)
      · intro M v140_1 v140_2 v140_3 v140_4 hJ v140_10 v140_11 v140_20 v140_21 v140_30 v140_31 v140_40 v140_41 hn
        refine w_lo dX9_isBoyOn_140 rfl rfl rfl rfl ?_
        refine w_gf dX9_isBoyOn_141 rfl hJ.1.1 zs_386 (zr_386_0 hJ.1) ?_
        refine w_lo dX9_isBoyOn_144 rfl rfl rfl rfl ?_
        refine w_ic dX9_isBoyOn_145 zi_1 ?_
        refine w_add dX9_isBoyOn_146 (by have := zt_1; omega) ?_
        intro x3 h4
        have := zt_1
        refine w_iai dX9_isBoyOn_147 hJ.1 zs_387 (by omega) (by omega) zu_387 ?_
        intro x8 f5 h6 h7
        rcases Int.decEq x8.toInt (0 : Int) with h9 | h9
        · skip
          refine w_ieq_f dX9_isBoyOn_148 (t := 170) rfl (by omega) ?_
          refine w_lo dX9_isBoyOn_151 rfl rfl rfl rfl ?_
          refine w_lo dX9_isBoyOn_152 rfl rfl rfl rfl ?_
          refine w_iv dX9_isBoyOn_153 rfl rfl (As := [.int v140_2]) rfl rfl hJ.1.1 zs_386 (Nat.le_of_ble_eq_true rfl) ?_
          refine ZV.of (ini := false) rfl (Nat.le_of_ble_eq_true rfl) (by decide +kernel) ?_
          show ZW _ _ _ _ _ _ _ (0, [some (.ref 386), some (.int v140_2)], [], M)
          refine w_lo dX9_isGhost_0 rfl rfl rfl rfl ?_
          refine w_gf dX9_isGhost_1 rfl hJ.1.1 zs_386 (zr_386_19 hJ.1) ?_
          refine w_bi dX9_isGhost_4 (c := 12) (by decide) ?_
          refine w_lo dX9_isGhost_6 rfl rfl rfl rfl ?_
          refine w_gfi dX9_isGhost_7 rfl hJ.1 zs_386 (Nat.le_of_ble_eq_true rfl) zo_386_12 ?_
          intro x10 f11 h12 h13
          refine w_mulc dX9_isGhost_10 zt_12 (by have := zt_12; omega) ?_
          intro x14 h15
          have := zt_12
          refine w_lo dX9_isGhost_11 rfl rfl rfl rfl ?_
          refine w_add dX9_isGhost_12 (by omega) ?_
          intro x16 h17
          refine w_iai dX9_isGhost_13 hJ.1 zs_394 (by omega) (by omega) zu_394 ?_
          intro x21 f18 h19 h20
          refine w_ic dX9_isGhost_14 zi_2 ?_
          refine w_and dX9_isGhost_15 (m := 2) zt_2 (by omega) ?_
          intro x22 h23 h24
          rcases Int.decEq x22.toInt (0 : Int) with h25 | h25
          · skip
            refine w_ieq_f dX9_isGhost_16 (t := 23) rfl (by omega) ?_
            refine w_ic dX9_isGhost_19 zi_1 ?_
            refine w_gt dX9_isGhost_20 (t := 24) rfl ?_
            refine w_en dX9_isGhost_24 rfl ?_
            show ZW _ _ _ _ _ _ _ (156, [some (.ref 386), some (.int v140_1), some (.int v140_2), some (.int v140_3), some (.int v140_4)], [.int 1], M)
            refine w_ine_t dX9_isBoyOn_156 (t := 170) rfl (by have := zt_1; omega) ?_
            refine w_ic dX9_isBoyOn_170 zi_0 ?_
            refine w_en dX9_isBoyOn_171 rfl ?_
            exact ⟨_, _, rfl, (by have := zt_0; omega), (by have := zt_0; omega), hJ, trivial⟩
          · skip
            refine w_ieq_t dX9_isGhost_16 (t := 23) rfl (by omega) ?_
            refine w_ic dX9_isGhost_23 zi_0 ?_
            refine w_en dX9_isGhost_24 rfl ?_
            show ZW _ _ _ _ _ _ _ (156, [some (.ref 386), some (.int v140_1), some (.int v140_2), some (.int v140_3), some (.int v140_4)], [.int 0], M)
            refine w_ine_f dX9_isBoyOn_156 (t := 170) rfl (by have := zt_0; omega) ?_
            exact ih159 M v140_1 v140_2 v140_3 v140_4 hJ (by omega) (by omega) (by omega) (by omega) (by omega) (by omega) (by omega)
        · skip
          refine w_ieq_t dX9_isBoyOn_148 (t := 170) rfl (by omega) ?_
          refine w_ic dX9_isBoyOn_170 zi_0 ?_
          refine w_en dX9_isBoyOn_171 rfl ?_
          exact ⟨_, _, rfl, (by have := zt_0; omega), (by have := zt_0; omega), hJ, trivial⟩
      · intro M v159_1 u159_2 v159_3 v159_4 hJ v159_10 v159_11 v159_30 v159_31 v159_40 v159_41 hn
        refine w_lo dX9_isBoyOn_159 rfl rfl rfl rfl ?_
        refine w_ic dX9_isBoyOn_160 zi_m1 ?_
        rcases Int.decEq v159_3.toInt (-1 : Int) with h26 | h26
        · skip
          refine w_ceq_f dX9_isBoyOn_161 (t := 172) rfl (by have := zt_m1; omega) ?_
          refine w_lo dX9_isBoyOn_164 rfl rfl rfl rfl ?_
          refine w_ic dX9_isBoyOn_166 zi_m1 ?_
          rcases Int.decEq v159_4.toInt (-1 : Int) with h27 | h27
          · skip
            refine w_ceq_f dX9_isBoyOn_167 (t := 172) rfl (by have := zt_m1; omega) ?_
            refine w_ic dX9_isBoyOn_170 zi_0 ?_
            refine w_en dX9_isBoyOn_171 rfl ?_
            exact ⟨_, _, rfl, (by have := zt_0; omega), (by have := zt_0; omega), hJ, trivial⟩
          · skip
            refine w_ceq_t dX9_isBoyOn_167 (t := 172) rfl (by have := zt_m1; omega) ?_
            exact ih172 M v159_1 u159_2 v159_3 v159_4 hJ (by omega) (by omega) (by omega)
        · skip
          refine w_ceq_t dX9_isBoyOn_161 (t := 172) rfl (by have := zt_m1; omega) ?_
          exact ih172 M v159_1 u159_2 v159_3 v159_4 hJ (by omega) (by omega) (by omega)
      · intro M v172_1 u172_2 u172_3 u172_4 hJ v172_10 v172_11 hn
        refine w_lo dX9_isBoyOn_172 rfl rfl rfl rfl ?_
        refine w_gf dX9_isBoyOn_173 rfl hJ.1.1 zs_386 (zr_386_0 hJ.1) ?_
        refine w_lo dX9_isBoyOn_176 rfl rfl rfl rfl ?_
        refine w_ic dX9_isBoyOn_177 zi_5 ?_
        refine w_add dX9_isBoyOn_178 (by have := zt_5; omega) ?_
        intro x28 h29
        have := zt_5
        refine w_iai dX9_isBoyOn_179 hJ.1 zs_387 (by omega) (by omega) zu_387 ?_
        intro x33 f30 h31 h32
        refine w_bi dX9_isBoyOn_180 (c := 8) (by decide) ?_
        refine w_puI dX9_isBoyOn_182 rfl rfl ?_
        intro x34
        refine w_lo dX9_isBoyOn_183 rfl rfl rfl rfl ?_
        refine w_gf dX9_isBoyOn_184 rfl hJ.1.1 zs_386 (zr_386_0 hJ.1) ?_
        refine w_lo dX9_isBoyOn_187 rfl rfl rfl rfl ?_
        refine w_bi dX9_isBoyOn_188 (c := 6) (by decide) ?_
        refine w_add dX9_isBoyOn_190 (by have := zt_6; omega) ?_
        intro x35 h36
        have := zt_6
        refine w_iai dX9_isBoyOn_191 hJ.1 zs_387 (by omega) (by omega) zu_387 ?_
        intro x40 f37 h38 h39
        refine w_puI dX9_isBoyOn_192 rfl rfl ?_
        intro x41
        refine w_si dX9_isBoyOn_193 (c := 9999) (by decide) ?_
        rcases zcut (9999 : Int) x41.toInt with h42 | h42
        · skip
          refine w_cgt_t dX9_isBoyOn_196 (t := 203) rfl (by have := zt_9999; omega) ?_
          refine w_ic dX9_isBoyOn_203 zi_0 ?_
          refine w_en dX9_isBoyOn_204 rfl ?_
          exact ⟨_, _, rfl, (by have := zt_0; omega), (by have := zt_0; omega), hJ, trivial⟩
        · skip
          refine w_cgt_f dX9_isBoyOn_196 (t := 203) rfl (by have := zt_9999; omega) ?_
          refine w_ic dX9_isBoyOn_199 zi_1 ?_
          refine w_gt dX9_isBoyOn_200 (t := 204) rfl ?_
          refine w_en dX9_isBoyOn_204 rfl ?_
          exact ⟨_, _, rfl, (by have := zt_1; omega), (by have := zt_1; omega), hJ, trivial⟩
  obtain ⟨ih129, ih140, ih159, ih172⟩ := main 9
  show ZW _ _ _ _ _ _ _ (0, [some (.ref 386), some (.int a0), none, none, none], [], M0)
  refine w_lo dX9_isBoyOn_0 rfl rfl rfl rfl ?_
  refine w_gf dX9_isBoyOn_1 rfl hJ0.1.1 zs_386 (zr_386_0 hJ0.1) ?_
  refine w_lo dX9_isBoyOn_4 rfl rfl rfl rfl ?_
  refine w_iai dX9_isBoyOn_5 hJ0.1 zs_387 (by omega) (by omega) zu_387 ?_
  intro x46 f43 h44 h45
  refine w_lo (ml' := [some (.ref 386), some (.int a0), some (.int x46), none, none]) dX9_isBoyOn_6 rfl rfl rfl rfl ?_
  refine w_lo dX9_isBoyOn_7 rfl rfl rfl rfl ?_
  refine w_gf dX9_isBoyOn_8 rfl hJ0.1.1 zs_386 (zr_386_0 hJ0.1) ?_
  refine w_lo dX9_isBoyOn_11 rfl rfl rfl rfl ?_
  refine w_ic dX9_isBoyOn_12 zi_2 ?_
  refine w_add dX9_isBoyOn_13 (by have := zt_2; omega) ?_
  intro x47 h48
  have := zt_2
  refine w_iai dX9_isBoyOn_14 hJ0.1 zs_387 (by omega) (by omega) zu_387 ?_
  intro x52 f49 h50 h51
  refine w_ic dX9_isBoyOn_15 zi_1 ?_
  refine w_sub dX9_isBoyOn_16 (by have := zt_1; omega) ?_
  intro x53 h54
  have := zt_1
  refine w_lo (ml' := [some (.ref 386), some (.int a0), some (.int x46), some (.int x53), none]) dX9_isBoyOn_17 rfl rfl rfl rfl ?_
  refine w_lo dX9_isBoyOn_18 rfl rfl rfl rfl ?_
  refine w_gf dX9_isBoyOn_19 rfl hJ0.1.1 zs_386 (zr_386_0 hJ0.1) ?_
  refine w_lo dX9_isBoyOn_22 rfl rfl rfl rfl ?_
  refine w_ic dX9_isBoyOn_23 zi_4 ?_
  refine w_add dX9_isBoyOn_24 (by have := zt_4; omega) ?_
  intro x55 h56
  have := zt_4
  refine w_iai dX9_isBoyOn_25 hJ0.1 zs_387 (by omega) (by omega) zu_387 ?_
  intro x60 f57 h58 h59
  refine w_ic dX9_isBoyOn_26 zi_1 ?_
  refine w_sub dX9_isBoyOn_27 (by have := zt_1; omega) ?_
  intro x61 h62
  have := zt_1
  refine w_lo (ml' := [some (.ref 386), some (.int a0), some (.int x46), some (.int x53), some (.int x61)]) dX9_isBoyOn_28 rfl rfl rfl rfl ?_
  refine w_lo dX9_isBoyOn_30 rfl rfl rfl rfl ?_
  refine w_lo dX9_isBoyOn_31 rfl rfl rfl rfl ?_
  refine w_iv dX9_isBoyOn_32 rfl rfl (As := []) rfl rfl hJ0.1.1 zs_386 (Nat.le_of_ble_eq_true rfl) ?_
  refine ZV.of (ini := false) rfl (Nat.le_of_ble_eq_true rfl) (by decide +kernel) ?_
  show ZW _ _ _ _ _ _ _ (0, [some (.ref 386)], [], M0)
  refine w_lo dX9_many_0 rfl rfl rfl rfl ?_
  refine w_gf dX9_many_1 rfl hJ0.1.1 zs_386 (zr_386_13 hJ0.1) ?_
  refine w_lo dX9_many_4 rfl rfl rfl rfl ?_
  refine w_gfi dX9_many_5 rfl hJ0.1 zs_386 (Nat.le_of_ble_eq_true rfl) zo_386_12 ?_
  intro x63 f64 h65 h66
  refine w_iai dX9_many_8 hJ0.1 zs_388 (by omega) (by omega) zu_388 ?_
  intro x70 f67 h68 h69
  refine w_eni dX9_many_9 rfl rfl ?_
  show ZW _ _ _ _ _ _ _ (35, [some (.ref 386), some (.int a0), some (.int x46), some (.int x53), some (.int x61)], [.int x70, .int x46], M0)
  rcases zcut x46.toInt x70.toInt with h71 | h71
  · skip
    refine w_cge_f dX9_isBoyOn_35 (t := 77) rfl (by omega) ?_
    refine w_lo dX9_isBoyOn_38 rfl rfl rfl rfl ?_
    refine w_gf dX9_isBoyOn_39 rfl hJ0.1.1 zs_386 (zr_386_0 hJ0.1) ?_
    refine w_lo dX9_isBoyOn_42 rfl rfl rfl rfl ?_
    refine w_ic dX9_isBoyOn_43 zi_1 ?_
    refine w_add dX9_isBoyOn_44 (by have := zt_1; omega) ?_
    intro x72 h73
    have := zt_1
    refine w_iai dX9_isBoyOn_45 hJ0.1 zs_387 (by omega) (by omega) zu_387 ?_
    intro x77 f74 h75 h76
    refine w_ic dX9_isBoyOn_46 zi_1 ?_
    rcases zcut (1 : Int) x77.toInt with h78 | h78
    · skip
      refine w_cgt_t dX9_isBoyOn_47 (t := 77) rfl (by have := zt_1; omega) ?_
      refine w_ic dX9_isBoyOn_77 zi_0 ?_
      refine w_en dX9_isBoyOn_78 rfl ?_
      exact ⟨_, _, rfl, (by have := zt_0; omega), (by have := zt_0; omega), hJ0, trivial⟩
    · skip
      refine w_cgt_f dX9_isBoyOn_47 (t := 77) rfl (by have := zt_1; omega) ?_
      refine w_lo dX9_isBoyOn_50 rfl rfl rfl rfl ?_
      refine w_lo dX9_isBoyOn_51 rfl rfl rfl rfl ?_
      refine w_gf dX9_isBoyOn_52 rfl hJ0.1.1 zs_386 (zr_386_21 hJ0.1) ?_
      refine w_lo dX9_isBoyOn_55 rfl rfl rfl rfl ?_
      refine w_gf dX9_isBoyOn_56 rfl hJ0.1.1 zs_386 f64 ?_
      refine w_iai dX9_isBoyOn_59 hJ0.1 zs_396 (by omega) (by omega) zu_396 ?_
      intro x82 f79 h80 h81
      rcases zcut x53.toInt x82.toInt with h83 | h83
      · skip
        refine w_cge_f dX9_isBoyOn_60 (t := 77) rfl (by omega) ?_
        refine w_lo dX9_isBoyOn_63 rfl rfl rfl rfl ?_
        refine w_lo dX9_isBoyOn_65 rfl rfl rfl rfl ?_
        refine w_gf dX9_isBoyOn_66 rfl hJ0.1.1 zs_386 (zr_386_21 hJ0.1) ?_
        refine w_lo dX9_isBoyOn_69 rfl rfl rfl rfl ?_
        refine w_gf dX9_isBoyOn_70 rfl hJ0.1.1 zs_386 f64 ?_
        refine w_ia dX9_isBoyOn_73 hJ0.1.1 zs_396 (znat (by omega)) f79 ?_
        rcases zcut x61.toInt x82.toInt with h87 | h87
        · skip
          refine w_clt_t dX9_isBoyOn_74 (t := 79) rfl (by omega) ?_
          refine w_lo dX9_isBoyOn_79 rfl rfl rfl rfl ?_
          refine w_ic dX9_isBoyOn_80 zi_m1 ?_
          rcases Int.decEq x53.toInt (-1 : Int) with h88 | h88
          · skip
            refine w_cne_t dX9_isBoyOn_81 (t := 98) rfl (by have := zt_m1; omega) ?_
            refine w_lo dX9_isBoyOn_98 rfl rfl rfl rfl ?_
            refine w_gf dX9_isBoyOn_99 rfl hJ0.1.1 zs_386 (zr_386_0 hJ0.1) ?_
            refine w_lo dX9_isBoyOn_102 rfl rfl rfl rfl ?_
            refine w_ic dX9_isBoyOn_103 zi_3 ?_
            refine w_add dX9_isBoyOn_104 (by have := zt_3; omega) ?_
            intro x89 h90
            have := zt_3
            refine w_iai dX9_isBoyOn_105 hJ0.1 zs_387 (by omega) (by omega) zu_387 ?_
            intro x94 f91 h92 h93
            refine w_ic dX9_isBoyOn_106 zi_1 ?_
            refine w_lo dX9_isBoyOn_107 rfl rfl rfl rfl ?_
            refine w_gf dX9_isBoyOn_108 rfl hJ0.1.1 zs_386 (zr_386_24 hJ0.1) ?_
            refine w_bi dX9_isBoyOn_111 (c := 6) (by decide) ?_
            refine w_lo dX9_isBoyOn_113 rfl rfl rfl rfl ?_
            refine w_gf dX9_isBoyOn_114 rfl hJ0.1.1 zs_386 f64 ?_
            refine w_mulc dX9_isBoyOn_117 zt_6 (by have := zt_6; omega) ?_
            intro x95 h96
            have := zt_6
            refine w_lo dX9_isBoyOn_118 rfl rfl rfl rfl ?_
            refine w_add dX9_isBoyOn_119 (by omega) ?_
            intro x97 h98
            refine w_iai dX9_isBoyOn_120 hJ0.1 zs_399 (by omega) (by omega) zu_399 ?_
            intro x102 f99 h100 h101
            refine w_ss dX9_isBoyOn_121 rfl rfl (As := [.int x94, .int 1, .int x102]) rfl rfl (Nat.le_of_ble_eq_true rfl) ?_
            refine ZV.of (ini := false) rfl (Nat.le_of_ble_eq_true rfl) (by decide +kernel) ?_
            show ZW _ _ _ _ _ _ _ (0, [some (.int x94), some (.int 1), some (.int x102)], [], M0)
            refine w_lo dX9_is_0 rfl rfl rfl rfl ?_
            refine w_lo dX9_is_1 rfl rfl rfl rfl ?_
            rcases zcut x94.toInt (1 : Int) with h103 | h103
            · skip
              refine w_clt_t dX9_is_2 (t := 14) rfl (by have := zt_1; omega) ?_
              refine w_ic dX9_is_14 zi_0 ?_
              refine w_en dX9_is_15 rfl ?_
              show ZW _ _ _ _ _ _ _ (124, [some (.ref 386), some (.int a0), some (.int x46), some (.int x53), some (.int x61)], [.int 0], M0)
              refine w_ine_f dX9_isBoyOn_124 (t := 129) rfl (by have := zt_0; omega) ?_
              refine w_ic dX9_isBoyOn_127 zi_0 ?_
              refine w_en dX9_isBoyOn_128 rfl ?_
              exact ⟨_, _, rfl, (by have := zt_0; omega), (by have := zt_0; omega), hJ0, trivial⟩
            · skip
              refine w_clt_f dX9_is_2 (t := 14) rfl (by have := zt_1; omega) ?_
              refine w_lo dX9_is_5 rfl rfl rfl rfl ?_
              refine w_lo dX9_is_6 rfl rfl rfl rfl ?_
              rcases zcut x102.toInt x94.toInt with h104 | h104
              · skip
                refine w_cgt_t dX9_is_7 (t := 14) rfl (by omega) ?_
                refine w_ic dX9_is_14 zi_0 ?_
                refine w_en dX9_is_15 rfl ?_
                show ZW _ _ _ _ _ _ _ (124, [some (.ref 386), some (.int a0), some (.int x46), some (.int x53), some (.int x61)], [.int 0], M0)
                refine w_ine_f dX9_isBoyOn_124 (t := 129) rfl (by have := zt_0; omega) ?_
                refine w_ic dX9_isBoyOn_127 zi_0 ?_
                refine w_en dX9_isBoyOn_128 rfl ?_
                exact ⟨_, _, rfl, (by have := zt_0; omega), (by have := zt_0; omega), hJ0, trivial⟩
              · skip
                refine w_cgt_f dX9_is_7 (t := 14) rfl (by omega) ?_
                refine w_ic dX9_is_10 zi_1 ?_
                refine w_gt dX9_is_11 (t := 15) rfl ?_
                refine w_en dX9_is_15 rfl ?_
                show ZW _ _ _ _ _ _ _ (124, [some (.ref 386), some (.int a0), some (.int x46), some (.int x53), some (.int x61)], [.int 1], M0)
                refine w_ine_t dX9_isBoyOn_124 (t := 129) rfl (by have := zt_1; omega) ?_
                exact ih129 M0 a0 x46 x53 x61 hJ0 (by omega) (by omega) (by omega) (by omega) (by omega) (by omega) (by omega) (by omega) (by omega)
          · skip
            refine w_cne_f dX9_isBoyOn_81 (t := 98) rfl (by have := zt_m1; omega) ?_
            refine w_lo dX9_isBoyOn_84 rfl rfl rfl rfl ?_
            refine w_gf dX9_isBoyOn_85 rfl hJ0.1.1 zs_386 (zr_386_0 hJ0.1) ?_
            refine w_lo dX9_isBoyOn_88 rfl rfl rfl rfl ?_
            refine w_ic dX9_isBoyOn_89 zi_3 ?_
            refine w_add dX9_isBoyOn_90 (by have := zt_3; omega) ?_
            intro x105 h106
            have := zt_3
            refine w_iai dX9_isBoyOn_91 hJ0.1 zs_387 (by omega) (by omega) zu_387 ?_
            intro x110 f107 h108 h109
            rcases Int.decEq x110.toInt (0 : Int) with h111 | h111
            · skip
              refine w_ieq_f dX9_isBoyOn_92 (t := 129) rfl (by omega) ?_
              refine w_gt dX9_isBoyOn_95 (t := 127) rfl ?_
              refine w_ic dX9_isBoyOn_127 zi_0 ?_
              refine w_en dX9_isBoyOn_128 rfl ?_
              exact ⟨_, _, rfl, (by have := zt_0; omega), (by have := zt_0; omega), hJ0, trivial⟩
            · skip
              refine w_ieq_t dX9_isBoyOn_92 (t := 129) rfl (by omega) ?_
              exact ih129 M0 a0 x46 x53 x61 hJ0 (by omega) (by omega) (by omega) (by omega) (by omega) (by omega) (by omega) (by omega) (by omega)
        · skip
          refine w_clt_f dX9_isBoyOn_74 (t := 79) rfl (by omega) ?_
          refine w_ic dX9_isBoyOn_77 zi_0 ?_
          refine w_en dX9_isBoyOn_78 rfl ?_
          exact ⟨_, _, rfl, (by have := zt_0; omega), (by have := zt_0; omega), hJ0, trivial⟩
      · skip
        refine w_cge_t dX9_isBoyOn_60 (t := 77) rfl (by omega) ?_
        refine w_ic dX9_isBoyOn_77 zi_0 ?_
        refine w_en dX9_isBoyOn_78 rfl ?_
        exact ⟨_, _, rfl, (by have := zt_0; omega), (by have := zt_0; omega), hJ0, trivial⟩
  · skip
    refine w_cge_t dX9_isBoyOn_35 (t := 77) rfl (by omega) ?_
    refine w_ic dX9_isBoyOn_77 zi_0 ?_
    refine w_en dX9_isBoyOn_78 rfl ?_
    exact ⟨_, _, rfl, (by have := zt_0; omega), (by have := zt_0; omega), hJ0, trivial⟩
set_option maxRecDepth 100000 in
theorem k_2427 {X : List Int32} {d N : Nat} {M0 : zM} (a0 : Int32) (ha00 : (0 : Int) ≤ a0.toInt) (ha01 : a0.toInt ≤ 1600) (hN : N ≤ 600) (hB0 : zB N M0) : ZV X (d + 3) 2427 [.ref 386, .int a0] M0 (zRI N [] M0 (0) (1) (fun _ _ => True)) := by
  have hJ0 : zJ N [] M0 M0 := zJ_refl hB0
  refine ZV.of (ini := false) rfl (Nat.le_of_ble_eq_true rfl) (by decide +kernel) ?_
  have main : ∀ n : Nat,
      (∀ (M : zM) (v27_1 : Int32) (v27_2 : Int32) (v27_3 : Int32) (o27_4 : Option Value), zJ N [] M0 M → ((3 : Int) ≤ v27_1.toInt) → (v27_1.toInt ≤ 109) → ((0 : Int) ≤ v27_2.toInt) → (v27_2.toInt ≤ 250) → ((0 : Int) ≤ v27_3.toInt) → (v27_3.toInt ≤ 108) → 6 * (108 - v27_3.toInt) + 1258 < (n : Int) → ZW X (d + 2) 9 false (some .boolean) cX9_isImage (zRI N [] M0 (0) (1) (fun _ _ => True)) (27, [some (.ref 386), some (.int v27_1), some (.int v27_2), some (.int v27_3), o27_4], [], M)) ∧
      (∀ (M : zM) (u93_1 : Int32) (u93_2 : Int32) (v93_3 : Int32) (o93_4 : Option Value), zJ N [] M0 M → ((0 : Int) ≤ v93_3.toInt) → (v93_3.toInt ≤ 12) → 84 * (12 - v93_3.toInt) + 159 < (n : Int) → ZW X (d + 2) 9 false (some .boolean) cX9_isImage (zRI N [] M0 (0) (1) (fun _ _ => True)) (93, [some (.ref 386), some (.int u93_1), some (.int u93_2), some (.int v93_3), o93_4], [], M)) ∧
      (∀ (M : zM) (u119_1 : Int32) (u119_2 : Int32) (v119_3 : Int32) (v119_4 : Int32), zJ N [] M0 M → ((0 : Int) ≤ v119_3.toInt) → (v119_3.toInt ≤ 11) → ((0 : Int) ≤ v119_4.toInt) → (v119_4.toInt ≤ 11) → 84 * (12 - v119_3.toInt) + 6 * (11 - v119_4.toInt) + 80 < (n : Int) → ZW X (d + 2) 9 false (some .boolean) cX9_isImage (zRI N [] M0 (0) (1) (fun _ _ => True)) (119, [some (.ref 386), some (.int u119_1), some (.int u119_2), some (.int v119_3), some (.int v119_4)], [], M)) ∧
      (∀ (M : zM) (u167_1 : Int32) (u167_2 : Int32) (v167_3 : Int32) (o167_4 : Option Value), zJ N [] M0 M → ((0 : Int) ≤ v167_3.toInt) → (v167_3.toInt ≤ 11) → 6 * (11 - v167_3.toInt) + 1 < (n : Int) → ZW X (d + 2) 9 false (some .boolean) cX9_isImage (zRI N [] M0 (0) (1) (fun _ _ => True)) (167, [some (.ref 386), some (.int u167_1), some (.int u167_2), some (.int v167_3), o167_4], [], M)) := by
    intro n
    induction n with
    | zero =>
      exact ⟨(fun M v27_1 v27_2 v27_3 o27_4 hJ v27_10 v27_11 v27_20 v27_21 v27_30 v27_31 hn => absurd hn (by omega)), (fun M u93_1 u93_2 v93_3 o93_4 hJ v93_30 v93_31 hn => absurd hn (by omega)), (fun M u119_1 u119_2 v119_3 v119_4 hJ v119_30 v119_31 v119_40 v119_41 hn => absurd hn (by omega)), (fun M u167_1 u167_2 v167_3 o167_4 hJ v167_30 v167_31 hn => absurd hn (by omega))⟩
    | succ n ih =>
      obtain ⟨ih27, ih93, ih119, ih167⟩ := ih
      refine ⟨?_, ?_, ?_, ?_⟩
      · intro M v27_1 v27_2 v27_3 o27_4 hJ v27_10 v27_11 v27_20 v27_21 v27_30 v27_31 hn
        refine w_lo dX9_isImage_27 rfl rfl rfl rfl ?_
        refine w_lo dX9_isImage_28 rfl rfl rfl rfl ?_
        refine w_ic dX9_isImage_29 zi_1 ?_
        refine w_sub dX9_isImage_30 (by have := zt_1; omega) ?_
        intro x1 h2
        have := zt_1
        rcases zcut v27_3.toInt x1.toInt with h3 | h3
        · skip
          refine w_cge_f dX9_isImage_31 (t := 55) rfl (by omega) ?_
          refine w_ic dX9_isImage_34 zi_5 ?_
          refine w_lo dX9_isImage_35 rfl rfl rfl rfl ?_
          refine w_mulc dX9_isImage_36 zt_5 (by have := zt_5; omega) ?_
          intro x4 h5
          have := zt_5
          refine w_lo dX9_isImage_37 rfl rfl rfl rfl ?_
          refine w_gf dX9_isImage_38 rfl hJ.1.1 zs_386 (zr_386_0 hJ.1) ?_
          refine w_lo dX9_isImage_41 rfl rfl rfl rfl ?_
          refine w_iai dX9_isImage_42 hJ.1 zs_387 (by omega) (by omega) zu_387 ?_
          intro x9 f6 h7 h8
          refine w_add dX9_isImage_43 (by omega) ?_
          intro x10 h11
          refine w_si dX9_isImage_44 (c := 251) (by decide) ?_
          refine w_remP dX9_isImage_47 (by omega) (by have := zt_251; omega) ?_
          intro x12 h13 h14 h15
          have := zt_251
          refine w_lo (ml' := [some (.ref 386), some (.int v27_1), some (.int x12), some (.int v27_3), o27_4]) dX9_isImage_48 rfl rfl rfl rfl ?_
          refine w_inc (kk := 3) dX9_isImage_49 rfl (m := 1) (by decide) (by omega) ?_
          intro x16 h17
          refine ⟨_, rfl, ?_⟩
          show ZW _ _ _ _ _ _ _ (52, [some (.ref 386), some (.int v27_1), some (.int x12), some (.int x16), o27_4], [], M)
          refine w_gt dX9_isImage_52 (t := 27) rfl ?_
          exact ih27 M v27_1 x12 x16 o27_4 hJ (by omega) (by omega) (by omega) (by omega) (by omega) (by omega) (by omega)
        · skip
          refine w_cge_t dX9_isImage_31 (t := 55) rfl (by omega) ?_
          refine w_lo dX9_isImage_55 rfl rfl rfl rfl ?_
          refine w_gf dX9_isImage_56 rfl hJ.1.1 zs_386 (zr_386_0 hJ.1) ?_
          refine w_lo dX9_isImage_59 rfl rfl rfl rfl ?_
          refine w_ic dX9_isImage_60 zi_1 ?_
          refine w_sub dX9_isImage_61 (by have := zt_1; omega) ?_
          intro x18 h19
          have := zt_1
          refine w_iai dX9_isImage_62 hJ.1 zs_387 (by omega) (by omega) zu_387 ?_
          intro x23 f20 h21 h22
          refine w_lo dX9_isImage_63 rfl rfl rfl rfl ?_
          rcases Int.decEq x23.toInt v27_2.toInt with h24 | h24
          · skip
            refine w_cne_t dX9_isImage_64 (t := 89) rfl (by omega) ?_
            refine w_ic dX9_isImage_89 zi_0 ?_
            refine w_en dX9_isImage_90 rfl ?_
            exact ⟨_, _, rfl, (by have := zt_0; omega), (by have := zt_0; omega), hJ, trivial⟩
          · skip
            refine w_cne_f dX9_isImage_64 (t := 89) rfl (by omega) ?_
            refine w_lo dX9_isImage_67 rfl rfl rfl rfl ?_
            refine w_gf dX9_isImage_68 rfl hJ.1.1 zs_386 (zr_386_0 hJ.1) ?_
            refine w_ic dX9_isImage_71 zi_0 ?_
            refine w_iai dX9_isImage_72 hJ.1 zs_387 (by have := zt_0; omega) (by have := zt_0; omega) zu_387 ?_
            intro x28 f25 h26 h27
            refine w_bi dX9_isImage_73 (c := 8) (by decide) ?_
            refine w_puI dX9_isImage_75 rfl rfl ?_
            intro x29
            refine w_lo dX9_isImage_76 rfl rfl rfl rfl ?_
            refine w_gf dX9_isImage_77 rfl hJ.1.1 zs_386 (zr_386_0 hJ.1) ?_
            refine w_ic dX9_isImage_80 zi_1 ?_
            refine w_iai dX9_isImage_81 hJ.1 zs_387 (by have := zt_1; omega) (by have := zt_1; omega) zu_387 ?_
            intro x33 f30 h31 h32
            refine w_puI dX9_isImage_82 rfl rfl ?_
            intro x34
            refine w_si dX9_isImage_83 (c := 999) (by decide) ?_
            rcases zcut (999 : Int) x34.toInt with h35 | h35
            · skip
              refine w_cle_f dX9_isImage_86 (t := 91) rfl (by have := zt_999; omega) ?_
              refine w_ic dX9_isImage_89 zi_0 ?_
              refine w_en dX9_isImage_90 rfl ?_
              exact ⟨_, _, rfl, (by have := zt_0; omega), (by have := zt_0; omega), hJ, trivial⟩
            · skip
              refine w_cle_t dX9_isImage_86 (t := 91) rfl (by have := zt_999; omega) ?_
              refine w_ic dX9_isImage_91 zi_0 ?_
              refine w_lo (ml' := [some (.ref 386), some (.int v27_1), some (.int v27_2), some (.int 0), o27_4]) dX9_isImage_92 rfl rfl rfl rfl ?_
              exact ih93 M v27_1 v27_2 0 o27_4 hJ (by have := zt_0; omega) (by have := zt_0; omega) (by have := zt_0; omega)
      · intro M u93_1 u93_2 v93_3 o93_4 hJ v93_30 v93_31 hn
        refine w_lo dX9_isImage_93 rfl rfl rfl rfl ?_
        refine w_lo dX9_isImage_94 rfl rfl rfl rfl ?_
        refine w_iv dX9_isImage_95 rfl rfl (As := []) rfl rfl hJ.1.1 zs_386 (Nat.le_of_ble_eq_true rfl) ?_
        refine ZV.of (ini := false) rfl (Nat.le_of_ble_eq_true rfl) (by decide +kernel) ?_
        show ZW _ _ _ _ _ _ _ (0, [some (.ref 386)], [], M)
        refine w_lo dX9_many_0 rfl rfl rfl rfl ?_
        refine w_gf dX9_many_1 rfl hJ.1.1 zs_386 (zr_386_13 hJ.1) ?_
        refine w_lo dX9_many_4 rfl rfl rfl rfl ?_
        refine w_gfi dX9_many_5 rfl hJ.1 zs_386 (Nat.le_of_ble_eq_true rfl) zo_386_12 ?_
        intro x36 f37 h38 h39
        refine w_iai dX9_many_8 hJ.1 zs_388 (by omega) (by omega) zu_388 ?_
        intro x43 f40 h41 h42
        refine w_eni dX9_many_9 rfl rfl ?_
        show ZW _ _ _ _ _ _ _ (98, [some (.ref 386), some (.int u93_1), some (.int u93_2), some (.int v93_3), o93_4], [.int x43, .int v93_3], M)
        rcases zcut v93_3.toInt x43.toInt with h44 | h44
        · skip
          refine w_cge_f dX9_isImage_98 (t := 165) rfl (by omega) ?_
          refine w_lo dX9_isImage_101 rfl rfl rfl rfl ?_
          refine w_ic dX9_isImage_102 zi_2 ?_
          refine w_bi dX9_isImage_103 (c := 7) (by decide) ?_
          refine w_lo dX9_isImage_105 rfl rfl rfl rfl ?_
          refine w_mulc dX9_isImage_106 zt_7 (by have := zt_7; omega) ?_
          intro x45 h46
          have := zt_7
          refine w_add dX9_isImage_107 (by have := zt_2; omega) ?_
          intro x47 h48
          have := zt_2
          refine w_iv dX9_isImage_108 rfl rfl (As := [.int x47]) rfl rfl hJ.1.1 zs_386 (Nat.le_of_ble_eq_true rfl) ?_
          refine ZV.imp (k_2429 x47 (by omega) (by omega) hN hJ.1) ?_
          rintro _ ⟨x52, M49, rfl, h53, h54, hJ50, hq51⟩
          have hJ55 := zJ_trans hJ hJ50 zSub_nil
          show ZW _ _ _ _ _ _ _ (111, [some (.ref 386), some (.int u93_1), some (.int u93_2), some (.int v93_3), o93_4], [.int x52], M49)
          rcases Int.decEq x52.toInt (0 : Int) with h56 | h56
          · skip
            refine w_ine_t dX9_isImage_111 (t := 116) rfl (by omega) ?_
            refine w_ic dX9_isImage_116 zi_0 ?_
            refine w_lo (ml' := [some (.ref 386), some (.int u93_1), some (.int u93_2), some (.int v93_3), some (.int 0)]) dX9_isImage_117 rfl rfl rfl rfl ?_
            exact ih119 M49 u93_1 u93_2 v93_3 0 hJ55 (by omega) (by omega) (by have := zt_0; omega) (by have := zt_0; omega) (by have := zt_0; omega)
          · skip
            refine w_ine_f dX9_isImage_111 (t := 116) rfl (by omega) ?_
            refine w_ic dX9_isImage_114 zi_0 ?_
            refine w_en dX9_isImage_115 rfl ?_
            exact ⟨_, _, rfl, (by have := zt_0; omega), (by have := zt_0; omega), hJ55, trivial⟩
        · skip
          refine w_cge_t dX9_isImage_98 (t := 165) rfl (by omega) ?_
          refine w_ic dX9_isImage_165 zi_0 ?_
          refine w_lo (ml' := [some (.ref 386), some (.int u93_1), some (.int u93_2), some (.int 0), o93_4]) dX9_isImage_166 rfl rfl rfl rfl ?_
          exact ih167 M u93_1 u93_2 0 o93_4 hJ (by have := zt_0; omega) (by have := zt_0; omega) (by have := zt_0; omega)
      · intro M u119_1 u119_2 v119_3 v119_4 hJ v119_30 v119_31 v119_40 v119_41 hn
        refine w_lo dX9_isImage_119 rfl rfl rfl rfl ?_
        refine w_lo dX9_isImage_121 rfl rfl rfl rfl ?_
        rcases zcut v119_4.toInt v119_3.toInt with h57 | h57
        · skip
          refine w_cge_f dX9_isImage_122 (t := 159) rfl (by omega) ?_
          refine w_lo dX9_isImage_125 rfl rfl rfl rfl ?_
          refine w_gf dX9_isImage_126 rfl hJ.1.1 zs_386 (zr_386_0 hJ.1) ?_
          refine w_ic dX9_isImage_129 zi_2 ?_
          refine w_bi dX9_isImage_130 (c := 7) (by decide) ?_
          refine w_lo dX9_isImage_132 rfl rfl rfl rfl ?_
          refine w_mulc dX9_isImage_134 zt_7 (by have := zt_7; omega) ?_
          intro x58 h59
          have := zt_7
          refine w_add dX9_isImage_135 (by have := zt_2; omega) ?_
          intro x60 h61
          have := zt_2
          refine w_iai dX9_isImage_136 hJ.1 zs_387 (by omega) (by omega) zu_387 ?_
          intro x65 f62 h63 h64
          refine w_lo dX9_isImage_137 rfl rfl rfl rfl ?_
          refine w_gf dX9_isImage_138 rfl hJ.1.1 zs_386 (zr_386_0 hJ.1) ?_
          refine w_ic dX9_isImage_141 zi_2 ?_
          refine w_bi dX9_isImage_142 (c := 7) (by decide) ?_
          refine w_lo dX9_isImage_144 rfl rfl rfl rfl ?_
          refine w_mulc dX9_isImage_145 zt_7 (by have := zt_7; omega) ?_
          intro x66 h67
          have := zt_7
          refine w_add dX9_isImage_146 (by have := zt_2; omega) ?_
          intro x68 h69
          have := zt_2
          refine w_iai dX9_isImage_147 hJ.1 zs_387 (by omega) (by omega) zu_387 ?_
          intro x73 f70 h71 h72
          rcases Int.decEq x65.toInt x73.toInt with h74 | h74
          · skip
            refine w_cne_t dX9_isImage_148 (t := 153) rfl (by omega) ?_
            refine w_inc (kk := 4) dX9_isImage_153 rfl (m := 1) (by decide) (by omega) ?_
            intro x75 h76
            refine ⟨_, rfl, ?_⟩
            show ZW _ _ _ _ _ _ _ (156, [some (.ref 386), some (.int u119_1), some (.int u119_2), some (.int v119_3), some (.int x75)], [], M)
            refine w_gt dX9_isImage_156 (t := 119) rfl ?_
            exact ih119 M u119_1 u119_2 v119_3 x75 hJ (by omega) (by omega) (by omega) (by omega) (by omega)
          · skip
            refine w_cne_f dX9_isImage_148 (t := 153) rfl (by omega) ?_
            refine w_ic dX9_isImage_151 zi_0 ?_
            refine w_en dX9_isImage_152 rfl ?_
            exact ⟨_, _, rfl, (by have := zt_0; omega), (by have := zt_0; omega), hJ, trivial⟩
        · skip
          refine w_cge_t dX9_isImage_122 (t := 159) rfl (by omega) ?_
          refine w_inc (kk := 3) dX9_isImage_159 rfl (m := 1) (by decide) (by omega) ?_
          intro x77 h78
          refine ⟨_, rfl, ?_⟩
          show ZW _ _ _ _ _ _ _ (162, [some (.ref 386), some (.int u119_1), some (.int u119_2), some (.int x77), some (.int v119_4)], [], M)
          refine w_gt dX9_isImage_162 (t := 93) rfl ?_
          exact ih93 M u119_1 u119_2 x77 (some (.int v119_4)) hJ (by omega) (by omega) (by omega)
      · intro M u167_1 u167_2 v167_3 o167_4 hJ v167_30 v167_31 hn
        refine w_lo dX9_isImage_167 rfl rfl rfl rfl ?_
        refine w_lo dX9_isImage_168 rfl rfl rfl rfl ?_
        refine w_iv dX9_isImage_169 rfl rfl (As := []) rfl rfl hJ.1.1 zs_386 (Nat.le_of_ble_eq_true rfl) ?_
        refine ZV.imp (k_2428 hN hJ.1) ?_
        rintro _ ⟨x82, M79, rfl, h83, h84, hJ80, hq81⟩
        have hJ85 := zJ_trans hJ hJ80 zSub_nil
        show ZW _ _ _ _ _ _ _ (172, [some (.ref 386), some (.int u167_1), some (.int u167_2), some (.int v167_3), o167_4], [.int x82, .int v167_3], M79)
        rcases zcut v167_3.toInt x82.toInt with h86 | h86
        · skip
          refine w_cge_f dX9_isImage_172 (t := 223) rfl (by omega) ?_
          refine w_ic dX9_isImage_175 zi_2 ?_
          refine w_bi dX9_isImage_176 (c := 7) (by decide) ?_
          refine w_lo dX9_isImage_178 rfl rfl rfl rfl ?_
          refine w_iv dX9_isImage_179 rfl rfl (As := []) rfl rfl hJ85.1.1 zs_386 (Nat.le_of_ble_eq_true rfl) ?_
          refine ZV.of (ini := false) rfl (Nat.le_of_ble_eq_true rfl) (by decide +kernel) ?_
          show ZW _ _ _ _ _ _ _ (0, [some (.ref 386)], [], M79)
          refine w_lo dX9_many_0 rfl rfl rfl rfl ?_
          refine w_gf dX9_many_1 rfl hJ85.1.1 zs_386 (zr_386_13 hJ85.1) ?_
          refine w_lo dX9_many_4 rfl rfl rfl rfl ?_
          refine w_gfi dX9_many_5 rfl hJ85.1 zs_386 (Nat.le_of_ble_eq_true rfl) zo_386_12 ?_
          intro x87 f88 h89 h90
          refine w_iai dX9_many_8 hJ85.1 zs_388 (by omega) (by omega) zu_388 ?_
          intro x94 f91 h92 h93
          refine w_eni dX9_many_9 rfl rfl ?_
          show ZW _ _ _ _ _ _ _ (182, [some (.ref 386), some (.int u167_1), some (.int u167_2), some (.int v167_3), o167_4], [.int x94, .int 7, .int 2], M79)
          refine w_mulc dX9_isImage_182 zt_7 (by have := zt_7; omega) ?_
          intro x95 h96
          have := zt_7
          refine w_add dX9_isImage_183 (by have := zt_2; omega) ?_
          intro x97 h98
          have := zt_2
          refine w_ic dX9_isImage_184 zi_2 ?_
          refine w_lo dX9_isImage_185 rfl rfl rfl rfl ?_
          refine w_mulc dX9_isImage_186 zt_2 (by have := zt_2; omega) ?_
          intro x99 h100
          have := zt_2
          refine w_add dX9_isImage_187 (by omega) ?_
          intro x101 h102
          refine w_lo (ml' := [some (.ref 386), some (.int u167_1), some (.int u167_2), some (.int v167_3), some (.int x101)]) dX9_isImage_188 rfl rfl rfl rfl ?_
          refine w_lo dX9_isImage_190 rfl rfl rfl rfl ?_
          refine w_gf dX9_isImage_191 rfl hJ85.1.1 zs_386 (zr_386_0 hJ85.1) ?_
          refine w_lo dX9_isImage_194 rfl rfl rfl rfl ?_
          refine w_iai dX9_isImage_196 hJ85.1 zs_387 (by omega) (by omega) zu_387 ?_
          intro x106 f103 h104 h105
          refine w_ic dX9_isImage_197 zi_1 ?_
          rcases zcut (1 : Int) x106.toInt with h107 | h107
          · skip
            refine w_cgt_t dX9_isImage_198 (t := 215) rfl (by have := zt_1; omega) ?_
            refine w_ic dX9_isImage_215 zi_0 ?_
            refine w_en dX9_isImage_216 rfl ?_
            exact ⟨_, _, rfl, (by have := zt_0; omega), (by have := zt_0; omega), hJ85, trivial⟩
          · skip
            refine w_cgt_f dX9_isImage_198 (t := 215) rfl (by have := zt_1; omega) ?_
            refine w_lo dX9_isImage_201 rfl rfl rfl rfl ?_
            refine w_gf dX9_isImage_202 rfl hJ85.1.1 zs_386 (zr_386_0 hJ85.1) ?_
            refine w_lo dX9_isImage_205 rfl rfl rfl rfl ?_
            refine w_ic dX9_isImage_207 zi_1 ?_
            refine w_add dX9_isImage_208 (by have := zt_1; omega) ?_
            intro x108 h109
            have := zt_1
            refine w_iai dX9_isImage_209 hJ85.1 zs_387 (by omega) (by omega) zu_387 ?_
            intro x113 f110 h111 h112
            refine w_bi dX9_isImage_210 (c := 99) (by decide) ?_
            rcases zcut (99 : Int) x113.toInt with h114 | h114
            · skip
              refine w_cle_f dX9_isImage_212 (t := 217) rfl (by have := zt_99; omega) ?_
              refine w_ic dX9_isImage_215 zi_0 ?_
              refine w_en dX9_isImage_216 rfl ?_
              exact ⟨_, _, rfl, (by have := zt_0; omega), (by have := zt_0; omega), hJ85, trivial⟩
            · skip
              refine w_cle_t dX9_isImage_212 (t := 217) rfl (by have := zt_99; omega) ?_
              refine w_inc (kk := 3) dX9_isImage_217 rfl (m := 1) (by decide) (by omega) ?_
              intro x115 h116
              refine ⟨_, rfl, ?_⟩
              show ZW _ _ _ _ _ _ _ (220, [some (.ref 386), some (.int u167_1), some (.int u167_2), some (.int x115), some (.int x101)], [], M79)
              refine w_gt dX9_isImage_220 (t := 167) rfl ?_
              exact ih167 M79 u167_1 u167_2 x115 (some (.int x101)) hJ85 (by omega) (by omega) (by omega)
        · skip
          refine w_cge_t dX9_isImage_172 (t := 223) rfl (by omega) ?_
          refine w_ic dX9_isImage_223 zi_1 ?_
          refine w_en dX9_isImage_224 rfl ?_
          exact ⟨_, _, rfl, (by have := zt_1; omega), (by have := zt_1; omega), hJ85, trivial⟩
  obtain ⟨ih27, ih93, ih119, ih167⟩ := main 1923
  show ZW _ _ _ _ _ _ _ (0, [some (.ref 386), some (.int a0), none, none, none], [], M0)
  refine w_lo dX9_isImage_0 rfl rfl rfl rfl ?_
  refine w_ic dX9_isImage_1 zi_3 ?_
  refine w_bi dX9_isImage_2 (c := 7) (by decide) ?_
  refine w_lo dX9_isImage_4 rfl rfl rfl rfl ?_
  refine w_iv dX9_isImage_5 rfl rfl (As := []) rfl rfl hJ0.1.1 zs_386 (Nat.le_of_ble_eq_true rfl) ?_
  refine ZV.of (ini := false) rfl (Nat.le_of_ble_eq_true rfl) (by decide +kernel) ?_
  show ZW _ _ _ _ _ _ _ (0, [some (.ref 386)], [], M0)
  refine w_lo dX9_many_0 rfl rfl rfl rfl ?_
  refine w_gf dX9_many_1 rfl hJ0.1.1 zs_386 (zr_386_13 hJ0.1) ?_
  refine w_lo dX9_many_4 rfl rfl rfl rfl ?_
  refine w_gfi dX9_many_5 rfl hJ0.1 zs_386 (Nat.le_of_ble_eq_true rfl) zo_386_12 ?_
  intro x117 f118 h119 h120
  refine w_iai dX9_many_8 hJ0.1 zs_388 (by omega) (by omega) zu_388 ?_
  intro x124 f121 h122 h123
  refine w_eni dX9_many_9 rfl rfl ?_
  show ZW _ _ _ _ _ _ _ (8, [some (.ref 386), some (.int a0), none, none, none], [.int x124, .int 7, .int 3, .int a0], M0)
  refine w_mulc dX9_isImage_8 zt_7 (by have := zt_7; omega) ?_
  intro x125 h126
  have := zt_7
  refine w_add dX9_isImage_9 (by have := zt_3; omega) ?_
  intro x127 h128
  have := zt_3
  refine w_ic dX9_isImage_10 zi_2 ?_
  refine w_lo dX9_isImage_11 rfl rfl rfl rfl ?_
  refine w_iv dX9_isImage_12 rfl rfl (As := []) rfl rfl hJ0.1.1 zs_386 (Nat.le_of_ble_eq_true rfl) ?_
  refine ZV.imp (k_2428 hN hJ0.1) ?_
  rintro _ ⟨x132, M129, rfl, h133, h134, hJ130, hq131⟩
  have hJ135 := zJ_trans hJ0 hJ130 zSub_nil
  show ZW _ _ _ _ _ _ _ (15, [some (.ref 386), some (.int a0), none, none, none], [.int x132, .int 2, .int x127, .int a0], M129)
  refine w_mulc dX9_isImage_15 zt_2 (by have := zt_2; omega) ?_
  intro x136 h137
  have := zt_2
  refine w_add dX9_isImage_16 (by omega) ?_
  intro x138 h139
  rcases Int.decEq a0.toInt x138.toInt with h140 | h140
  · skip
    refine w_ceq_f dX9_isImage_17 (t := 22) rfl (by omega) ?_
    refine w_ic dX9_isImage_20 zi_0 ?_
    refine w_en dX9_isImage_21 rfl ?_
    exact ⟨_, _, rfl, (by have := zt_0; omega), (by have := zt_0; omega), hJ135, trivial⟩
  · skip
    refine w_ceq_t dX9_isImage_17 (t := 22) rfl (by omega) ?_
    refine w_bi dX9_isImage_22 (c := 89) (by decide) ?_
    refine w_lo (ml' := [some (.ref 386), some (.int a0), some (.int 89), none, none]) dX9_isImage_24 rfl rfl rfl rfl ?_
    refine w_ic dX9_isImage_25 zi_0 ?_
    refine w_lo (ml' := [some (.ref 386), some (.int a0), some (.int 89), some (.int 0), none]) dX9_isImage_26 rfl rfl rfl rfl ?_
    exact ih27 M129 a0 89 0 none hJ135 (by omega) (by omega) (by have := zt_89; omega) (by have := zt_89; omega) (by have := zt_0; omega) (by have := zt_0; omega) (by have := zt_89; have := zt_0; omega)
