/-! the reference's methods come to an end, within the box (wip/safe/mks.py) -/
set_option maxRecDepth 100000 in
theorem k_2306 {X : List Int32} {d N : Nat} {M0 : zM} (a0 : Int32) (ha00 : (0 : Int) ≤ a0.toInt) (ha01 : a0.toInt ≤ 5) (hN : N ≤ 600) (hB0 : zB N M0) : ZV X (d + 1) 2306 [.ref 386, .int a0] M0 (zRI N [(415, 416, 1000)] M0 (-1) (-1) (fun _ _ => True)) := by
  have hJ0 : zJ N [(415, 416, 1000)] M0 M0 := zJ_refl hB0
  refine ZV.of (ini := false) rfl (Nat.le_of_ble_eq_true rfl) (by decide +kernel) ?_
  show ZW _ _ _ _ _ _ _ (0, [some (.ref 386), some (.int a0)], [], M0)
  refine w_lo dX9_refuses_0 rfl rfl rfl rfl ?_
  refine w_gf dX9_refuses_1 rfl hJ0.1.1 zs_386 (zr_386_46 hJ0.1) ?_
  refine w_lo dX9_refuses_4 rfl rfl rfl rfl ?_
  refine w_pu dX9_refuses_5 rfl rfl ?_
  refine w_iai dX9_refuses_6 hJ0.1 zs_415 (by omega) (by omega) zu_415 ?_
  intro x4 f1 h2 h3
  refine w_ic dX9_refuses_7 zi_1 ?_
  refine w_puI dX9_refuses_8 rfl rfl ?_
  intro x5
  refine w_isi dX9_refuses_9 hJ0 zs_415 (by omega) (by omega) zu_415 (zbot _) (ztop _) (zIR_a (by omega) (by omega)) ?_
  intro M6 hJ7 f8 hn9
  refine w_ic dX9_refuses_10 zi_m1 ?_
  refine w_en dX9_refuses_11 rfl ?_
  exact ⟨_, _, rfl, (by have := zt_m1; omega), (by have := zt_m1; omega), hJ7, trivial⟩
set_option maxRecDepth 100000 in
theorem k_2307 {X : List Int32} {d N : Nat} {M0 : zM} (a0 : Int32) (hN : N ≤ 600) (hB0 : zB N M0) : ZV X (d + 1) 2307 [.ref 386, .int a0] M0 (zRV N [(386, 387, 1), (387, 388, 1000)] M0 (fun _ => True)) := by
  have hJ0 : zJ N [(386, 387, 1), (387, 388, 1000)] M0 M0 := zJ_refl hB0
  refine ZV.of (ini := false) rfl (Nat.le_of_ble_eq_true rfl) (by decide +kernel) ?_
  have main : ∀ n : Nat,
      (∀ (M : zM) (v3_1 : Int32) (v3_2 : Int32), zJ N [(386, 387, 1), (387, 388, 1000)] M0 M → ((-2147483648 : Int) ≤ v3_1.toInt) → (v3_1.toInt ≤ 2147483647) → ((-8 : Int) ≤ v3_2.toInt) → (v3_2.toInt ≤ 24) → 3 * (v3_2.toInt - (-8)) + 1 < (n : Int) → ZW X (d + 0) 9 false none cX9_put (zRV N [(386, 387, 1), (387, 388, 1000)] M0 (fun _ => True)) (3, [some (.ref 386), some (.int v3_1), some (.int v3_2)], [], M)) := by
    intro n
    induction n with
    | zero =>
      exact (fun M v3_1 v3_2 hJ v3_10 v3_11 v3_20 v3_21 hn => absurd hn (by omega))
    | succ n ih =>
      have ih3 := ih
      · intro M v3_1 v3_2 hJ v3_10 v3_11 v3_20 v3_21 hn
        refine w_lo dX9_put_3 rfl rfl rfl rfl ?_
        rcases zcut v3_2.toInt (0 : Int) with h1 | h1
        · skip
          refine w_ilt_t dX9_put_4 (t := 39) rfl (by omega) ?_
          refine w_en dX9_put_39 rfl ?_
          exact ⟨_, rfl, hJ, trivial⟩
        · skip
          refine w_ilt_f dX9_put_4 (t := 39) rfl (by omega) ?_
          refine w_lo dX9_put_7 rfl rfl rfl rfl ?_
          refine w_gf dX9_put_8 rfl hJ.1.1 zs_386 (zr_386_0 hJ.1) ?_
          refine w_lo dX9_put_11 rfl rfl rfl rfl ?_
          refine w_gfi dX9_put_12 rfl hJ.1 zs_386 (Nat.le_of_ble_eq_true rfl) zo_386_1 ?_
          intro x2 f3 h4 h5
          refine w_lo dX9_put_15 rfl rfl rfl rfl ?_
          refine w_lo dX9_put_16 rfl rfl rfl rfl ?_
          refine w_puI dX9_put_17 rfl rfl ?_
          intro x6
          refine w_si dX9_put_18 (c := 255) (by decide) ?_
          refine w_and dX9_put_21 (m := 255) zt_255 (by omega) ?_
          intro x7 h8 h9
          refine w_isi dX9_put_22 hJ zs_387 (by omega) (by omega) zu_387 (by omega) (by omega) (zIR_s (zIR_a (by omega) (by omega))) ?_
          intro M10 hJ11 f12 hn13
          refine w_lo dX9_put_23 rfl rfl rfl rfl ?_
          refine w_pu dX9_put_24 rfl rfl ?_
          have f14 := (hn13 (386) 1 (Or.inl (by omega))).trans (f3)
          refine w_gf dX9_put_25 rfl hJ11.1.1 zs_386 f14 ?_
          refine w_ic dX9_put_28 zi_1 ?_
          refine w_add dX9_put_29 (by have := zt_1; omega) ?_
          intro x15 h16
          have := zt_1
          refine w_pfi dX9_put_30 rfl hJ11 zs_386 (Nat.le_of_ble_eq_true rfl) zo_386_1 (by omega) (by omega) (zIR_k (by omega) (by omega)) rfl rfl rfl ?_
          intro M17 hJ18 f19 hn20
          refine w_inc (kk := 2) dX9_put_33 rfl (m := -8) (by decide) (by omega) ?_
          intro x21 h22
          refine ⟨_, rfl, ?_⟩
          show ZW _ _ _ _ _ _ _ (36, [some (.ref 386), some (.int v3_1), some (.int x21)], [], M17)
          refine w_gt dX9_put_36 (t := 3) rfl ?_
          exact ih3 M17 v3_1 x21 hJ18 (zbot _) (ztop _) (by omega) (by omega) (by omega)
  have ih3 := main 108
  show ZW _ _ _ _ _ _ _ (0, [some (.ref 386), some (.int a0), none], [], M0)
  refine w_bi dX9_put_0 (c := 24) (by decide) ?_
  refine w_lo (ml' := [some (.ref 386), some (.int a0), some (.int 24)]) dX9_put_2 rfl rfl rfl rfl ?_
  exact ih3 M0 a0 24 hJ0 (zbot _) (ztop _) (by have := zt_24; omega) (by have := zt_24; omega) (by have := zt_24; omega)
set_option maxRecDepth 100000 in
theorem k_2305 {X : List Int32} {d N : Nat} {M0 : zM} (a0 : Int32) (a1 : Int32) (a2 : Int32) (a3 : Int32) (a4 : Int32) (hN : N ≤ 600) (hB0 : zB N M0) : ZV X (d + 2) 2305 [.ref 386, .int a0, .int a1, .int a2, .int a3, .int a4] M0 (zRI N [(386, 387, 1), (387, 388, 1000), (415, 416, 1000)] M0 (-1) (1600) (fun _ _ => True)) := by
  have hJ0 : zJ N [(386, 387, 1), (387, 388, 1000), (415, 416, 1000)] M0 M0 := zJ_refl hB0
  refine ZV.of (ini := false) rfl (Nat.le_of_ble_eq_true rfl) (by decide +kernel) ?_
  show ZW _ _ _ _ _ _ _ (0, [some (.ref 386), some (.int a0), some (.int a1), some (.int a2), some (.int a3), some (.int a4)], [], M0)
  refine w_lo dX9_feed_0 rfl rfl rfl rfl ?_
  refine w_gfi dX9_feed_1 rfl hJ0.1 zs_386 (Nat.le_of_ble_eq_true rfl) zo_386_1 ?_
  intro x1 f2 h3 h4
  refine w_bi dX9_feed_4 (c := 20) (by decide) ?_
  refine w_add dX9_feed_6 (by have := zt_20; omega) ?_
  intro x5 h6
  have := zt_20
  refine w_si dX9_feed_7 (c := 1600) (by decide) ?_
  rcases zcut (1600 : Int) x5.toInt with h7 | h7
  · skip
    refine w_cle_f dX9_feed_10 (t := 19) rfl (by have := zt_1600; omega) ?_
    refine w_lo dX9_feed_13 rfl rfl rfl rfl ?_
    refine w_ic dX9_feed_14 zi_0 ?_
    refine w_iv dX9_feed_15 rfl rfl (As := [.int 0]) rfl rfl hJ0.1.1 zs_386 (Nat.le_of_ble_eq_true rfl) ?_
    refine ZV.imp (k_2306 0 (by have := zt_0; omega) (by have := zt_0; omega) hN hJ0.1) ?_
    rintro _ ⟨x11, M8, rfl, h12, h13, hJ9, hq10⟩
    have hJ14 := zJ_trans hJ0 hJ9 (zSub_cons (fun _ _ h h' hk => zIR_s (zIR_s (zIR_a (by omega) (by omega)))) zSub_nil)
    show ZW _ _ _ _ _ _ _ (18, [some (.ref 386), some (.int a0), some (.int a1), some (.int a2), some (.int a3), some (.int a4)], [.int x11], M8)
    refine w_eni dX9_feed_18 rfl rfl ?_
    exact ⟨_, _, rfl, (by omega), (by omega), hJ14, trivial⟩
  · skip
    refine w_cle_t dX9_feed_10 (t := 19) rfl (by have := zt_1600; omega) ?_
    refine w_lo dX9_feed_19 rfl rfl rfl rfl ?_
    refine w_lo dX9_feed_20 rfl rfl rfl rfl ?_
    refine w_iv dX9_feed_21 rfl rfl (As := [.int a0]) rfl rfl hJ0.1.1 zs_386 (Nat.le_of_ble_eq_true rfl) ?_
    refine ZV.imp (k_2307 a0 hN hJ0.1) ?_
    rintro _ ⟨M15, rfl, hJ16, hq17⟩
    have hJ18 := zJ_trans hJ0 hJ16 (zSub_cons (fun _ _ h h' hk => zIR_e (by omega) (by omega) hk) (zSub_cons (fun _ _ h h' hk => zIR_s (zIR_a (by omega) (by omega))) zSub_nil))
    show ZW _ _ _ _ _ _ _ (24, [some (.ref 386), some (.int a0), some (.int a1), some (.int a2), some (.int a3), some (.int a4)], [], M15)
    refine w_lo dX9_feed_24 rfl rfl rfl rfl ?_
    refine w_lo dX9_feed_25 rfl rfl rfl rfl ?_
    refine w_iv dX9_feed_26 rfl rfl (As := [.int a1]) rfl rfl hJ18.1.1 zs_386 (Nat.le_of_ble_eq_true rfl) ?_
    refine ZV.imp (k_2307 a1 hN hJ18.1) ?_
    rintro _ ⟨M19, rfl, hJ20, hq21⟩
    have hJ22 := zJ_trans hJ18 hJ20 (zSub_cons (fun _ _ h h' hk => zIR_e (by omega) (by omega) hk) (zSub_cons (fun _ _ h h' hk => zIR_s (zIR_a (by omega) (by omega))) zSub_nil))
    show ZW _ _ _ _ _ _ _ (29, [some (.ref 386), some (.int a0), some (.int a1), some (.int a2), some (.int a3), some (.int a4)], [], M19)
    refine w_lo dX9_feed_29 rfl rfl rfl rfl ?_
    refine w_lo dX9_feed_30 rfl rfl rfl rfl ?_
    refine w_iv dX9_feed_31 rfl rfl (As := [.int a2]) rfl rfl hJ22.1.1 zs_386 (Nat.le_of_ble_eq_true rfl) ?_
    refine ZV.imp (k_2307 a2 hN hJ22.1) ?_
    rintro _ ⟨M23, rfl, hJ24, hq25⟩
    have hJ26 := zJ_trans hJ22 hJ24 (zSub_cons (fun _ _ h h' hk => zIR_e (by omega) (by omega) hk) (zSub_cons (fun _ _ h h' hk => zIR_s (zIR_a (by omega) (by omega))) zSub_nil))
    show ZW _ _ _ _ _ _ _ (34, [some (.ref 386), some (.int a0), some (.int a1), some (.int a2), some (.int a3), some (.int a4)], [], M23)
    refine w_lo dX9_feed_34 rfl rfl rfl rfl ?_
    refine w_lo dX9_feed_35 rfl rfl rfl rfl ?_
    refine w_iv dX9_feed_37 rfl rfl (As := [.int a3]) rfl rfl hJ26.1.1 zs_386 (Nat.le_of_ble_eq_true rfl) ?_
    refine ZV.imp (k_2307 a3 hN hJ26.1) ?_
    rintro _ ⟨M27, rfl, hJ28, hq29⟩
    have hJ30 := zJ_trans hJ26 hJ28 (zSub_cons (fun _ _ h h' hk => zIR_e (by omega) (by omega) hk) (zSub_cons (fun _ _ h h' hk => zIR_s (zIR_a (by omega) (by omega))) zSub_nil))
    show ZW _ _ _ _ _ _ _ (40, [some (.ref 386), some (.int a0), some (.int a1), some (.int a2), some (.int a3), some (.int a4)], [], M27)
    refine w_lo dX9_feed_40 rfl rfl rfl rfl ?_
    refine w_lo dX9_feed_41 rfl rfl rfl rfl ?_
    refine w_iv dX9_feed_43 rfl rfl (As := [.int a4]) rfl rfl hJ30.1.1 zs_386 (Nat.le_of_ble_eq_true rfl) ?_
    refine ZV.imp (k_2307 a4 hN hJ30.1) ?_
    rintro _ ⟨M31, rfl, hJ32, hq33⟩
    have hJ34 := zJ_trans hJ30 hJ32 (zSub_cons (fun _ _ h h' hk => zIR_e (by omega) (by omega) hk) (zSub_cons (fun _ _ h h' hk => zIR_s (zIR_a (by omega) (by omega))) zSub_nil))
    show ZW _ _ _ _ _ _ _ (46, [some (.ref 386), some (.int a0), some (.int a1), some (.int a2), some (.int a3), some (.int a4)], [], M31)
    refine w_lo dX9_feed_46 rfl rfl rfl rfl ?_
    refine w_gfi dX9_feed_47 rfl hJ34.1 zs_386 (Nat.le_of_ble_eq_true rfl) zo_386_1 ?_
    intro x35 f36 h37 h38
    refine w_eni dX9_feed_50 rfl rfl ?_
    exact ⟨_, _, rfl, (by omega), (by omega), hJ34, trivial⟩
set_option maxRecDepth 100000 in
theorem k_2308 {X : List Int32} {d N : Nat} {M0 : zM} (a0 : Int32) (hN : N ≤ 600) (hB0 : zB N M0) : ZV X (d + 2) 2308 [.ref 386, .int a0] M0 (zRI N [(386, 387, 1), (415, 416, 1000)] M0 (0) (1) (fun _ _ => True)) := by
  have hJ0 : zJ N [(386, 387, 1), (415, 416, 1000)] M0 M0 := zJ_refl hB0
  refine ZV.of (ini := false) rfl (Nat.le_of_ble_eq_true rfl) (by decide +kernel) ?_
  show ZW _ _ _ _ _ _ _ (0, [some (.ref 386), some (.int a0)], [], M0)
  refine w_lo dX9_end_0 rfl rfl rfl rfl ?_
  rcases zcut a0.toInt (0 : Int) with h1 | h1
  · skip
    refine w_ilt_t dX9_end_1 (t := 12) rfl (by omega) ?_
    refine w_lo dX9_end_12 rfl rfl rfl rfl ?_
    refine w_ic dX9_end_13 zi_0 ?_
    refine w_iv dX9_end_14 rfl rfl (As := [.int 0]) rfl rfl hJ0.1.1 zs_386 (Nat.le_of_ble_eq_true rfl) ?_
    refine ZV.imp (k_2306 0 (by have := zt_0; omega) (by have := zt_0; omega) hN hJ0.1) ?_
    rintro _ ⟨x5, M2, rfl, h6, h7, hJ3, hq4⟩
    have hJ8 := zJ_trans hJ0 hJ3 (zSub_cons (fun _ _ h h' hk => zIR_s (zIR_a (by omega) (by omega))) zSub_nil)
    show ZW _ _ _ _ _ _ _ (17, [some (.ref 386), some (.int a0)], [.int x5], M2)
    refine w_ilt_t dX9_end_17 (t := 24) rfl (by omega) ?_
    refine w_ic dX9_end_24 zi_0 ?_
    refine w_en dX9_end_25 rfl ?_
    exact ⟨_, _, rfl, (by have := zt_0; omega), (by have := zt_0; omega), hJ8, trivial⟩
  · skip
    refine w_ilt_f dX9_end_1 (t := 12) rfl (by omega) ?_
    refine w_lo dX9_end_4 rfl rfl rfl rfl ?_
    refine w_lo dX9_end_5 rfl rfl rfl rfl ?_
    refine w_gfi dX9_end_6 rfl hJ0.1 zs_386 (Nat.le_of_ble_eq_true rfl) zo_386_1 ?_
    intro x9 f10 h11 h12
    rcases zcut x9.toInt a0.toInt with h13 | h13
    · skip
      refine w_cle_f dX9_end_9 (t := 26) rfl (by omega) ?_
      refine w_lo dX9_end_12 rfl rfl rfl rfl ?_
      refine w_ic dX9_end_13 zi_0 ?_
      refine w_iv dX9_end_14 rfl rfl (As := [.int 0]) rfl rfl hJ0.1.1 zs_386 (Nat.le_of_ble_eq_true rfl) ?_
      refine ZV.imp (k_2306 0 (by have := zt_0; omega) (by have := zt_0; omega) hN hJ0.1) ?_
      rintro _ ⟨x17, M14, rfl, h18, h19, hJ15, hq16⟩
      have hJ20 := zJ_trans hJ0 hJ15 (zSub_cons (fun _ _ h h' hk => zIR_s (zIR_a (by omega) (by omega))) zSub_nil)
      show ZW _ _ _ _ _ _ _ (17, [some (.ref 386), some (.int a0)], [.int x17], M14)
      refine w_ilt_t dX9_end_17 (t := 24) rfl (by omega) ?_
      refine w_ic dX9_end_24 zi_0 ?_
      refine w_en dX9_end_25 rfl ?_
      exact ⟨_, _, rfl, (by have := zt_0; omega), (by have := zt_0; omega), hJ20, trivial⟩
    · skip
      refine w_cle_t dX9_end_9 (t := 26) rfl (by omega) ?_
      refine w_lo dX9_end_26 rfl rfl rfl rfl ?_
      refine w_lo dX9_end_27 rfl rfl rfl rfl ?_
      refine w_pfi dX9_end_28 rfl hJ0 zs_386 (Nat.le_of_ble_eq_true rfl) zo_386_1 (by omega) (by omega) (zIR_k (by omega) (by omega)) rfl rfl rfl ?_
      intro M21 hJ22 f23 hn24
      refine w_ic dX9_end_31 zi_1 ?_
      refine w_en dX9_end_32 rfl ?_
      exact ⟨_, _, rfl, (by have := zt_1; omega), (by have := zt_1; omega), hJ22, trivial⟩
set_option maxRecDepth 100000 in
theorem k_2310 {X : List Int32} {d N : Nat} {M0 : zM}  (hN : N ≤ 600) (hB0 : zB N M0) : ZV X (d + 2) 2310 [.ref 386] M0 (zRV N [(386, 387, 3), (386, 387, 4), (386, 387, 5), (386, 387, 6), (386, 387, 7), (386, 387, 8), (386, 387, 9)] M0 (fun _ => True)) := by
  have hJ0 : zJ N [(386, 387, 3), (386, 387, 4), (386, 387, 5), (386, 387, 6), (386, 387, 7), (386, 387, 8), (386, 387, 9)] M0 M0 := zJ_refl hB0
  refine ZV.of (ini := false) rfl (Nat.le_of_ble_eq_true rfl) (by decide +kernel) ?_
  have main : ∀ n : Nat,
      (∀ (M : zM) (v5_1 : Int32) (o5_2 : Option Value) (o5_3 : Option Value) (o5_4 : Option Value) (o5_5 : Option Value), zJ N [(386, 387, 3), (386, 387, 4), (386, 387, 5), (386, 387, 6), (386, 387, 7), (386, 387, 8), (386, 387, 9)] M0 M → ((0 : Int) ≤ v5_1.toInt) → (v5_1.toInt ≤ 1600) → 11 * (1600 - v5_1.toInt) + 17631 < (n : Int) → ZW X (d + 1) 9 false none cX9_ahead (zRV N [(386, 387, 3), (386, 387, 4), (386, 387, 5), (386, 387, 6), (386, 387, 7), (386, 387, 8), (386, 387, 9)] M0 (fun _ => True)) (5, [some (.ref 386), some (.int v5_1), o5_2, o5_3, o5_4, o5_5], [], M)) ∧
      (∀ (M : zM) (v41_1 : Int32) (o41_2 : Option Value) (o41_3 : Option Value) (o41_4 : Option Value) (o41_5 : Option Value), zJ N [(386, 387, 3), (386, 387, 4), (386, 387, 5), (386, 387, 6), (386, 387, 7), (386, 387, 8), (386, 387, 9)] M0 M → ((0 : Int) ≤ v41_1.toInt) → (v41_1.toInt ≤ 1600) → 17630 < (n : Int) → ZW X (d + 1) 9 false none cX9_ahead (zRV N [(386, 387, 3), (386, 387, 4), (386, 387, 5), (386, 387, 6), (386, 387, 7), (386, 387, 8), (386, 387, 9)] M0 (fun _ => True)) (41, [some (.ref 386), some (.int v41_1), o41_2, o41_3, o41_4, o41_5], [], M)) ∧
      (∀ (M : zM) (v93_1 : Int32) (v93_2 : Int32) (v93_3 : Int32) (o93_4 : Option Value) (o93_5 : Option Value), zJ N [(386, 387, 3), (386, 387, 4), (386, 387, 5), (386, 387, 6), (386, 387, 7), (386, 387, 8), (386, 387, 9)] M0 M → ((0 : Int) ≤ v93_1.toInt) → (v93_1.toInt ≤ 1599) → ((0 : Int) ≤ v93_2.toInt) → (v93_2.toInt ≤ 1) → ((0 : Int) ≤ v93_3.toInt) → (v93_3.toInt ≤ 1) → 17629 < (n : Int) → ZW X (d + 1) 9 false none cX9_ahead (zRV N [(386, 387, 3), (386, 387, 4), (386, 387, 5), (386, 387, 6), (386, 387, 7), (386, 387, 8), (386, 387, 9)] M0 (fun _ => True)) (93, [some (.ref 386), some (.int v93_1), some (.int v93_2), some (.int v93_3), o93_4, o93_5], [], M)) ∧
      (∀ (M : zM) (v125_1 : Int32) (v125_2 : Int32) (v125_3 : Int32) (o125_4 : Option Value) (o125_5 : Option Value), zJ N [(386, 387, 3), (386, 387, 4), (386, 387, 5), (386, 387, 6), (386, 387, 7), (386, 387, 8), (386, 387, 9)] M0 M → ((1 : Int) ≤ v125_1.toInt) → (v125_1.toInt ≤ 1599) → ((0 : Int) ≤ v125_2.toInt) → (v125_2.toInt ≤ 1) → ((0 : Int) ≤ v125_3.toInt) → (v125_3.toInt ≤ 1) → 17628 < (n : Int) → ZW X (d + 1) 9 false none cX9_ahead (zRV N [(386, 387, 3), (386, 387, 4), (386, 387, 5), (386, 387, 6), (386, 387, 7), (386, 387, 8), (386, 387, 9)] M0 (fun _ => True)) (125, [some (.ref 386), some (.int v125_1), some (.int v125_2), some (.int v125_3), o125_4, o125_5], [], M)) ∧
      (∀ (M : zM) (v131_1 : Int32) (v131_2 : Int32) (v131_3 : Int32) (o131_4 : Option Value) (o131_5 : Option Value), zJ N [(386, 387, 3), (386, 387, 4), (386, 387, 5), (386, 387, 6), (386, 387, 7), (386, 387, 8), (386, 387, 9)] M0 M → ((0 : Int) ≤ v131_1.toInt) → (v131_1.toInt ≤ 1599) → ((0 : Int) ≤ v131_2.toInt) → (v131_2.toInt ≤ 1) → ((0 : Int) ≤ v131_3.toInt) → (v131_3.toInt ≤ 1) → 17627 < (n : Int) → ZW X (d + 1) 9 false none cX9_ahead (zRV N [(386, 387, 3), (386, 387, 4), (386, 387, 5), (386, 387, 6), (386, 387, 7), (386, 387, 8), (386, 387, 9)] M0 (fun _ => True)) (131, [some (.ref 386), some (.int v131_1), some (.int v131_2), some (.int v131_3), o131_4, o131_5], [], M)) ∧
      (∀ (M : zM) (v200_1 : Int32) (v200_2 : Int32) (v200_3 : Int32) (v200_4 : Int32) (v200_5 : Int32), zJ N [(386, 387, 3), (386, 387, 4), (386, 387, 5), (386, 387, 6), (386, 387, 7), (386, 387, 8), (386, 387, 9)] M0 M → ((0 : Int) ≤ v200_1.toInt) → (v200_1.toInt ≤ 1600) → ((0 : Int) ≤ v200_2.toInt) → (v200_2.toInt ≤ 1) → ((0 : Int) ≤ v200_3.toInt) → (v200_3.toInt ≤ 1) → ((4 : Int) ≤ v200_4.toInt) → (v200_4.toInt ≤ 6) → ((-2147483648 : Int) ≤ v200_5.toInt) → (v200_5.toInt ≤ 2147483647) → 11 * (1600 - v200_1.toInt) + 4 < (n : Int) → ZW X (d + 1) 9 false none cX9_ahead (zRV N [(386, 387, 3), (386, 387, 4), (386, 387, 5), (386, 387, 6), (386, 387, 7), (386, 387, 8), (386, 387, 9)] M0 (fun _ => True)) (200, [some (.ref 386), some (.int v200_1), some (.int v200_2), some (.int v200_3), some (.int v200_4), some (.int v200_5)], [], M)) ∧
      (∀ (M : zM) (v239_1 : Int32) (v239_2 : Int32) (v239_3 : Int32) (v239_4 : Int32) (v239_5 : Int32), zJ N [(386, 387, 3), (386, 387, 4), (386, 387, 5), (386, 387, 6), (386, 387, 7), (386, 387, 8), (386, 387, 9)] M0 M → ((0 : Int) ≤ v239_1.toInt) → (v239_1.toInt ≤ 1599) → ((0 : Int) ≤ v239_2.toInt) → (v239_2.toInt ≤ 1) → ((0 : Int) ≤ v239_3.toInt) → (v239_3.toInt ≤ 1) → ((4 : Int) ≤ v239_4.toInt) → (v239_4.toInt ≤ 6) → ((-2147483648 : Int) ≤ v239_5.toInt) → (v239_5.toInt ≤ 2147483647) → 11 * (1600 - v239_1.toInt) + 3 < (n : Int) → ZW X (d + 1) 9 false none cX9_ahead (zRV N [(386, 387, 3), (386, 387, 4), (386, 387, 5), (386, 387, 6), (386, 387, 7), (386, 387, 8), (386, 387, 9)] M0 (fun _ => True)) (239, [some (.ref 386), some (.int v239_1), some (.int v239_2), some (.int v239_3), some (.int v239_4), some (.int v239_5)], [], M)) ∧
      (∀ (M : zM) (v252_1 : Int32) (v252_2 : Int32) (v252_3 : Int32) (v252_4 : Int32) (v252_5 : Int32), zJ N [(386, 387, 3), (386, 387, 4), (386, 387, 5), (386, 387, 6), (386, 387, 7), (386, 387, 8), (386, 387, 9)] M0 M → ((0 : Int) ≤ v252_1.toInt) → (v252_1.toInt ≤ 1599) → ((0 : Int) ≤ v252_2.toInt) → (v252_2.toInt ≤ 1) → ((0 : Int) ≤ v252_3.toInt) → (v252_3.toInt ≤ 1) → ((4 : Int) ≤ v252_4.toInt) → (v252_4.toInt ≤ 6) → ((-2147483648 : Int) ≤ v252_5.toInt) → (v252_5.toInt ≤ 2147483647) → 11 * (1600 - v252_1.toInt) + 2 < (n : Int) → ZW X (d + 1) 9 false none cX9_ahead (zRV N [(386, 387, 3), (386, 387, 4), (386, 387, 5), (386, 387, 6), (386, 387, 7), (386, 387, 8), (386, 387, 9)] M0 (fun _ => True)) (252, [some (.ref 386), some (.int v252_1), some (.int v252_2), some (.int v252_3), some (.int v252_4), some (.int v252_5)], [], M)) ∧
      (∀ (M : zM) (v282_1 : Int32) (v282_2 : Int32) (v282_3 : Int32) (v282_4 : Int32) (v282_5 : Int32), zJ N [(386, 387, 3), (386, 387, 4), (386, 387, 5), (386, 387, 6), (386, 387, 7), (386, 387, 8), (386, 387, 9)] M0 M → ((0 : Int) ≤ v282_1.toInt) → (v282_1.toInt ≤ 1599) → ((0 : Int) ≤ v282_2.toInt) → (v282_2.toInt ≤ 1) → ((0 : Int) ≤ v282_3.toInt) → (v282_3.toInt ≤ 1) → ((4 : Int) ≤ v282_4.toInt) → (v282_4.toInt ≤ 6) → ((-2147483648 : Int) ≤ v282_5.toInt) → (v282_5.toInt ≤ 2147483647) → 11 * (1600 - v282_1.toInt) + 1 < (n : Int) → ZW X (d + 1) 9 false none cX9_ahead (zRV N [(386, 387, 3), (386, 387, 4), (386, 387, 5), (386, 387, 6), (386, 387, 7), (386, 387, 8), (386, 387, 9)] M0 (fun _ => True)) (282, [some (.ref 386), some (.int v282_1), some (.int v282_2), some (.int v282_3), some (.int v282_4), some (.int v282_5)], [], M)) := by
    intro n
    induction n with
    | zero =>
      exact ⟨(fun M v5_1 o5_2 o5_3 o5_4 o5_5 hJ v5_10 v5_11 hn => absurd hn (by omega)), (fun M v41_1 o41_2 o41_3 o41_4 o41_5 hJ v41_10 v41_11 hn => absurd hn (by omega)), (fun M v93_1 v93_2 v93_3 o93_4 o93_5 hJ v93_10 v93_11 v93_20 v93_21 v93_30 v93_31 hn => absurd hn (by omega)), (fun M v125_1 v125_2 v125_3 o125_4 o125_5 hJ v125_10 v125_11 v125_20 v125_21 v125_30 v125_31 hn => absurd hn (by omega)), (fun M v131_1 v131_2 v131_3 o131_4 o131_5 hJ v131_10 v131_11 v131_20 v131_21 v131_30 v131_31 hn => absurd hn (by omega)), (fun M v200_1 v200_2 v200_3 v200_4 v200_5 hJ v200_10 v200_11 v200_20 v200_21 v200_30 v200_31 v200_40 v200_41 v200_50 v200_51 hn => absurd hn (by omega)), (fun M v239_1 v239_2 v239_3 v239_4 v239_5 hJ v239_10 v239_11 v239_20 v239_21 v239_30 v239_31 v239_40 v239_41 v239_50 v239_51 hn => absurd hn (by omega)), (fun M v252_1 v252_2 v252_3 v252_4 v252_5 hJ v252_10 v252_11 v252_20 v252_21 v252_30 v252_31 v252_40 v252_41 v252_50 v252_51 hn => absurd hn (by omega)), (fun M v282_1 v282_2 v282_3 v282_4 v282_5 hJ v282_10 v282_11 v282_20 v282_21 v282_30 v282_31 v282_40 v282_41 v282_50 v282_51 hn => absurd hn (by omega))⟩
    | succ n ih =>
      obtain ⟨ih5, ih41, ih93, ih125, ih131, ih200, ih239, ih252, ih282⟩ := ih
      refine ⟨?_, ?_, ?_, ?_, ?_, ?_, ?_, ?_, ?_⟩
      · intro M v5_1 o5_2 o5_3 o5_4 o5_5 hJ v5_10 v5_11 hn
        refine w_lo dX9_ahead_5 rfl rfl rfl rfl ?_
        refine w_lo dX9_ahead_6 rfl rfl rfl rfl ?_
        refine w_gfi dX9_ahead_7 rfl hJ.1 zs_386 (Nat.le_of_ble_eq_true rfl) zo_386_2 ?_
        intro x1 f2 h3 h4
        rcases zcut v5_1.toInt x1.toInt with h5 | h5
        · skip
          refine w_cge_f dX9_ahead_10 (t := 41) rfl (by omega) ?_
          refine w_lo dX9_ahead_13 rfl rfl rfl rfl ?_
          refine w_gf dX9_ahead_14 rfl hJ.1.1 zs_386 (zr_386_0 hJ.1) ?_
          refine w_lo dX9_ahead_17 rfl rfl rfl rfl ?_
          refine w_iai dX9_ahead_18 hJ.1 zs_387 (by omega) (by omega) zu_387 ?_
          intro x9 f6 h7 h8
          refine w_bi dX9_ahead_19 (c := 32) (by decide) ?_
          rcases Int.decEq x9.toInt (32 : Int) with h10 | h10
          · skip
            refine w_ceq_f dX9_ahead_21 (t := 35) rfl (by have := zt_32; omega) ?_
            refine w_lo dX9_ahead_24 rfl rfl rfl rfl ?_
            refine w_gf dX9_ahead_25 rfl hJ.1.1 zs_386 (zr_386_0 hJ.1) ?_
            refine w_lo dX9_ahead_28 rfl rfl rfl rfl ?_
            refine w_ia dX9_ahead_29 hJ.1.1 zs_387 (znat (by omega)) f6 ?_
            refine w_bi dX9_ahead_30 (c := 10) (by decide) ?_
            rcases Int.decEq x9.toInt (10 : Int) with h14 | h14
            · skip
              refine w_cne_t dX9_ahead_32 (t := 41) rfl (by have := zt_10; omega) ?_
              exact ih41 M v5_1 o5_2 o5_3 o5_4 o5_5 hJ (by omega) (by omega) (by omega)
            · skip
              refine w_cne_f dX9_ahead_32 (t := 41) rfl (by have := zt_10; omega) ?_
              refine w_inc (kk := 1) dX9_ahead_35 rfl (m := 1) (by decide) (by omega) ?_
              intro x15 h16
              refine ⟨_, rfl, ?_⟩
              show ZW _ _ _ _ _ _ _ (38, [some (.ref 386), some (.int x15), o5_2, o5_3, o5_4, o5_5], [], M)
              refine w_gt dX9_ahead_38 (t := 5) rfl ?_
              exact ih5 M x15 o5_2 o5_3 o5_4 o5_5 hJ (by omega) (by omega) (by omega)
          · skip
            refine w_ceq_t dX9_ahead_21 (t := 35) rfl (by have := zt_32; omega) ?_
            refine w_inc (kk := 1) dX9_ahead_35 rfl (m := 1) (by decide) (by omega) ?_
            intro x17 h18
            refine ⟨_, rfl, ?_⟩
            show ZW _ _ _ _ _ _ _ (38, [some (.ref 386), some (.int x17), o5_2, o5_3, o5_4, o5_5], [], M)
            refine w_gt dX9_ahead_38 (t := 5) rfl ?_
            exact ih5 M x17 o5_2 o5_3 o5_4 o5_5 hJ (by omega) (by omega) (by omega)
        · skip
          refine w_cge_t dX9_ahead_10 (t := 41) rfl (by omega) ?_
          exact ih41 M v5_1 o5_2 o5_3 o5_4 o5_5 hJ (by omega) (by omega) (by omega)
      · intro M v41_1 o41_2 o41_3 o41_4 o41_5 hJ v41_10 v41_11 hn
        refine w_lo dX9_ahead_41 rfl rfl rfl rfl ?_
        refine w_lo dX9_ahead_42 rfl rfl rfl rfl ?_
        refine w_pfi dX9_ahead_43 rfl hJ zs_386 (Nat.le_of_ble_eq_true rfl) zo_386_4 (by omega) (by omega) (zIR_s (zIR_k (by omega) (by omega))) rfl rfl rfl ?_
        intro M19 hJ20 f21 hn22
        refine w_lo dX9_ahead_46 rfl rfl rfl rfl ?_
        refine w_lo dX9_ahead_47 rfl rfl rfl rfl ?_
        refine w_pfi dX9_ahead_48 rfl hJ20 zs_386 (Nat.le_of_ble_eq_true rfl) zo_386_5 (by omega) (by omega) (zIR_s (zIR_s (zIR_k (by omega) (by omega)))) rfl rfl rfl ?_
        intro M23 hJ24 f25 hn26
        refine w_lo dX9_ahead_51 rfl rfl rfl rfl ?_
        refine w_ic dX9_ahead_52 zi_0 ?_
        refine w_pfi dX9_ahead_53 rfl hJ24 zs_386 (Nat.le_of_ble_eq_true rfl) zo_386_3 (by have := zt_0; omega) (by have := zt_0; omega) (zIR_k (by omega) (by omega)) rfl rfl rfl ?_
        intro M27 hJ28 f29 hn30
        refine w_lo dX9_ahead_56 rfl rfl rfl rfl ?_
        refine w_lo dX9_ahead_57 rfl rfl rfl rfl ?_
        refine w_gfi dX9_ahead_58 rfl hJ28.1 zs_386 (Nat.le_of_ble_eq_true rfl) zo_386_2 ?_
        intro x31 f32 h33 h34
        rcases zcut v41_1.toInt x31.toInt with h35 | h35
        · skip
          refine w_clt_t dX9_ahead_61 (t := 65) rfl (by omega) ?_
          refine w_lo dX9_ahead_65 rfl rfl rfl rfl ?_
          refine w_gf dX9_ahead_66 rfl hJ28.1.1 zs_386 (zr_386_0 hJ28.1) ?_
          refine w_lo dX9_ahead_69 rfl rfl rfl rfl ?_
          refine w_iai dX9_ahead_70 hJ28.1 zs_387 (by omega) (by omega) zu_387 ?_
          intro x39 f36 h37 h38
          refine w_ss dX9_ahead_71 rfl rfl (As := [.int x39]) rfl rfl (Nat.le_of_ble_eq_true rfl) ?_
          refine ZV.of (ini := false) rfl (Nat.le_of_ble_eq_true rfl) (by decide +kernel) ?_
          show ZW _ _ _ _ _ _ _ (0, [some (.int x39)], [], M27)
          refine w_lo dX9_isLetter_0 rfl rfl rfl rfl ?_
          refine w_bi dX9_isLetter_1 (c := 97) (by decide) ?_
          rcases zcut x39.toInt (97 : Int) with h40 | h40
          · skip
            refine w_clt_t dX9_isLetter_3 (t := 16) rfl (by have := zt_97; omega) ?_
            refine w_ic dX9_isLetter_16 zi_0 ?_
            refine w_en dX9_isLetter_17 rfl ?_
            show ZW _ _ _ _ _ _ _ (74, [some (.ref 386), some (.int v41_1), o41_2, o41_3, o41_4, o41_5], [.int 0], M27)
            refine w_lo (ml' := [some (.ref 386), some (.int v41_1), some (.int 0), o41_3, o41_4, o41_5]) dX9_ahead_74 rfl rfl rfl rfl ?_
            refine w_lo dX9_ahead_75 rfl rfl rfl rfl ?_
            refine w_gf dX9_ahead_76 rfl hJ28.1.1 zs_386 (zr_386_0 hJ28.1) ?_
            refine w_lo dX9_ahead_79 rfl rfl rfl rfl ?_
            refine w_ia dX9_ahead_80 hJ28.1.1 zs_387 (znat (by omega)) f36 ?_
            refine w_ss dX9_ahead_81 rfl rfl (As := [.int x39]) rfl rfl (Nat.le_of_ble_eq_true rfl) ?_
            refine ZV.of (ini := false) rfl (Nat.le_of_ble_eq_true rfl) (by decide +kernel) ?_
            show ZW _ _ _ _ _ _ _ (0, [some (.int x39)], [], M27)
            refine w_lo dX9_isDigit_0 rfl rfl rfl rfl ?_
            refine w_bi dX9_isDigit_1 (c := 48) (by decide) ?_
            rcases zcut x39.toInt (48 : Int) with h44 | h44
            · skip
              refine w_clt_t dX9_isDigit_3 (t := 16) rfl (by have := zt_48; omega) ?_
              refine w_ic dX9_isDigit_16 zi_0 ?_
              refine w_en dX9_isDigit_17 rfl ?_
              show ZW _ _ _ _ _ _ _ (84, [some (.ref 386), some (.int v41_1), some (.int 0), o41_3, o41_4, o41_5], [.int 0], M27)
              refine w_lo (ml' := [some (.ref 386), some (.int v41_1), some (.int 0), some (.int 0), o41_4, o41_5]) dX9_ahead_84 rfl rfl rfl rfl ?_
              refine w_lo dX9_ahead_85 rfl rfl rfl rfl ?_
              refine w_ine_f dX9_ahead_86 (t := 93) rfl (by have := zt_0; omega) ?_
              refine w_lo dX9_ahead_89 rfl rfl rfl rfl ?_
              refine w_ieq_t dX9_ahead_90 (t := 131) rfl (by have := zt_0; omega) ?_
              exact ih131 M27 v41_1 0 0 o41_4 o41_5 hJ28 (by omega) (by omega) (by have := zt_0; omega) (by have := zt_0; omega) (by have := zt_0; omega) (by have := zt_0; omega) (by have := zt_0; have := zt_0; omega)
            · skip
              refine w_clt_f dX9_isDigit_3 (t := 16) rfl (by have := zt_48; omega) ?_
              refine w_lo dX9_isDigit_6 rfl rfl rfl rfl ?_
              refine w_bi dX9_isDigit_7 (c := 57) (by decide) ?_
              rcases zcut (57 : Int) x39.toInt with h45 | h45
              · skip
                refine w_cgt_t dX9_isDigit_9 (t := 16) rfl (by have := zt_57; omega) ?_
                refine w_ic dX9_isDigit_16 zi_0 ?_
                refine w_en dX9_isDigit_17 rfl ?_
                show ZW _ _ _ _ _ _ _ (84, [some (.ref 386), some (.int v41_1), some (.int 0), o41_3, o41_4, o41_5], [.int 0], M27)
                refine w_lo (ml' := [some (.ref 386), some (.int v41_1), some (.int 0), some (.int 0), o41_4, o41_5]) dX9_ahead_84 rfl rfl rfl rfl ?_
                refine w_lo dX9_ahead_85 rfl rfl rfl rfl ?_
                refine w_ine_f dX9_ahead_86 (t := 93) rfl (by have := zt_0; omega) ?_
                refine w_lo dX9_ahead_89 rfl rfl rfl rfl ?_
                refine w_ieq_t dX9_ahead_90 (t := 131) rfl (by have := zt_0; omega) ?_
                exact ih131 M27 v41_1 0 0 o41_4 o41_5 hJ28 (by omega) (by omega) (by have := zt_0; omega) (by have := zt_0; omega) (by have := zt_0; omega) (by have := zt_0; omega) (by have := zt_0; have := zt_0; omega)
              · skip
                refine w_cgt_f dX9_isDigit_9 (t := 16) rfl (by have := zt_57; omega) ?_
                refine w_ic dX9_isDigit_12 zi_1 ?_
                refine w_gt dX9_isDigit_13 (t := 17) rfl ?_
                refine w_en dX9_isDigit_17 rfl ?_
                show ZW _ _ _ _ _ _ _ (84, [some (.ref 386), some (.int v41_1), some (.int 0), o41_3, o41_4, o41_5], [.int 1], M27)
                refine w_lo (ml' := [some (.ref 386), some (.int v41_1), some (.int 0), some (.int 1), o41_4, o41_5]) dX9_ahead_84 rfl rfl rfl rfl ?_
                refine w_lo dX9_ahead_85 rfl rfl rfl rfl ?_
                refine w_ine_f dX9_ahead_86 (t := 93) rfl (by have := zt_0; omega) ?_
                refine w_lo dX9_ahead_89 rfl rfl rfl rfl ?_
                refine w_ieq_f dX9_ahead_90 (t := 131) rfl (by have := zt_1; omega) ?_
                exact ih93 M27 v41_1 0 1 o41_4 o41_5 hJ28 (by omega) (by omega) (by have := zt_0; omega) (by have := zt_0; omega) (by have := zt_1; omega) (by have := zt_1; omega) (by have := zt_0; have := zt_1; omega)
          · skip
            refine w_clt_f dX9_isLetter_3 (t := 16) rfl (by have := zt_97; omega) ?_
            refine w_lo dX9_isLetter_6 rfl rfl rfl rfl ?_
            refine w_bi dX9_isLetter_7 (c := 122) (by decide) ?_
            rcases zcut (122 : Int) x39.toInt with h46 | h46
            · skip
              refine w_cgt_t dX9_isLetter_9 (t := 16) rfl (by have := zt_122; omega) ?_
              refine w_ic dX9_isLetter_16 zi_0 ?_
              refine w_en dX9_isLetter_17 rfl ?_
              show ZW _ _ _ _ _ _ _ (74, [some (.ref 386), some (.int v41_1), o41_2, o41_3, o41_4, o41_5], [.int 0], M27)
              refine w_lo (ml' := [some (.ref 386), some (.int v41_1), some (.int 0), o41_3, o41_4, o41_5]) dX9_ahead_74 rfl rfl rfl rfl ?_
              refine w_lo dX9_ahead_75 rfl rfl rfl rfl ?_
              refine w_gf dX9_ahead_76 rfl hJ28.1.1 zs_386 (zr_386_0 hJ28.1) ?_
              refine w_lo dX9_ahead_79 rfl rfl rfl rfl ?_
              refine w_ia dX9_ahead_80 hJ28.1.1 zs_387 (znat (by omega)) f36 ?_
              refine w_ss dX9_ahead_81 rfl rfl (As := [.int x39]) rfl rfl (Nat.le_of_ble_eq_true rfl) ?_
              refine ZV.of (ini := false) rfl (Nat.le_of_ble_eq_true rfl) (by decide +kernel) ?_
              show ZW _ _ _ _ _ _ _ (0, [some (.int x39)], [], M27)
              refine w_lo dX9_isDigit_0 rfl rfl rfl rfl ?_
              refine w_bi dX9_isDigit_1 (c := 48) (by decide) ?_
              refine w_clt_f dX9_isDigit_3 (t := 16) rfl (by have := zt_48; omega) ?_
              refine w_lo dX9_isDigit_6 rfl rfl rfl rfl ?_
              refine w_bi dX9_isDigit_7 (c := 57) (by decide) ?_
              refine w_cgt_t dX9_isDigit_9 (t := 16) rfl (by have := zt_57; omega) ?_
              refine w_ic dX9_isDigit_16 zi_0 ?_
              refine w_en dX9_isDigit_17 rfl ?_
              show ZW _ _ _ _ _ _ _ (84, [some (.ref 386), some (.int v41_1), some (.int 0), o41_3, o41_4, o41_5], [.int 0], M27)
              refine w_lo (ml' := [some (.ref 386), some (.int v41_1), some (.int 0), some (.int 0), o41_4, o41_5]) dX9_ahead_84 rfl rfl rfl rfl ?_
              refine w_lo dX9_ahead_85 rfl rfl rfl rfl ?_
              refine w_ine_f dX9_ahead_86 (t := 93) rfl (by have := zt_0; omega) ?_
              refine w_lo dX9_ahead_89 rfl rfl rfl rfl ?_
              refine w_ieq_t dX9_ahead_90 (t := 131) rfl (by have := zt_0; omega) ?_
              exact ih131 M27 v41_1 0 0 o41_4 o41_5 hJ28 (by omega) (by omega) (by have := zt_0; omega) (by have := zt_0; omega) (by have := zt_0; omega) (by have := zt_0; omega) (by have := zt_0; have := zt_0; omega)
            · skip
              refine w_cgt_f dX9_isLetter_9 (t := 16) rfl (by have := zt_122; omega) ?_
              refine w_ic dX9_isLetter_12 zi_1 ?_
              refine w_gt dX9_isLetter_13 (t := 17) rfl ?_
              refine w_en dX9_isLetter_17 rfl ?_
              show ZW _ _ _ _ _ _ _ (74, [some (.ref 386), some (.int v41_1), o41_2, o41_3, o41_4, o41_5], [.int 1], M27)
              refine w_lo (ml' := [some (.ref 386), some (.int v41_1), some (.int 1), o41_3, o41_4, o41_5]) dX9_ahead_74 rfl rfl rfl rfl ?_
              refine w_lo dX9_ahead_75 rfl rfl rfl rfl ?_
              refine w_gf dX9_ahead_76 rfl hJ28.1.1 zs_386 (zr_386_0 hJ28.1) ?_
              refine w_lo dX9_ahead_79 rfl rfl rfl rfl ?_
              refine w_ia dX9_ahead_80 hJ28.1.1 zs_387 (znat (by omega)) f36 ?_
              refine w_ss dX9_ahead_81 rfl rfl (As := [.int x39]) rfl rfl (Nat.le_of_ble_eq_true rfl) ?_
              refine ZV.of (ini := false) rfl (Nat.le_of_ble_eq_true rfl) (by decide +kernel) ?_
              show ZW _ _ _ _ _ _ _ (0, [some (.int x39)], [], M27)
              refine w_lo dX9_isDigit_0 rfl rfl rfl rfl ?_
              refine w_bi dX9_isDigit_1 (c := 48) (by decide) ?_
              refine w_clt_f dX9_isDigit_3 (t := 16) rfl (by have := zt_48; omega) ?_
              refine w_lo dX9_isDigit_6 rfl rfl rfl rfl ?_
              refine w_bi dX9_isDigit_7 (c := 57) (by decide) ?_
              refine w_cgt_t dX9_isDigit_9 (t := 16) rfl (by have := zt_57; omega) ?_
              refine w_ic dX9_isDigit_16 zi_0 ?_
              refine w_en dX9_isDigit_17 rfl ?_
              show ZW _ _ _ _ _ _ _ (84, [some (.ref 386), some (.int v41_1), some (.int 1), o41_3, o41_4, o41_5], [.int 0], M27)
              refine w_lo (ml' := [some (.ref 386), some (.int v41_1), some (.int 1), some (.int 0), o41_4, o41_5]) dX9_ahead_84 rfl rfl rfl rfl ?_
              refine w_lo dX9_ahead_85 rfl rfl rfl rfl ?_
              refine w_ine_t dX9_ahead_86 (t := 93) rfl (by have := zt_1; omega) ?_
              exact ih93 M27 v41_1 1 0 o41_4 o41_5 hJ28 (by omega) (by omega) (by have := zt_1; omega) (by have := zt_1; omega) (by have := zt_0; omega) (by have := zt_0; omega) (by have := zt_1; have := zt_0; omega)
        · skip
          refine w_clt_f dX9_ahead_61 (t := 65) rfl (by omega) ?_
          refine w_en dX9_ahead_64 rfl ?_
          exact ⟨_, rfl, hJ28, trivial⟩
      · intro M v93_1 v93_2 v93_3 o93_4 o93_5 hJ v93_10 v93_11 v93_20 v93_21 v93_30 v93_31 hn
        refine w_lo dX9_ahead_93 rfl rfl rfl rfl ?_
        rcases zcut (0 : Int) v93_1.toInt with h53 | h53
        · skip
          refine w_ile_f dX9_ahead_94 (t := 131) rfl (by omega) ?_
          refine w_lo dX9_ahead_97 rfl rfl rfl rfl ?_
          refine w_gf dX9_ahead_98 rfl hJ.1.1 zs_386 (zr_386_0 hJ.1) ?_
          refine w_lo dX9_ahead_101 rfl rfl rfl rfl ?_
          refine w_ic dX9_ahead_102 zi_1 ?_
          refine w_sub dX9_ahead_103 (by have := zt_1; omega) ?_
          intro x54 h55
          have := zt_1
          refine w_iai dX9_ahead_104 hJ.1 zs_387 (by omega) (by omega) zu_387 ?_
          intro x59 f56 h57 h58
          refine w_ss dX9_ahead_105 rfl rfl (As := [.int x59]) rfl rfl (Nat.le_of_ble_eq_true rfl) ?_
          refine ZV.of (ini := false) rfl (Nat.le_of_ble_eq_true rfl) (by decide +kernel) ?_
          show ZW _ _ _ _ _ _ _ (0, [some (.int x59)], [], M)
          refine w_lo dX9_isLetter_0 rfl rfl rfl rfl ?_
          refine w_bi dX9_isLetter_1 (c := 97) (by decide) ?_
          rcases zcut x59.toInt (97 : Int) with h60 | h60
          · skip
            refine w_clt_t dX9_isLetter_3 (t := 16) rfl (by have := zt_97; omega) ?_
            refine w_ic dX9_isLetter_16 zi_0 ?_
            refine w_en dX9_isLetter_17 rfl ?_
            show ZW _ _ _ _ _ _ _ (108, [some (.ref 386), some (.int v93_1), some (.int v93_2), some (.int v93_3), o93_4, o93_5], [.int 0], M)
            refine w_ine_f dX9_ahead_108 (t := 125) rfl (by have := zt_0; omega) ?_
            refine w_lo dX9_ahead_111 rfl rfl rfl rfl ?_
            refine w_gf dX9_ahead_112 rfl hJ.1.1 zs_386 (zr_386_0 hJ.1) ?_
            refine w_lo dX9_ahead_115 rfl rfl rfl rfl ?_
            refine w_ic dX9_ahead_116 zi_1 ?_
            refine w_sub dX9_ahead_117 (by have := zt_1; omega) ?_
            intro x61 h62
            have := zt_1
            refine w_iai dX9_ahead_118 hJ.1 zs_387 (by omega) (by omega) zu_387 ?_
            intro x66 f63 h64 h65
            refine w_ss dX9_ahead_119 rfl rfl (As := [.int x66]) rfl rfl (Nat.le_of_ble_eq_true rfl) ?_
            refine ZV.of (ini := false) rfl (Nat.le_of_ble_eq_true rfl) (by decide +kernel) ?_
            show ZW _ _ _ _ _ _ _ (0, [some (.int x66)], [], M)
            refine w_lo dX9_isDigit_0 rfl rfl rfl rfl ?_
            refine w_bi dX9_isDigit_1 (c := 48) (by decide) ?_
            rcases zcut x66.toInt (48 : Int) with h67 | h67
            · skip
              refine w_clt_t dX9_isDigit_3 (t := 16) rfl (by have := zt_48; omega) ?_
              refine w_ic dX9_isDigit_16 zi_0 ?_
              refine w_en dX9_isDigit_17 rfl ?_
              show ZW _ _ _ _ _ _ _ (122, [some (.ref 386), some (.int v93_1), some (.int v93_2), some (.int v93_3), o93_4, o93_5], [.int 0], M)
              refine w_ieq_t dX9_ahead_122 (t := 131) rfl (by have := zt_0; omega) ?_
              exact ih131 M v93_1 v93_2 v93_3 o93_4 o93_5 hJ (by omega) (by omega) (by omega) (by omega) (by omega) (by omega) (by omega)
            · skip
              refine w_clt_f dX9_isDigit_3 (t := 16) rfl (by have := zt_48; omega) ?_
              refine w_lo dX9_isDigit_6 rfl rfl rfl rfl ?_
              refine w_bi dX9_isDigit_7 (c := 57) (by decide) ?_
              rcases zcut (57 : Int) x66.toInt with h68 | h68
              · skip
                refine w_cgt_t dX9_isDigit_9 (t := 16) rfl (by have := zt_57; omega) ?_
                refine w_ic dX9_isDigit_16 zi_0 ?_
                refine w_en dX9_isDigit_17 rfl ?_
                show ZW _ _ _ _ _ _ _ (122, [some (.ref 386), some (.int v93_1), some (.int v93_2), some (.int v93_3), o93_4, o93_5], [.int 0], M)
                refine w_ieq_t dX9_ahead_122 (t := 131) rfl (by have := zt_0; omega) ?_
                exact ih131 M v93_1 v93_2 v93_3 o93_4 o93_5 hJ (by omega) (by omega) (by omega) (by omega) (by omega) (by omega) (by omega)
              · skip
                refine w_cgt_f dX9_isDigit_9 (t := 16) rfl (by have := zt_57; omega) ?_
                refine w_ic dX9_isDigit_12 zi_1 ?_
                refine w_gt dX9_isDigit_13 (t := 17) rfl ?_
                refine w_en dX9_isDigit_17 rfl ?_
                show ZW _ _ _ _ _ _ _ (122, [some (.ref 386), some (.int v93_1), some (.int v93_2), some (.int v93_3), o93_4, o93_5], [.int 1], M)
                refine w_ieq_f dX9_ahead_122 (t := 131) rfl (by have := zt_1; omega) ?_
                exact ih125 M v93_1 v93_2 v93_3 o93_4 o93_5 hJ (by omega) (by omega) (by omega) (by omega) (by omega) (by omega) (by omega)
          · skip
            refine w_clt_f dX9_isLetter_3 (t := 16) rfl (by have := zt_97; omega) ?_
            refine w_lo dX9_isLetter_6 rfl rfl rfl rfl ?_
            refine w_bi dX9_isLetter_7 (c := 122) (by decide) ?_
            rcases zcut (122 : Int) x59.toInt with h69 | h69
            · skip
              refine w_cgt_t dX9_isLetter_9 (t := 16) rfl (by have := zt_122; omega) ?_
              refine w_ic dX9_isLetter_16 zi_0 ?_
              refine w_en dX9_isLetter_17 rfl ?_
              show ZW _ _ _ _ _ _ _ (108, [some (.ref 386), some (.int v93_1), some (.int v93_2), some (.int v93_3), o93_4, o93_5], [.int 0], M)
              refine w_ine_f dX9_ahead_108 (t := 125) rfl (by have := zt_0; omega) ?_
              refine w_lo dX9_ahead_111 rfl rfl rfl rfl ?_
              refine w_gf dX9_ahead_112 rfl hJ.1.1 zs_386 (zr_386_0 hJ.1) ?_
              refine w_lo dX9_ahead_115 rfl rfl rfl rfl ?_
              refine w_ic dX9_ahead_116 zi_1 ?_
              refine w_sub dX9_ahead_117 (by have := zt_1; omega) ?_
              intro x70 h71
              have := zt_1
              refine w_iai dX9_ahead_118 hJ.1 zs_387 (by omega) (by omega) zu_387 ?_
              intro x75 f72 h73 h74
              refine w_ss dX9_ahead_119 rfl rfl (As := [.int x75]) rfl rfl (Nat.le_of_ble_eq_true rfl) ?_
              refine ZV.of (ini := false) rfl (Nat.le_of_ble_eq_true rfl) (by decide +kernel) ?_
              show ZW _ _ _ _ _ _ _ (0, [some (.int x75)], [], M)
              refine w_lo dX9_isDigit_0 rfl rfl rfl rfl ?_
              refine w_bi dX9_isDigit_1 (c := 48) (by decide) ?_
              rcases zcut x75.toInt (48 : Int) with h76 | h76
              · skip
                refine w_clt_t dX9_isDigit_3 (t := 16) rfl (by have := zt_48; omega) ?_
                refine w_ic dX9_isDigit_16 zi_0 ?_
                refine w_en dX9_isDigit_17 rfl ?_
                show ZW _ _ _ _ _ _ _ (122, [some (.ref 386), some (.int v93_1), some (.int v93_2), some (.int v93_3), o93_4, o93_5], [.int 0], M)
                refine w_ieq_t dX9_ahead_122 (t := 131) rfl (by have := zt_0; omega) ?_
                exact ih131 M v93_1 v93_2 v93_3 o93_4 o93_5 hJ (by omega) (by omega) (by omega) (by omega) (by omega) (by omega) (by omega)
              · skip
                refine w_clt_f dX9_isDigit_3 (t := 16) rfl (by have := zt_48; omega) ?_
                refine w_lo dX9_isDigit_6 rfl rfl rfl rfl ?_
                refine w_bi dX9_isDigit_7 (c := 57) (by decide) ?_
                rcases zcut (57 : Int) x75.toInt with h77 | h77
                · skip
                  refine w_cgt_t dX9_isDigit_9 (t := 16) rfl (by have := zt_57; omega) ?_
                  refine w_ic dX9_isDigit_16 zi_0 ?_
                  refine w_en dX9_isDigit_17 rfl ?_
                  show ZW _ _ _ _ _ _ _ (122, [some (.ref 386), some (.int v93_1), some (.int v93_2), some (.int v93_3), o93_4, o93_5], [.int 0], M)
                  refine w_ieq_t dX9_ahead_122 (t := 131) rfl (by have := zt_0; omega) ?_
                  exact ih131 M v93_1 v93_2 v93_3 o93_4 o93_5 hJ (by omega) (by omega) (by omega) (by omega) (by omega) (by omega) (by omega)
                · skip
                  refine w_cgt_f dX9_isDigit_9 (t := 16) rfl (by have := zt_57; omega) ?_
                  refine w_ic dX9_isDigit_12 zi_1 ?_
                  refine w_gt dX9_isDigit_13 (t := 17) rfl ?_
                  refine w_en dX9_isDigit_17 rfl ?_
                  show ZW _ _ _ _ _ _ _ (122, [some (.ref 386), some (.int v93_1), some (.int v93_2), some (.int v93_3), o93_4, o93_5], [.int 1], M)
                  refine w_ieq_f dX9_ahead_122 (t := 131) rfl (by have := zt_1; omega) ?_
                  exact ih125 M v93_1 v93_2 v93_3 o93_4 o93_5 hJ (by omega) (by omega) (by omega) (by omega) (by omega) (by omega) (by omega)
            · skip
              refine w_cgt_f dX9_isLetter_9 (t := 16) rfl (by have := zt_122; omega) ?_
              refine w_ic dX9_isLetter_12 zi_1 ?_
              refine w_gt dX9_isLetter_13 (t := 17) rfl ?_
              refine w_en dX9_isLetter_17 rfl ?_
              show ZW _ _ _ _ _ _ _ (108, [some (.ref 386), some (.int v93_1), some (.int v93_2), some (.int v93_3), o93_4, o93_5], [.int 1], M)
              refine w_ine_t dX9_ahead_108 (t := 125) rfl (by have := zt_1; omega) ?_
              exact ih125 M v93_1 v93_2 v93_3 o93_4 o93_5 hJ (by omega) (by omega) (by omega) (by omega) (by omega) (by omega) (by omega)
        · skip
          refine w_ile_t dX9_ahead_94 (t := 131) rfl (by omega) ?_
          exact ih131 M v93_1 v93_2 v93_3 o93_4 o93_5 hJ (by omega) (by omega) (by omega) (by omega) (by omega) (by omega) (by omega)
      · intro M v125_1 v125_2 v125_3 o125_4 o125_5 hJ v125_10 v125_11 v125_20 v125_21 v125_30 v125_31 hn
        refine w_lo dX9_ahead_125 rfl rfl rfl rfl ?_
        refine w_ic dX9_ahead_126 zi_1 ?_
        refine w_lo dX9_ahead_127 rfl rfl rfl rfl ?_
        refine w_iv dX9_ahead_128 rfl rfl (As := [.int 1, .int v125_1]) rfl rfl hJ.1.1 zs_386 (Nat.le_of_ble_eq_true rfl) ?_
        refine ZV.of (ini := false) rfl (Nat.le_of_ble_eq_true rfl) (by decide +kernel) ?_
        show ZW _ _ _ _ _ _ _ (0, [some (.ref 386), some (.int 1), some (.int v125_1)], [], M)
        refine w_lo dX9_blame_0 rfl rfl rfl rfl ?_
        refine w_gfi dX9_blame_1 rfl hJ.1 zs_386 (Nat.le_of_ble_eq_true rfl) zo_386_8 ?_
        intro x78 f79 h80 h81
        rcases zcut (0 : Int) x78.toInt with h82 | h82
        · skip
          refine w_ile_f dX9_blame_4 (t := 8) rfl (by omega) ?_
          refine w_en dX9_blame_7 rfl ?_
          show ZW _ _ _ _ _ _ _ (131, [some (.ref 386), some (.int v125_1), some (.int v125_2), some (.int v125_3), o125_4, o125_5], [], M)
          exact ih131 M v125_1 v125_2 v125_3 o125_4 o125_5 hJ (by omega) (by omega) (by omega) (by omega) (by omega) (by omega) (by omega)
        · skip
          refine w_ile_t dX9_blame_4 (t := 8) rfl (by omega) ?_
          refine w_lo dX9_blame_8 rfl rfl rfl rfl ?_
          refine w_lo dX9_blame_9 rfl rfl rfl rfl ?_
          refine w_pfi dX9_blame_10 rfl hJ zs_386 (Nat.le_of_ble_eq_true rfl) zo_386_8 (by have := zt_1; omega) (by have := zt_1; omega) (zIR_s (zIR_s (zIR_s (zIR_s (zIR_s (zIR_k (by omega) (by omega))))))) rfl rfl rfl ?_
          intro M83 hJ84 f85 hn86
          refine w_lo dX9_blame_13 rfl rfl rfl rfl ?_
          refine w_lo dX9_blame_14 rfl rfl rfl rfl ?_
          refine w_pfi dX9_blame_15 rfl hJ84 zs_386 (Nat.le_of_ble_eq_true rfl) zo_386_9 (by omega) (by omega) (zIR_s (zIR_s (zIR_s (zIR_s (zIR_s (zIR_s (zIR_k (by omega) (by omega)))))))) rfl rfl rfl ?_
          intro M87 hJ88 f89 hn90
          refine w_en dX9_blame_18 rfl ?_
          show ZW _ _ _ _ _ _ _ (131, [some (.ref 386), some (.int v125_1), some (.int v125_2), some (.int v125_3), o125_4, o125_5], [], M87)
          exact ih131 M87 v125_1 v125_2 v125_3 o125_4 o125_5 hJ88 (by omega) (by omega) (by omega) (by omega) (by omega) (by omega) (by omega)
      · intro M v131_1 v131_2 v131_3 o131_4 o131_5 hJ v131_10 v131_11 v131_20 v131_21 v131_30 v131_31 hn
        refine w_lo dX9_ahead_131 rfl rfl rfl rfl ?_
        refine w_ic dX9_ahead_132 zi_0 ?_
        refine w_pfi dX9_ahead_133 rfl hJ zs_386 (Nat.le_of_ble_eq_true rfl) zo_386_6 (zbot _) (ztop _) (zIR_s (zIR_s (zIR_s (zIR_k (by omega) (by omega))))) rfl rfl rfl ?_
        intro M91 hJ92 f93 hn94
        refine w_lo dX9_ahead_136 rfl rfl rfl rfl ?_
        refine w_lc dX9_ahead_137 (c := (0 : Int64)) (by decide) ?_
        refine w_pfl dX9_ahead_138 rfl hJ92 zs_386 (Nat.le_of_ble_eq_true rfl) zo_386_7 (zlbot _) (zltop _) (zIR_s (zIR_s (zIR_s (zIR_s (zIR_k (by omega) (by omega)))))) rfl rfl rfl ?_
        intro M95 hJ96 f97 hn98
        refine w_lo dX9_ahead_141 rfl rfl rfl rfl ?_
        refine w_ic dX9_ahead_142 zi_3 ?_
        refine w_pfi dX9_ahead_143 rfl hJ96 zs_386 (Nat.le_of_ble_eq_true rfl) zo_386_3 (by have := zt_3; omega) (by have := zt_3; omega) (zIR_k (by omega) (by omega)) rfl rfl rfl ?_
        intro M99 hJ100 f101 hn102
        refine w_lo dX9_ahead_146 rfl rfl rfl rfl ?_
        refine w_lo dX9_ahead_147 rfl rfl rfl rfl ?_
        refine w_ic dX9_ahead_148 zi_1 ?_
        refine w_add dX9_ahead_149 (by have := zt_1; omega) ?_
        intro x103 h104
        have := zt_1
        refine w_pfi dX9_ahead_150 rfl hJ100 zs_386 (Nat.le_of_ble_eq_true rfl) zo_386_5 (by omega) (by omega) (zIR_s (zIR_s (zIR_k (by omega) (by omega)))) rfl rfl rfl ?_
        intro M105 hJ106 f107 hn108
        refine w_lo dX9_ahead_153 rfl rfl rfl rfl ?_
        rcases Int.decEq v131_2.toInt (0 : Int) with h109 | h109
        · skip
          refine w_ine_t dX9_ahead_154 (t := 172) rfl (by omega) ?_
          refine w_lo dX9_ahead_172 rfl rfl rfl rfl ?_
          refine w_lo dX9_ahead_173 rfl rfl rfl rfl ?_
          refine w_ieq_f dX9_ahead_174 (t := 181) rfl (by omega) ?_
          refine w_ic dX9_ahead_177 zi_1 ?_
          refine w_gt dX9_ahead_178 (t := 182) rfl ?_
          refine w_pfi dX9_ahead_182 rfl hJ106 zs_386 (Nat.le_of_ble_eq_true rfl) zo_386_3 (by have := zt_1; omega) (by have := zt_1; omega) (zIR_k (by omega) (by omega)) rfl rfl rfl ?_
          intro M110 hJ111 f112 hn113
          refine w_lo dX9_ahead_185 rfl rfl rfl rfl ?_
          refine w_ieq_f dX9_ahead_186 (t := 194) rfl (by omega) ?_
          refine w_bi dX9_ahead_189 (c := 6) (by decide) ?_
          refine w_gt dX9_ahead_191 (t := 195) rfl ?_
          refine w_lo (ml' := [some (.ref 386), some (.int v131_1), some (.int v131_2), some (.int v131_3), some (.int 6), o131_5]) dX9_ahead_195 rfl rfl rfl rfl ?_
          refine w_ic dX9_ahead_197 zi_0 ?_
          refine w_lo (ml' := [some (.ref 386), some (.int v131_1), some (.int v131_2), some (.int v131_3), some (.int 6), some (.int 0)]) dX9_ahead_198 rfl rfl rfl rfl ?_
          exact ih200 M110 v131_1 v131_2 v131_3 6 0 hJ111 (by omega) (by omega) (by omega) (by omega) (by omega) (by omega) (by have := zt_6; omega) (by have := zt_6; omega) (zbot _) (ztop _) (by have := zt_6; have := zt_0; omega)
        · skip
          refine w_ine_f dX9_ahead_154 (t := 172) rfl (by omega) ?_
          refine w_lo dX9_ahead_157 rfl rfl rfl rfl ?_
          rcases Int.decEq v131_3.toInt (0 : Int) with h114 | h114
          · skip
            refine w_ine_t dX9_ahead_158 (t := 172) rfl (by omega) ?_
            refine w_lo dX9_ahead_172 rfl rfl rfl rfl ?_
            refine w_lo dX9_ahead_173 rfl rfl rfl rfl ?_
            refine w_ieq_t dX9_ahead_174 (t := 181) rfl (by omega) ?_
            refine w_ic dX9_ahead_181 zi_2 ?_
            refine w_pfi dX9_ahead_182 rfl hJ106 zs_386 (Nat.le_of_ble_eq_true rfl) zo_386_3 (by have := zt_2; omega) (by have := zt_2; omega) (zIR_k (by omega) (by omega)) rfl rfl rfl ?_
            intro M115 hJ116 f117 hn118
            refine w_lo dX9_ahead_185 rfl rfl rfl rfl ?_
            refine w_ieq_t dX9_ahead_186 (t := 194) rfl (by omega) ?_
            refine w_ic dX9_ahead_194 zi_4 ?_
            refine w_lo (ml' := [some (.ref 386), some (.int v131_1), some (.int v131_2), some (.int v131_3), some (.int 4), o131_5]) dX9_ahead_195 rfl rfl rfl rfl ?_
            refine w_ic dX9_ahead_197 zi_0 ?_
            refine w_lo (ml' := [some (.ref 386), some (.int v131_1), some (.int v131_2), some (.int v131_3), some (.int 4), some (.int 0)]) dX9_ahead_198 rfl rfl rfl rfl ?_
            exact ih200 M115 v131_1 v131_2 v131_3 4 0 hJ116 (by omega) (by omega) (by omega) (by omega) (by omega) (by omega) (by have := zt_4; omega) (by have := zt_4; omega) (zbot _) (ztop _) (by have := zt_4; have := zt_0; omega)
          · skip
            refine w_ine_f dX9_ahead_158 (t := 172) rfl (by omega) ?_
            refine w_lo dX9_ahead_161 rfl rfl rfl rfl ?_
            refine w_lo dX9_ahead_162 rfl rfl rfl rfl ?_
            refine w_gf dX9_ahead_163 rfl hJ106.1.1 zs_386 (zr_386_0 hJ106.1) ?_
            refine w_lo dX9_ahead_166 rfl rfl rfl rfl ?_
            refine w_iai dX9_ahead_167 hJ106.1 zs_387 (by omega) (by omega) zu_387 ?_
            intro x122 f119 h120 h121
            refine w_pfi dX9_ahead_168 rfl hJ106 zs_386 (Nat.le_of_ble_eq_true rfl) zo_386_6 (zbot _) (ztop _) (zIR_s (zIR_s (zIR_s (zIR_k (by omega) (by omega))))) rfl rfl rfl ?_
            intro M123 hJ124 f125 hn126
            refine w_en dX9_ahead_171 rfl ?_
            exact ⟨_, rfl, hJ124, trivial⟩
      · intro M v200_1 v200_2 v200_3 v200_4 v200_5 hJ v200_10 v200_11 v200_20 v200_21 v200_30 v200_31 v200_40 v200_41 v200_50 v200_51 hn
        refine w_lo dX9_ahead_200 rfl rfl rfl rfl ?_
        refine w_lo dX9_ahead_201 rfl rfl rfl rfl ?_
        refine w_gfi dX9_ahead_202 rfl hJ.1 zs_386 (Nat.le_of_ble_eq_true rfl) zo_386_2 ?_
        intro x127 f128 h129 h130
        rcases zcut v200_1.toInt x127.toInt with h131 | h131
        · skip
          refine w_cge_f dX9_ahead_205 (t := 323) rfl (by omega) ?_
          refine w_lo dX9_ahead_208 rfl rfl rfl rfl ?_
          rcases Int.decEq v200_2.toInt (0 : Int) with h132 | h132
          · skip
            refine w_ieq_f dX9_ahead_209 (t := 227) rfl (by omega) ?_
            refine w_lo dX9_ahead_212 rfl rfl rfl rfl ?_
            refine w_gf dX9_ahead_213 rfl hJ.1.1 zs_386 (zr_386_0 hJ.1) ?_
            refine w_lo dX9_ahead_216 rfl rfl rfl rfl ?_
            refine w_iai dX9_ahead_217 hJ.1 zs_387 (by omega) (by omega) zu_387 ?_
            intro x136 f133 h134 h135
            refine w_ss dX9_ahead_218 rfl rfl (As := [.int x136]) rfl rfl (Nat.le_of_ble_eq_true rfl) ?_
            refine ZV.of (ini := false) rfl (Nat.le_of_ble_eq_true rfl) (by decide +kernel) ?_
            show ZW _ _ _ _ _ _ _ (0, [some (.int x136)], [], M)
            refine w_lo dX9_isLetter_0 rfl rfl rfl rfl ?_
            refine w_bi dX9_isLetter_1 (c := 97) (by decide) ?_
            rcases zcut x136.toInt (97 : Int) with h137 | h137
            · skip
              refine w_clt_t dX9_isLetter_3 (t := 16) rfl (by have := zt_97; omega) ?_
              refine w_ic dX9_isLetter_16 zi_0 ?_
              refine w_en dX9_isLetter_17 rfl ?_
              show ZW _ _ _ _ _ _ _ (221, [some (.ref 386), some (.int v200_1), some (.int v200_2), some (.int v200_3), some (.int v200_4), some (.int v200_5)], [.int 0], M)
              refine w_ieq_t dX9_ahead_221 (t := 323) rfl (by have := zt_0; omega) ?_
              refine w_lo dX9_ahead_323 rfl rfl rfl rfl ?_
              refine w_lo dX9_ahead_324 rfl rfl rfl rfl ?_
              refine w_pfi dX9_ahead_325 rfl hJ zs_386 (Nat.le_of_ble_eq_true rfl) zo_386_5 (by omega) (by omega) (zIR_s (zIR_s (zIR_k (by omega) (by omega)))) rfl rfl rfl ?_
              intro M138 hJ139 f140 hn141
              refine w_en dX9_ahead_328 rfl ?_
              exact ⟨_, rfl, hJ139, trivial⟩
            · skip
              refine w_clt_f dX9_isLetter_3 (t := 16) rfl (by have := zt_97; omega) ?_
              refine w_lo dX9_isLetter_6 rfl rfl rfl rfl ?_
              refine w_bi dX9_isLetter_7 (c := 122) (by decide) ?_
              rcases zcut (122 : Int) x136.toInt with h142 | h142
              · skip
                refine w_cgt_t dX9_isLetter_9 (t := 16) rfl (by have := zt_122; omega) ?_
                refine w_ic dX9_isLetter_16 zi_0 ?_
                refine w_en dX9_isLetter_17 rfl ?_
                show ZW _ _ _ _ _ _ _ (221, [some (.ref 386), some (.int v200_1), some (.int v200_2), some (.int v200_3), some (.int v200_4), some (.int v200_5)], [.int 0], M)
                refine w_ieq_t dX9_ahead_221 (t := 323) rfl (by have := zt_0; omega) ?_
                refine w_lo dX9_ahead_323 rfl rfl rfl rfl ?_
                refine w_lo dX9_ahead_324 rfl rfl rfl rfl ?_
                refine w_pfi dX9_ahead_325 rfl hJ zs_386 (Nat.le_of_ble_eq_true rfl) zo_386_5 (by omega) (by omega) (zIR_s (zIR_s (zIR_k (by omega) (by omega)))) rfl rfl rfl ?_
                intro M143 hJ144 f145 hn146
                refine w_en dX9_ahead_328 rfl ?_
                exact ⟨_, rfl, hJ144, trivial⟩
              · skip
                refine w_cgt_f dX9_isLetter_9 (t := 16) rfl (by have := zt_122; omega) ?_
                refine w_ic dX9_isLetter_12 zi_1 ?_
                refine w_gt dX9_isLetter_13 (t := 17) rfl ?_
                refine w_en dX9_isLetter_17 rfl ?_
                show ZW _ _ _ _ _ _ _ (221, [some (.ref 386), some (.int v200_1), some (.int v200_2), some (.int v200_3), some (.int v200_4), some (.int v200_5)], [.int 1], M)
                refine w_ieq_f dX9_ahead_221 (t := 323) rfl (by have := zt_1; omega) ?_
                refine w_gt dX9_ahead_224 (t := 239) rfl ?_
                exact ih239 M v200_1 v200_2 v200_3 v200_4 v200_5 hJ (by omega) (by omega) (by omega) (by omega) (by omega) (by omega) (by omega) (by omega) (zbot _) (ztop _) (by omega)
          · skip
            refine w_ieq_t dX9_ahead_209 (t := 227) rfl (by omega) ?_
            refine w_lo dX9_ahead_227 rfl rfl rfl rfl ?_
            refine w_gf dX9_ahead_228 rfl hJ.1.1 zs_386 (zr_386_0 hJ.1) ?_
            refine w_lo dX9_ahead_231 rfl rfl rfl rfl ?_
            refine w_iai dX9_ahead_232 hJ.1 zs_387 (by omega) (by omega) zu_387 ?_
            intro x150 f147 h148 h149
            refine w_ss dX9_ahead_233 rfl rfl (As := [.int x150]) rfl rfl (Nat.le_of_ble_eq_true rfl) ?_
            refine ZV.of (ini := false) rfl (Nat.le_of_ble_eq_true rfl) (by decide +kernel) ?_
            show ZW _ _ _ _ _ _ _ (0, [some (.int x150)], [], M)
            refine w_lo dX9_isDigit_0 rfl rfl rfl rfl ?_
            refine w_bi dX9_isDigit_1 (c := 48) (by decide) ?_
            rcases zcut x150.toInt (48 : Int) with h151 | h151
            · skip
              refine w_clt_t dX9_isDigit_3 (t := 16) rfl (by have := zt_48; omega) ?_
              refine w_ic dX9_isDigit_16 zi_0 ?_
              refine w_en dX9_isDigit_17 rfl ?_
              show ZW _ _ _ _ _ _ _ (236, [some (.ref 386), some (.int v200_1), some (.int v200_2), some (.int v200_3), some (.int v200_4), some (.int v200_5)], [.int 0], M)
              refine w_ieq_t dX9_ahead_236 (t := 323) rfl (by have := zt_0; omega) ?_
              refine w_lo dX9_ahead_323 rfl rfl rfl rfl ?_
              refine w_lo dX9_ahead_324 rfl rfl rfl rfl ?_
              refine w_pfi dX9_ahead_325 rfl hJ zs_386 (Nat.le_of_ble_eq_true rfl) zo_386_5 (by omega) (by omega) (zIR_s (zIR_s (zIR_k (by omega) (by omega)))) rfl rfl rfl ?_
              intro M152 hJ153 f154 hn155
              refine w_en dX9_ahead_328 rfl ?_
              exact ⟨_, rfl, hJ153, trivial⟩
            · skip
              refine w_clt_f dX9_isDigit_3 (t := 16) rfl (by have := zt_48; omega) ?_
              refine w_lo dX9_isDigit_6 rfl rfl rfl rfl ?_
              refine w_bi dX9_isDigit_7 (c := 57) (by decide) ?_
              rcases zcut (57 : Int) x150.toInt with h156 | h156
              · skip
                refine w_cgt_t dX9_isDigit_9 (t := 16) rfl (by have := zt_57; omega) ?_
                refine w_ic dX9_isDigit_16 zi_0 ?_
                refine w_en dX9_isDigit_17 rfl ?_
                show ZW _ _ _ _ _ _ _ (236, [some (.ref 386), some (.int v200_1), some (.int v200_2), some (.int v200_3), some (.int v200_4), some (.int v200_5)], [.int 0], M)
                refine w_ieq_t dX9_ahead_236 (t := 323) rfl (by have := zt_0; omega) ?_
                refine w_lo dX9_ahead_323 rfl rfl rfl rfl ?_
                refine w_lo dX9_ahead_324 rfl rfl rfl rfl ?_
                refine w_pfi dX9_ahead_325 rfl hJ zs_386 (Nat.le_of_ble_eq_true rfl) zo_386_5 (by omega) (by omega) (zIR_s (zIR_s (zIR_k (by omega) (by omega)))) rfl rfl rfl ?_
                intro M157 hJ158 f159 hn160
                refine w_en dX9_ahead_328 rfl ?_
                exact ⟨_, rfl, hJ158, trivial⟩
              · skip
                refine w_cgt_f dX9_isDigit_9 (t := 16) rfl (by have := zt_57; omega) ?_
                refine w_ic dX9_isDigit_12 zi_1 ?_
                refine w_gt dX9_isDigit_13 (t := 17) rfl ?_
                refine w_en dX9_isDigit_17 rfl ?_
                show ZW _ _ _ _ _ _ _ (236, [some (.ref 386), some (.int v200_1), some (.int v200_2), some (.int v200_3), some (.int v200_4), some (.int v200_5)], [.int 1], M)
                refine w_ieq_f dX9_ahead_236 (t := 323) rfl (by have := zt_1; omega) ?_
                exact ih239 M v200_1 v200_2 v200_3 v200_4 v200_5 hJ (by omega) (by omega) (by omega) (by omega) (by omega) (by omega) (by omega) (by omega) (zbot _) (ztop _) (by omega)
        · skip
          refine w_cge_t dX9_ahead_205 (t := 323) rfl (by omega) ?_
          refine w_lo dX9_ahead_323 rfl rfl rfl rfl ?_
          refine w_lo dX9_ahead_324 rfl rfl rfl rfl ?_
          refine w_pfi dX9_ahead_325 rfl hJ zs_386 (Nat.le_of_ble_eq_true rfl) zo_386_5 (by omega) (by omega) (zIR_s (zIR_s (zIR_k (by omega) (by omega)))) rfl rfl rfl ?_
          intro M161 hJ162 f163 hn164
          refine w_en dX9_ahead_328 rfl ?_
          exact ⟨_, rfl, hJ162, trivial⟩
      · intro M v239_1 v239_2 v239_3 v239_4 v239_5 hJ v239_10 v239_11 v239_20 v239_21 v239_30 v239_31 v239_40 v239_41 v239_50 v239_51 hn
        refine w_lo dX9_ahead_239 rfl rfl rfl rfl ?_
        refine w_lo dX9_ahead_241 rfl rfl rfl rfl ?_
        rcases Int.decEq v239_5.toInt v239_4.toInt with h165 | h165
        · skip
          refine w_cne_t dX9_ahead_243 (t := 252) rfl (by omega) ?_
          exact ih252 M v239_1 v239_2 v239_3 v239_4 v239_5 hJ (by omega) (by omega) (by omega) (by omega) (by omega) (by omega) (by omega) (by omega) (zbot _) (ztop _) (by omega)
        · skip
          refine w_cne_f dX9_ahead_243 (t := 252) rfl (by omega) ?_
          refine w_lo dX9_ahead_246 rfl rfl rfl rfl ?_
          refine w_ic dX9_ahead_247 zi_1 ?_
          refine w_lo dX9_ahead_248 rfl rfl rfl rfl ?_
          refine w_iv dX9_ahead_249 rfl rfl (As := [.int 1, .int v239_1]) rfl rfl hJ.1.1 zs_386 (Nat.le_of_ble_eq_true rfl) ?_
          refine ZV.of (ini := false) rfl (Nat.le_of_ble_eq_true rfl) (by decide +kernel) ?_
          show ZW _ _ _ _ _ _ _ (0, [some (.ref 386), some (.int 1), some (.int v239_1)], [], M)
          refine w_lo dX9_blame_0 rfl rfl rfl rfl ?_
          refine w_gfi dX9_blame_1 rfl hJ.1 zs_386 (Nat.le_of_ble_eq_true rfl) zo_386_8 ?_
          intro x166 f167 h168 h169
          rcases zcut (0 : Int) x166.toInt with h170 | h170
          · skip
            refine w_ile_f dX9_blame_4 (t := 8) rfl (by omega) ?_
            refine w_en dX9_blame_7 rfl ?_
            show ZW _ _ _ _ _ _ _ (252, [some (.ref 386), some (.int v239_1), some (.int v239_2), some (.int v239_3), some (.int v239_4), some (.int v239_5)], [], M)
            exact ih252 M v239_1 v239_2 v239_3 v239_4 v239_5 hJ (by omega) (by omega) (by omega) (by omega) (by omega) (by omega) (by omega) (by omega) (zbot _) (ztop _) (by omega)
          · skip
            refine w_ile_t dX9_blame_4 (t := 8) rfl (by omega) ?_
            refine w_lo dX9_blame_8 rfl rfl rfl rfl ?_
            refine w_lo dX9_blame_9 rfl rfl rfl rfl ?_
            refine w_pfi dX9_blame_10 rfl hJ zs_386 (Nat.le_of_ble_eq_true rfl) zo_386_8 (by have := zt_1; omega) (by have := zt_1; omega) (zIR_s (zIR_s (zIR_s (zIR_s (zIR_s (zIR_k (by omega) (by omega))))))) rfl rfl rfl ?_
            intro M171 hJ172 f173 hn174
            refine w_lo dX9_blame_13 rfl rfl rfl rfl ?_
            refine w_lo dX9_blame_14 rfl rfl rfl rfl ?_
            refine w_pfi dX9_blame_15 rfl hJ172 zs_386 (Nat.le_of_ble_eq_true rfl) zo_386_9 (by omega) (by omega) (zIR_s (zIR_s (zIR_s (zIR_s (zIR_s (zIR_s (zIR_k (by omega) (by omega)))))))) rfl rfl rfl ?_
            intro M175 hJ176 f177 hn178
            refine w_en dX9_blame_18 rfl ?_
            show ZW _ _ _ _ _ _ _ (252, [some (.ref 386), some (.int v239_1), some (.int v239_2), some (.int v239_3), some (.int v239_4), some (.int v239_5)], [], M175)
            exact ih252 M175 v239_1 v239_2 v239_3 v239_4 v239_5 hJ176 (by omega) (by omega) (by omega) (by omega) (by omega) (by omega) (by omega) (by omega) (zbot _) (ztop _) (by omega)
      · intro M v252_1 v252_2 v252_3 v252_4 v252_5 hJ v252_10 v252_11 v252_20 v252_21 v252_30 v252_31 v252_40 v252_41 v252_50 v252_51 hn
        refine w_lo dX9_ahead_252 rfl rfl rfl rfl ?_
        refine w_lo dX9_ahead_254 rfl rfl rfl rfl ?_
        rcases zcut v252_5.toInt v252_4.toInt with h179 | h179
        · skip
          refine w_cge_f dX9_ahead_256 (t := 282) rfl (by omega) ?_
          refine w_lo dX9_ahead_259 rfl rfl rfl rfl ?_
          rcases Int.decEq v252_2.toInt (0 : Int) with h180 | h180
          · skip
            refine w_ieq_f dX9_ahead_260 (t := 282) rfl (by omega) ?_
            refine w_lo dX9_ahead_263 rfl rfl rfl rfl ?_
            refine w_lo dX9_ahead_264 rfl rfl rfl rfl ?_
            refine w_gfl dX9_ahead_265 rfl hJ.1 zs_386 (Nat.le_of_ble_eq_true rfl) zo_386_7 ?_
            intro y184 f181 h182 h183
            refine w_bi dX9_ahead_268 (c := 8) (by decide) ?_
            refine w_puL dX9_ahead_270 rfl rfl ?_
            intro y185
            refine w_lo dX9_ahead_271 rfl rfl rfl rfl ?_
            refine w_gf dX9_ahead_272 rfl hJ.1.1 zs_386 (zr_386_0 hJ.1) ?_
            refine w_lo dX9_ahead_275 rfl rfl rfl rfl ?_
            refine w_iai dX9_ahead_276 hJ.1 zs_387 (by omega) (by omega) zu_387 ?_
            intro x189 f186 h187 h188
            refine w_i2l dX9_ahead_277 ?_
            intro y190 h191
            skip
            refine w_puL dX9_ahead_278 rfl rfl ?_
            intro y192
            refine w_pfl dX9_ahead_279 rfl hJ zs_386 (Nat.le_of_ble_eq_true rfl) zo_386_7 (zlbot _) (zltop _) (zIR_s (zIR_s (zIR_s (zIR_s (zIR_k (by omega) (by omega)))))) rfl rfl rfl ?_
            intro M193 hJ194 f195 hn196
            exact ih282 M193 v252_1 v252_2 v252_3 v252_4 v252_5 hJ194 (by omega) (by omega) (by omega) (by omega) (by omega) (by omega) (by omega) (by omega) (zbot _) (ztop _) (by omega)
          · skip
            refine w_ieq_t dX9_ahead_260 (t := 282) rfl (by omega) ?_
            exact ih282 M v252_1 v252_2 v252_3 v252_4 v252_5 hJ (by omega) (by omega) (by omega) (by omega) (by omega) (by omega) (by omega) (by omega) (zbot _) (ztop _) (by omega)
        · skip
          refine w_cge_t dX9_ahead_256 (t := 282) rfl (by omega) ?_
          exact ih282 M v252_1 v252_2 v252_3 v252_4 v252_5 hJ (by omega) (by omega) (by omega) (by omega) (by omega) (by omega) (by omega) (by omega) (zbot _) (ztop _) (by omega)
      · intro M v282_1 v282_2 v282_3 v282_4 v282_5 hJ v282_10 v282_11 v282_20 v282_21 v282_30 v282_31 v282_40 v282_41 v282_50 v282_51 hn
        refine w_lo dX9_ahead_282 rfl rfl rfl rfl ?_
        refine w_lo dX9_ahead_284 rfl rfl rfl rfl ?_
        rcases zcut v282_5.toInt v282_4.toInt with h197 | h197
        · skip
          refine w_cge_f dX9_ahead_286 (t := 314) rfl (by omega) ?_
          refine w_lo dX9_ahead_289 rfl rfl rfl rfl ?_
          rcases Int.decEq v282_3.toInt (0 : Int) with h198 | h198
          · skip
            refine w_ieq_f dX9_ahead_290 (t := 314) rfl (by omega) ?_
            refine w_lo dX9_ahead_293 rfl rfl rfl rfl ?_
            refine w_bi dX9_ahead_294 (c := 10) (by decide) ?_
            refine w_lo dX9_ahead_296 rfl rfl rfl rfl ?_
            refine w_gfi dX9_ahead_297 rfl hJ.1 zs_386 (Nat.le_of_ble_eq_true rfl) zo_386_6 ?_
            intro x199 f200 h201 h202
            refine w_puI dX9_ahead_300 rfl rfl ?_
            intro x203
            refine w_lo dX9_ahead_301 rfl rfl rfl rfl ?_
            refine w_gf dX9_ahead_302 rfl hJ.1.1 zs_386 (zr_386_0 hJ.1) ?_
            refine w_lo dX9_ahead_305 rfl rfl rfl rfl ?_
            refine w_iai dX9_ahead_306 hJ.1 zs_387 (by omega) (by omega) zu_387 ?_
            intro x207 f204 h205 h206
            refine w_puI dX9_ahead_307 rfl rfl ?_
            intro x208
            refine w_bi dX9_ahead_308 (c := 48) (by decide) ?_
            refine w_puI dX9_ahead_310 rfl rfl ?_
            intro x209
            refine w_pfi dX9_ahead_311 rfl hJ zs_386 (Nat.le_of_ble_eq_true rfl) zo_386_6 (zbot _) (ztop _) (zIR_s (zIR_s (zIR_s (zIR_k (by omega) (by omega))))) rfl rfl rfl ?_
            intro M210 hJ211 f212 hn213
            refine w_inc (kk := 5) dX9_ahead_314 rfl (m := 1) (by decide) (by omega) ?_
            intro x214 h215
            refine ⟨_, rfl, ?_⟩
            show ZW _ _ _ _ _ _ _ (317, [some (.ref 386), some (.int v282_1), some (.int v282_2), some (.int v282_3), some (.int v282_4), some (.int x214)], [], M210)
            refine w_inc (kk := 1) dX9_ahead_317 rfl (m := 1) (by decide) (by omega) ?_
            intro x216 h217
            refine ⟨_, rfl, ?_⟩
            show ZW _ _ _ _ _ _ _ (320, [some (.ref 386), some (.int x216), some (.int v282_2), some (.int v282_3), some (.int v282_4), some (.int x214)], [], M210)
            refine w_gt dX9_ahead_320 (t := 200) rfl ?_
            exact ih200 M210 x216 v282_2 v282_3 v282_4 x214 hJ211 (by omega) (by omega) (by omega) (by omega) (by omega) (by omega) (by omega) (by omega) (zbot _) (ztop _) (by omega)
          · skip
            refine w_ieq_t dX9_ahead_290 (t := 314) rfl (by omega) ?_
            refine w_inc (kk := 5) dX9_ahead_314 rfl (m := 1) (by decide) (by omega) ?_
            intro x218 h219
            refine ⟨_, rfl, ?_⟩
            show ZW _ _ _ _ _ _ _ (317, [some (.ref 386), some (.int v282_1), some (.int v282_2), some (.int v282_3), some (.int v282_4), some (.int x218)], [], M)
            refine w_inc (kk := 1) dX9_ahead_317 rfl (m := 1) (by decide) (by omega) ?_
            intro x220 h221
            refine ⟨_, rfl, ?_⟩
            show ZW _ _ _ _ _ _ _ (320, [some (.ref 386), some (.int x220), some (.int v282_2), some (.int v282_3), some (.int v282_4), some (.int x218)], [], M)
            refine w_gt dX9_ahead_320 (t := 200) rfl ?_
            exact ih200 M x220 v282_2 v282_3 v282_4 x218 hJ (by omega) (by omega) (by omega) (by omega) (by omega) (by omega) (by omega) (by omega) (zbot _) (ztop _) (by omega)
        · skip
          refine w_cge_t dX9_ahead_286 (t := 314) rfl (by omega) ?_
          refine w_incT (kk := 5) dX9_ahead_314 rfl ?_
          intro x222
          refine ⟨_, rfl, ?_⟩
          show ZW _ _ _ _ _ _ _ (317, [some (.ref 386), some (.int v282_1), some (.int v282_2), some (.int v282_3), some (.int v282_4), some (.int x222)], [], M)
          refine w_inc (kk := 1) dX9_ahead_317 rfl (m := 1) (by decide) (by omega) ?_
          intro x224 h225
          refine ⟨_, rfl, ?_⟩
          show ZW _ _ _ _ _ _ _ (320, [some (.ref 386), some (.int x224), some (.int v282_2), some (.int v282_3), some (.int v282_4), some (.int x222)], [], M)
          refine w_gt dX9_ahead_320 (t := 200) rfl ?_
          exact ih200 M x224 v282_2 v282_3 v282_4 x222 hJ (by omega) (by omega) (by omega) (by omega) (by omega) (by omega) (by omega) (by omega) (zbot _) (ztop _) (by omega)
  obtain ⟨ih5, ih41, ih93, ih125, ih131, ih200, ih239, ih252, ih282⟩ := main 35258
  show ZW _ _ _ _ _ _ _ (0, [some (.ref 386), none, none, none, none, none], [], M0)
  refine w_lo dX9_ahead_0 rfl rfl rfl rfl ?_
  refine w_gfi dX9_ahead_1 rfl hJ0.1 zs_386 (Nat.le_of_ble_eq_true rfl) zo_386_5 ?_
  intro x226 f227 h228 h229
  refine w_lo (ml' := [some (.ref 386), some (.int x226), none, none, none, none]) dX9_ahead_4 rfl rfl rfl rfl ?_
  exact ih5 M0 x226 none none none none hJ0 (by omega) (by omega) (by omega)
set_option maxRecDepth 100000 in
theorem k_2319 {X : List Int32} {d N : Nat} {M0 : zM} (a0 : Int64) (hN : N ≤ 600) (hB0 : zB N M0) : ZV X (d + 1) 2319 [.ref 386, .long a0] M0 (zRI N [] M0 (0) (1) (fun _ _ => True)) := by
  have hJ0 : zJ N [] M0 M0 := zJ_refl hB0
  refine ZV.of (ini := false) rfl (Nat.le_of_ble_eq_true rfl) (by decide +kernel) ?_
  show ZW _ _ _ _ _ _ _ (0, [some (.ref 386), some (.long a0), none], [], M0)
  refine w_lo dX9_isOwn_0 rfl rfl rfl rfl ?_
  refine w_me (st' := [.long (6451065 : Int64), .long a0]) dX9_isOwn_1 rfl rfl rfl rfl rfl ?_
  refine w_lcm dX9_isOwn_4 ?_
  intro x1 h2
  have := ztl_6451065
  rcases Int.decEq x1.toInt (0 : Int) with h3 | h3
  · skip
    refine w_ieq_f dX9_isOwn_5 (t := 40) rfl (by omega) ?_
    refine w_lo dX9_isOwn_8 rfl rfl rfl rfl ?_
    refine w_me (st' := [.long (131277443786868 : Int64), .long a0]) dX9_isOwn_9 rfl rfl rfl rfl rfl ?_
    refine w_lcm dX9_isOwn_12 ?_
    intro x4 h5
    have := ztl_131277443786868
    rcases Int.decEq x4.toInt (0 : Int) with h6 | h6
    · skip
      refine w_ieq_f dX9_isOwn_13 (t := 40) rfl (by omega) ?_
      refine w_lo dX9_isOwn_16 rfl rfl rfl rfl ?_
      refine w_me (st' := [.long (431198598248 : Int64), .long a0]) dX9_isOwn_17 rfl rfl rfl rfl rfl ?_
      refine w_lcm dX9_isOwn_20 ?_
      intro x7 h8
      have := ztl_431198598248
      rcases Int.decEq x7.toInt (0 : Int) with h9 | h9
      · skip
        refine w_ieq_f dX9_isOwn_21 (t := 40) rfl (by omega) ?_
        refine w_lo dX9_isOwn_24 rfl rfl rfl rfl ?_
        refine w_me (st' := [.long (1868850291 : Int64), .long a0]) dX9_isOwn_25 rfl rfl rfl rfl rfl ?_
        refine w_lcm dX9_isOwn_28 ?_
        intro x10 h11
        have := ztl_1868850291
        rcases Int.decEq x10.toInt (0 : Int) with h12 | h12
        · skip
          refine w_ieq_f dX9_isOwn_29 (t := 40) rfl (by omega) ?_
          refine w_lo dX9_isOwn_32 rfl rfl rfl rfl ?_
          refine w_me (st' := [.long (483006377075 : Int64), .long a0]) dX9_isOwn_33 rfl rfl rfl rfl rfl ?_
          refine w_lcm dX9_isOwn_36 ?_
          intro x13 h14
          have := ztl_483006377075
          rcases Int.decEq x13.toInt (0 : Int) with h15 | h15
          · skip
            refine w_ine_t dX9_isOwn_37 (t := 42) rfl (by omega) ?_
            refine w_lo dX9_isOwn_42 rfl rfl rfl rfl ?_
            refine w_me (st' := [.long (126918153364851 : Int64), .long a0]) dX9_isOwn_43 rfl rfl rfl rfl rfl ?_
            refine w_lcm dX9_isOwn_46 ?_
            intro x16 h17
            have := ztl_126918153364851
            rcases Int.decEq x16.toInt (0 : Int) with h18 | h18
            · skip
              refine w_ieq_f dX9_isOwn_47 (t := 82) rfl (by omega) ?_
              refine w_lo dX9_isOwn_50 rfl rfl rfl rfl ?_
              refine w_me (st' := [.long (444133766004 : Int64), .long a0]) dX9_isOwn_51 rfl rfl rfl rfl rfl ?_
              refine w_lcm dX9_isOwn_54 ?_
              intro x19 h20
              have := ztl_444133766004
              rcases Int.decEq x19.toInt (0 : Int) with h21 | h21
              · skip
                refine w_ieq_f dX9_isOwn_55 (t := 82) rfl (by omega) ?_
                refine w_lo dX9_isOwn_58 rfl rfl rfl rfl ?_
                refine w_me (st' := [.long (495739560811 : Int64), .long a0]) dX9_isOwn_59 rfl rfl rfl rfl rfl ?_
                refine w_lcm dX9_isOwn_62 ?_
                intro x22 h23
                have := ztl_495739560811
                rcases Int.decEq x22.toInt (0 : Int) with h24 | h24
                · skip
                  refine w_ieq_f dX9_isOwn_63 (t := 82) rfl (by omega) ?_
                  refine w_lo dX9_isOwn_66 rfl rfl rfl rfl ?_
                  refine w_me (st' := [.long (24948 : Int64), .long a0]) dX9_isOwn_67 rfl rfl rfl rfl rfl ?_
                  refine w_lcm dX9_isOwn_70 ?_
                  intro x25 h26
                  have := ztl_24948
                  rcases Int.decEq x25.toInt (0 : Int) with h27 | h27
                  · skip
                    refine w_ieq_f dX9_isOwn_71 (t := 82) rfl (by omega) ?_
                    refine w_lo dX9_isOwn_74 rfl rfl rfl rfl ?_
                    refine w_me (st' := [.long (431415976301 : Int64), .long a0]) dX9_isOwn_75 rfl rfl rfl rfl rfl ?_
                    refine w_lcm dX9_isOwn_78 ?_
                    intro x28 h29
                    have := ztl_431415976301
                    rcases Int.decEq x28.toInt (0 : Int) with h30 | h30
                    · skip
                      refine w_ine_t dX9_isOwn_79 (t := 84) rfl (by omega) ?_
                      refine w_lo dX9_isOwn_84 rfl rfl rfl rfl ?_
                      refine w_me (st' := [.long (7632231 : Int64), .long a0]) dX9_isOwn_85 rfl rfl rfl rfl rfl ?_
                      refine w_lcm dX9_isOwn_88 ?_
                      intro x31 h32
                      have := ztl_7632231
                      rcases Int.decEq x31.toInt (0 : Int) with h33 | h33
                      · skip
                        refine w_ieq_f dX9_isOwn_89 (t := 124) rfl (by omega) ?_
                        refine w_lo dX9_isOwn_92 rfl rfl rfl rfl ?_
                        refine w_me (st' := [.long (465491424371 : Int64), .long a0]) dX9_isOwn_93 rfl rfl rfl rfl rfl ?_
                        refine w_lcm dX9_isOwn_96 ?_
                        intro x34 h35
                        have := ztl_465491424371
                        rcases Int.decEq x34.toInt (0 : Int) with h36 | h36
                        · skip
                          refine w_ieq_f dX9_isOwn_97 (t := 124) rfl (by omega) ?_
                          refine w_lo dX9_isOwn_100 rfl rfl rfl rfl ?_
                          refine w_me (st' := [.long (123563851081075 : Int64), .long a0]) dX9_isOwn_101 rfl rfl rfl rfl rfl ?_
                          refine w_lcm dX9_isOwn_104 ?_
                          intro x37 h38
                          have := ztl_123563851081075
                          rcases Int.decEq x37.toInt (0 : Int) with h39 | h39
                          · skip
                            refine w_ieq_f dX9_isOwn_105 (t := 124) rfl (by omega) ?_
                            refine w_lo dX9_isOwn_108 rfl rfl rfl rfl ?_
                            refine w_me (st' := [.long (1885434739 : Int64), .long a0]) dX9_isOwn_109 rfl rfl rfl rfl rfl ?_
                            refine w_lcm dX9_isOwn_112 ?_
                            intro x40 h41
                            have := ztl_1885434739
                            rcases Int.decEq x40.toInt (0 : Int) with h42 | h42
                            · skip
                              refine w_ieq_f dX9_isOwn_113 (t := 124) rfl (by omega) ?_
                              refine w_lo dX9_isOwn_116 rfl rfl rfl rfl ?_
                              refine w_me (st' := [.long (1684366704 : Int64), .long a0]) dX9_isOwn_117 rfl rfl rfl rfl rfl ?_
                              refine w_lcm dX9_isOwn_120 ?_
                              intro x43 h44
                              have := ztl_1684366704
                              rcases Int.decEq x43.toInt (0 : Int) with h45 | h45
                              · skip
                                refine w_ine_t dX9_isOwn_121 (t := 126) rfl (by omega) ?_
                                refine w_lo dX9_isOwn_126 rfl rfl rfl rfl ?_
                                refine w_me (st' := [.long (2003330414 : Int64), .long a0]) dX9_isOwn_127 rfl rfl rfl rfl rfl ?_
                                refine w_lcm dX9_isOwn_130 ?_
                                intro x46 h47
                                have := ztl_2003330414
                                rcases Int.decEq x46.toInt (0 : Int) with h48 | h48
                                · skip
                                  refine w_ieq_f dX9_isOwn_131 (t := 166) rfl (by omega) ?_
                                  refine w_lo dX9_isOwn_134 rfl rfl rfl rfl ?_
                                  refine w_me (st' := [.long (28530 : Int64), .long a0]) dX9_isOwn_135 rfl rfl rfl rfl rfl ?_
                                  refine w_lcm dX9_isOwn_138 ?_
                                  intro x49 h50
                                  have := ztl_28530
                                  rcases Int.decEq x49.toInt (0 : Int) with h51 | h51
                                  · skip
                                    refine w_ieq_f dX9_isOwn_139 (t := 166) rfl (by omega) ?_
                                    refine w_lo dX9_isOwn_142 rfl rfl rfl rfl ?_
                                    refine w_me (st' := [.long (6385252 : Int64), .long a0]) dX9_isOwn_143 rfl rfl rfl rfl rfl ?_
                                    refine w_lcm dX9_isOwn_146 ?_
                                    intro x52 h53
                                    have := ztl_6385252
                                    rcases Int.decEq x52.toInt (0 : Int) with h54 | h54
                                    · skip
                                      refine w_ieq_f dX9_isOwn_147 (t := 166) rfl (by omega) ?_
                                      refine w_lo dX9_isOwn_150 rfl rfl rfl rfl ?_
                                      refine w_me (st' := [.long (7237492 : Int64), .long a0]) dX9_isOwn_151 rfl rfl rfl rfl rfl ?_
                                      refine w_lcm dX9_isOwn_154 ?_
                                      intro x55 h56
                                      have := ztl_7237492
                                      rcases Int.decEq x55.toInt (0 : Int) with h57 | h57
                                      · skip
                                        refine w_ieq_f dX9_isOwn_155 (t := 166) rfl (by omega) ?_
                                        refine w_lo dX9_isOwn_158 rfl rfl rfl rfl ?_
                                        refine w_me (st' := [.long (6384748 : Int64), .long a0]) dX9_isOwn_159 rfl rfl rfl rfl rfl ?_
                                        refine w_lcm dX9_isOwn_162 ?_
                                        intro x58 h59
                                        have := ztl_6384748
                                        rcases Int.decEq x58.toInt (0 : Int) with h60 | h60
                                        · skip
                                          refine w_ine_t dX9_isOwn_163 (t := 168) rfl (by omega) ?_
                                          refine w_lo dX9_isOwn_168 rfl rfl rfl rfl ?_
                                          refine w_me (st' := [.long (439956431717 : Int64), .long a0]) dX9_isOwn_169 rfl rfl rfl rfl rfl ?_
                                          refine w_lcm dX9_isOwn_172 ?_
                                          intro x61 h62
                                          have := ztl_439956431717
                                          rcases Int.decEq x61.toInt (0 : Int) with h63 | h63
                                          · skip
                                            refine w_ieq_f dX9_isOwn_173 (t := 208) rfl (by omega) ?_
                                            refine w_lo dX9_isOwn_176 rfl rfl rfl rfl ?_
                                            refine w_me (st' := [.long (482854658917 : Int64), .long a0]) dX9_isOwn_177 rfl rfl rfl rfl rfl ?_
                                            refine w_lcm dX9_isOwn_180 ?_
                                            intro x64 h65
                                            have := ztl_482854658917
                                            rcases Int.decEq x64.toInt (0 : Int) with h66 | h66
                                            · skip
                                              refine w_ieq_f dX9_isOwn_181 (t := 208) rfl (by omega) ?_
                                              refine w_lo dX9_isOwn_184 rfl rfl rfl rfl ?_
                                              refine w_me (st' := [.long (120299592184933 : Int64), .long a0]) dX9_isOwn_185 rfl rfl rfl rfl rfl ?_
                                              refine w_lcm dX9_isOwn_188 ?_
                                              intro x67 h68
                                              have := ztl_120299592184933
                                              rcases Int.decEq x67.toInt (0 : Int) with h69 | h69
                                              · skip
                                                refine w_ieq_f dX9_isOwn_189 (t := 208) rfl (by omega) ?_
                                                refine w_lo dX9_isOwn_192 rfl rfl rfl rfl ?_
                                                refine w_me (st' := [.long (108187867505765 : Int64), .long a0]) dX9_isOwn_193 rfl rfl rfl rfl rfl ?_
                                                refine w_lcm dX9_isOwn_196 ?_
                                                intro x70 h71
                                                have := ztl_108187867505765
                                                rcases Int.decEq x70.toInt (0 : Int) with h72 | h72
                                                · skip
                                                  refine w_ieq_f dX9_isOwn_197 (t := 208) rfl (by omega) ?_
                                                  refine w_lo dX9_isOwn_200 rfl rfl rfl rfl ?_
                                                  refine w_me (st' := [.long (1717922932 : Int64), .long a0]) dX9_isOwn_201 rfl rfl rfl rfl rfl ?_
                                                  refine w_lcm dX9_isOwn_204 ?_
                                                  intro x73 h74
                                                  have := ztl_1717922932
                                                  rcases Int.decEq x73.toInt (0 : Int) with h75 | h75
                                                  · skip
                                                    refine w_ine_t dX9_isOwn_205 (t := 210) rfl (by omega) ?_
                                                    refine w_lo dX9_isOwn_210 rfl rfl rfl rfl ?_
                                                    refine w_me (st' := [.long (7170414 : Int64), .long a0]) dX9_isOwn_211 rfl rfl rfl rfl rfl ?_
                                                    refine w_lcm dX9_isOwn_214 ?_
                                                    intro x76 h77
                                                    have := ztl_7170414
                                                    rcases Int.decEq x76.toInt (0 : Int) with h78 | h78
                                                    · skip
                                                      refine w_ieq_f dX9_isOwn_215 (t := 226) rfl (by omega) ?_
                                                      refine w_lo dX9_isOwn_218 rfl rfl rfl rfl ?_
                                                      refine w_me (st' := [.long (7168376 : Int64), .long a0]) dX9_isOwn_219 rfl rfl rfl rfl rfl ?_
                                                      refine w_lcm dX9_isOwn_222 ?_
                                                      intro x79 h80
                                                      have := ztl_7168376
                                                      rcases Int.decEq x79.toInt (0 : Int) with h81 | h81
                                                      · skip
                                                        refine w_ine_t dX9_isOwn_223 (t := 228) rfl (by omega) ?_
                                                        refine w_ic dX9_isOwn_228 zi_0 ?_
                                                        refine w_en dX9_isOwn_229 rfl ?_
                                                        exact ⟨_, _, rfl, (by have := zt_0; omega), (by have := zt_0; omega), hJ0, trivial⟩
                                                      · skip
                                                        refine w_ine_f dX9_isOwn_223 (t := 228) rfl (by omega) ?_
                                                        refine w_ic dX9_isOwn_226 zi_1 ?_
                                                        refine w_en dX9_isOwn_227 rfl ?_
                                                        exact ⟨_, _, rfl, (by have := zt_1; omega), (by have := zt_1; omega), hJ0, trivial⟩
                                                    · skip
                                                      refine w_ieq_t dX9_isOwn_215 (t := 226) rfl (by omega) ?_
                                                      refine w_ic dX9_isOwn_226 zi_1 ?_
                                                      refine w_en dX9_isOwn_227 rfl ?_
                                                      exact ⟨_, _, rfl, (by have := zt_1; omega), (by have := zt_1; omega), hJ0, trivial⟩
                                                  · skip
                                                    refine w_ine_f dX9_isOwn_205 (t := 210) rfl (by omega) ?_
                                                    refine w_ic dX9_isOwn_208 zi_1 ?_
                                                    refine w_en dX9_isOwn_209 rfl ?_
                                                    exact ⟨_, _, rfl, (by have := zt_1; omega), (by have := zt_1; omega), hJ0, trivial⟩
                                                · skip
                                                  refine w_ieq_t dX9_isOwn_197 (t := 208) rfl (by omega) ?_
                                                  refine w_ic dX9_isOwn_208 zi_1 ?_
                                                  refine w_en dX9_isOwn_209 rfl ?_
                                                  exact ⟨_, _, rfl, (by have := zt_1; omega), (by have := zt_1; omega), hJ0, trivial⟩
                                              · skip
                                                refine w_ieq_t dX9_isOwn_189 (t := 208) rfl (by omega) ?_
                                                refine w_ic dX9_isOwn_208 zi_1 ?_
                                                refine w_en dX9_isOwn_209 rfl ?_
                                                exact ⟨_, _, rfl, (by have := zt_1; omega), (by have := zt_1; omega), hJ0, trivial⟩
                                            · skip
                                              refine w_ieq_t dX9_isOwn_181 (t := 208) rfl (by omega) ?_
                                              refine w_ic dX9_isOwn_208 zi_1 ?_
                                              refine w_en dX9_isOwn_209 rfl ?_
                                              exact ⟨_, _, rfl, (by have := zt_1; omega), (by have := zt_1; omega), hJ0, trivial⟩
                                          · skip
                                            refine w_ieq_t dX9_isOwn_173 (t := 208) rfl (by omega) ?_
                                            refine w_ic dX9_isOwn_208 zi_1 ?_
                                            refine w_en dX9_isOwn_209 rfl ?_
                                            exact ⟨_, _, rfl, (by have := zt_1; omega), (by have := zt_1; omega), hJ0, trivial⟩
                                        · skip
                                          refine w_ine_f dX9_isOwn_163 (t := 168) rfl (by omega) ?_
                                          refine w_ic dX9_isOwn_166 zi_1 ?_
                                          refine w_en dX9_isOwn_167 rfl ?_
                                          exact ⟨_, _, rfl, (by have := zt_1; omega), (by have := zt_1; omega), hJ0, trivial⟩
                                      · skip
                                        refine w_ieq_t dX9_isOwn_155 (t := 166) rfl (by omega) ?_
                                        refine w_ic dX9_isOwn_166 zi_1 ?_
                                        refine w_en dX9_isOwn_167 rfl ?_
                                        exact ⟨_, _, rfl, (by have := zt_1; omega), (by have := zt_1; omega), hJ0, trivial⟩
                                    · skip
                                      refine w_ieq_t dX9_isOwn_147 (t := 166) rfl (by omega) ?_
                                      refine w_ic dX9_isOwn_166 zi_1 ?_
                                      refine w_en dX9_isOwn_167 rfl ?_
                                      exact ⟨_, _, rfl, (by have := zt_1; omega), (by have := zt_1; omega), hJ0, trivial⟩
                                  · skip
                                    refine w_ieq_t dX9_isOwn_139 (t := 166) rfl (by omega) ?_
                                    refine w_ic dX9_isOwn_166 zi_1 ?_
                                    refine w_en dX9_isOwn_167 rfl ?_
                                    exact ⟨_, _, rfl, (by have := zt_1; omega), (by have := zt_1; omega), hJ0, trivial⟩
                                · skip
                                  refine w_ieq_t dX9_isOwn_131 (t := 166) rfl (by omega) ?_
                                  refine w_ic dX9_isOwn_166 zi_1 ?_
                                  refine w_en dX9_isOwn_167 rfl ?_
                                  exact ⟨_, _, rfl, (by have := zt_1; omega), (by have := zt_1; omega), hJ0, trivial⟩
                              · skip
                                refine w_ine_f dX9_isOwn_121 (t := 126) rfl (by omega) ?_
                                refine w_ic dX9_isOwn_124 zi_1 ?_
                                refine w_en dX9_isOwn_125 rfl ?_
                                exact ⟨_, _, rfl, (by have := zt_1; omega), (by have := zt_1; omega), hJ0, trivial⟩
                            · skip
                              refine w_ieq_t dX9_isOwn_113 (t := 124) rfl (by omega) ?_
                              refine w_ic dX9_isOwn_124 zi_1 ?_
                              refine w_en dX9_isOwn_125 rfl ?_
                              exact ⟨_, _, rfl, (by have := zt_1; omega), (by have := zt_1; omega), hJ0, trivial⟩
                          · skip
                            refine w_ieq_t dX9_isOwn_105 (t := 124) rfl (by omega) ?_
                            refine w_ic dX9_isOwn_124 zi_1 ?_
                            refine w_en dX9_isOwn_125 rfl ?_
                            exact ⟨_, _, rfl, (by have := zt_1; omega), (by have := zt_1; omega), hJ0, trivial⟩
                        · skip
                          refine w_ieq_t dX9_isOwn_97 (t := 124) rfl (by omega) ?_
                          refine w_ic dX9_isOwn_124 zi_1 ?_
                          refine w_en dX9_isOwn_125 rfl ?_
                          exact ⟨_, _, rfl, (by have := zt_1; omega), (by have := zt_1; omega), hJ0, trivial⟩
                      · skip
                        refine w_ieq_t dX9_isOwn_89 (t := 124) rfl (by omega) ?_
                        refine w_ic dX9_isOwn_124 zi_1 ?_
                        refine w_en dX9_isOwn_125 rfl ?_
                        exact ⟨_, _, rfl, (by have := zt_1; omega), (by have := zt_1; omega), hJ0, trivial⟩
                    · skip
                      refine w_ine_f dX9_isOwn_79 (t := 84) rfl (by omega) ?_
                      refine w_ic dX9_isOwn_82 zi_1 ?_
                      refine w_en dX9_isOwn_83 rfl ?_
                      exact ⟨_, _, rfl, (by have := zt_1; omega), (by have := zt_1; omega), hJ0, trivial⟩
                  · skip
                    refine w_ieq_t dX9_isOwn_71 (t := 82) rfl (by omega) ?_
                    refine w_ic dX9_isOwn_82 zi_1 ?_
                    refine w_en dX9_isOwn_83 rfl ?_
                    exact ⟨_, _, rfl, (by have := zt_1; omega), (by have := zt_1; omega), hJ0, trivial⟩
                · skip
                  refine w_ieq_t dX9_isOwn_63 (t := 82) rfl (by omega) ?_
                  refine w_ic dX9_isOwn_82 zi_1 ?_
                  refine w_en dX9_isOwn_83 rfl ?_
                  exact ⟨_, _, rfl, (by have := zt_1; omega), (by have := zt_1; omega), hJ0, trivial⟩
              · skip
                refine w_ieq_t dX9_isOwn_55 (t := 82) rfl (by omega) ?_
                refine w_ic dX9_isOwn_82 zi_1 ?_
                refine w_en dX9_isOwn_83 rfl ?_
                exact ⟨_, _, rfl, (by have := zt_1; omega), (by have := zt_1; omega), hJ0, trivial⟩
            · skip
              refine w_ieq_t dX9_isOwn_47 (t := 82) rfl (by omega) ?_
              refine w_ic dX9_isOwn_82 zi_1 ?_
              refine w_en dX9_isOwn_83 rfl ?_
              exact ⟨_, _, rfl, (by have := zt_1; omega), (by have := zt_1; omega), hJ0, trivial⟩
          · skip
            refine w_ine_f dX9_isOwn_37 (t := 42) rfl (by omega) ?_
            refine w_ic dX9_isOwn_40 zi_1 ?_
            refine w_en dX9_isOwn_41 rfl ?_
            exact ⟨_, _, rfl, (by have := zt_1; omega), (by have := zt_1; omega), hJ0, trivial⟩
        · skip
          refine w_ieq_t dX9_isOwn_29 (t := 40) rfl (by omega) ?_
          refine w_ic dX9_isOwn_40 zi_1 ?_
          refine w_en dX9_isOwn_41 rfl ?_
          exact ⟨_, _, rfl, (by have := zt_1; omega), (by have := zt_1; omega), hJ0, trivial⟩
      · skip
        refine w_ieq_t dX9_isOwn_21 (t := 40) rfl (by omega) ?_
        refine w_ic dX9_isOwn_40 zi_1 ?_
        refine w_en dX9_isOwn_41 rfl ?_
        exact ⟨_, _, rfl, (by have := zt_1; omega), (by have := zt_1; omega), hJ0, trivial⟩
    · skip
      refine w_ieq_t dX9_isOwn_13 (t := 40) rfl (by omega) ?_
      refine w_ic dX9_isOwn_40 zi_1 ?_
      refine w_en dX9_isOwn_41 rfl ?_
      exact ⟨_, _, rfl, (by have := zt_1; omega), (by have := zt_1; omega), hJ0, trivial⟩
  · skip
    refine w_ieq_t dX9_isOwn_5 (t := 40) rfl (by omega) ?_
    refine w_ic dX9_isOwn_40 zi_1 ?_
    refine w_en dX9_isOwn_41 rfl ?_
    exact ⟨_, _, rfl, (by have := zt_1; omega), (by have := zt_1; omega), hJ0, trivial⟩
set_option maxRecDepth 100000 in
theorem k_2320 {X : List Int32} {d N : Nat} {M0 : zM} (a0 : Int64) (hN : N ≤ 600) (hB0 : zB N M0) : ZV X (d + 1) 2320 [.ref 386, .long a0] M0 (zRI N [] M0 (0) (1) (fun _ _ => True)) := by
  have hJ0 : zJ N [] M0 M0 := zJ_refl hB0
  refine ZV.of (ini := false) rfl (Nat.le_of_ble_eq_true rfl) (by decide +kernel) ?_
  have main : ∀ n : Nat,
      (∀ (M : zM) (y2_1 : Int64) (v2_3 : Int32), zJ N [] M0 M → ((-9223372036854775808 : Int) ≤ y2_1.toInt) → (y2_1.toInt ≤ 9223372036854775807) → ((0 : Int) ≤ v2_3.toInt) → (v2_3.toInt ≤ 12) → 4 * (12 - v2_3.toInt) + 34 < (n : Int) → ZW X (d + 0) 9 false (some .boolean) cX9_isThere (zRI N [] M0 (0) (1) (fun _ _ => True)) (2, [some (.ref 386), some (.long y2_1), none, some (.int v2_3)], [], M)) ∧
      (∀ (M : zM) (y44_1 : Int64) (v44_3 : Int32), zJ N [] M0 M → ((-9223372036854775808 : Int) ≤ y44_1.toInt) → (y44_1.toInt ≤ 9223372036854775807) → ((0 : Int) ≤ v44_3.toInt) → (v44_3.toInt ≤ 6) → 4 * (6 - v44_3.toInt) + 1 < (n : Int) → ZW X (d + 0) 9 false (some .boolean) cX9_isThere (zRI N [] M0 (0) (1) (fun _ _ => True)) (44, [some (.ref 386), some (.long y44_1), none, some (.int v44_3)], [], M)) := by
    intro n
    induction n with
    | zero =>
      exact ⟨(fun M y2_1 v2_3 hJ y2_10 y2_11 v2_30 v2_31 hn => absurd hn (by omega)), (fun M y44_1 v44_3 hJ y44_10 y44_11 v44_30 v44_31 hn => absurd hn (by omega))⟩
    | succ n ih =>
      obtain ⟨ih2, ih44⟩ := ih
      refine ⟨?_, ?_⟩
      · intro M y2_1 v2_3 hJ y2_10 y2_11 v2_30 v2_31 hn
        refine w_lo dX9_isThere_2 rfl rfl rfl rfl ?_
        refine w_lo dX9_isThere_3 rfl rfl rfl rfl ?_
        refine w_gf dX9_isThere_4 rfl hJ.1.1 zs_386 (zr_386_13 hJ.1) ?_
        refine w_lo dX9_isThere_7 rfl rfl rfl rfl ?_
        refine w_gfi dX9_isThere_8 rfl hJ.1 zs_386 (Nat.le_of_ble_eq_true rfl) zo_386_35 ?_
        intro x1 f2 h3 h4
        refine w_iai dX9_isThere_11 hJ.1 zs_388 (by omega) (by omega) zu_388 ?_
        intro x8 f5 h6 h7
        rcases zcut v2_3.toInt x8.toInt with h9 | h9
        · skip
          refine w_cge_f dX9_isThere_12 (t := 42) rfl (by omega) ?_
          refine w_lo dX9_isThere_15 rfl rfl rfl rfl ?_
          refine w_gf dX9_isThere_16 rfl hJ.1.1 zs_386 (zr_386_14 hJ.1) ?_
          refine w_bi dX9_isThere_19 (c := 12) (by decide) ?_
          refine w_lo dX9_isThere_21 rfl rfl rfl rfl ?_
          refine w_gf dX9_isThere_22 rfl hJ.1.1 zs_386 f2 ?_
          refine w_mulc dX9_isThere_25 zt_12 (by have := zt_12; omega) ?_
          intro x10 h11
          have := zt_12
          refine w_lo dX9_isThere_26 rfl rfl rfl rfl ?_
          refine w_add dX9_isThere_27 (by omega) ?_
          intro x12 h13
          refine w_lal dX9_isThere_28 hJ.1 zs_389 (by omega) (by omega) zu_389 ?_
          intro y17 f14
          refine w_lo dX9_isThere_29 rfl rfl rfl rfl ?_
          refine w_lcm dX9_isThere_30 ?_
          intro x18 h19
          skip
          rcases Int.decEq x18.toInt (0 : Int) with h20 | h20
          · skip
            refine w_ine_t dX9_isThere_31 (t := 36) rfl (by omega) ?_
            refine w_inc (kk := 3) dX9_isThere_36 rfl (m := 1) (by decide) (by omega) ?_
            intro x21 h22
            refine ⟨_, rfl, ?_⟩
            show ZW _ _ _ _ _ _ _ (39, [some (.ref 386), some (.long y2_1), none, some (.int x21)], [], M)
            refine w_gt dX9_isThere_39 (t := 2) rfl ?_
            exact ih2 M y2_1 x21 hJ (zlbot _) (zltop _) (by omega) (by omega) (by omega)
          · skip
            refine w_ine_f dX9_isThere_31 (t := 36) rfl (by omega) ?_
            refine w_ic dX9_isThere_34 zi_1 ?_
            refine w_en dX9_isThere_35 rfl ?_
            exact ⟨_, _, rfl, (by have := zt_1; omega), (by have := zt_1; omega), hJ, trivial⟩
        · skip
          refine w_cge_t dX9_isThere_12 (t := 42) rfl (by omega) ?_
          refine w_ic dX9_isThere_42 zi_0 ?_
          refine w_lo (ml' := [some (.ref 386), some (.long y2_1), none, some (.int 0)]) dX9_isThere_43 rfl rfl rfl rfl ?_
          exact ih44 M y2_1 0 hJ (zlbot _) (zltop _) (by have := zt_0; omega) (by have := zt_0; omega) (by have := zt_0; omega)
      · intro M y44_1 v44_3 hJ y44_10 y44_11 v44_30 v44_31 hn
        refine w_lo dX9_isThere_44 rfl rfl rfl rfl ?_
        refine w_lo dX9_isThere_45 rfl rfl rfl rfl ?_
        refine w_gf dX9_isThere_46 rfl hJ.1.1 zs_386 (zr_386_21 hJ.1) ?_
        refine w_lo dX9_isThere_49 rfl rfl rfl rfl ?_
        refine w_gfi dX9_isThere_50 rfl hJ.1 zs_386 (Nat.le_of_ble_eq_true rfl) zo_386_35 ?_
        intro x23 f24 h25 h26
        refine w_iai dX9_isThere_53 hJ.1 zs_396 (by omega) (by omega) zu_396 ?_
        intro x30 f27 h28 h29
        rcases zcut v44_3.toInt x30.toInt with h31 | h31
        · skip
          refine w_cge_f dX9_isThere_54 (t := 84) rfl (by omega) ?_
          refine w_lo dX9_isThere_57 rfl rfl rfl rfl ?_
          refine w_gf dX9_isThere_58 rfl hJ.1.1 zs_386 (zr_386_22 hJ.1) ?_
          refine w_bi dX9_isThere_61 (c := 6) (by decide) ?_
          refine w_lo dX9_isThere_63 rfl rfl rfl rfl ?_
          refine w_gf dX9_isThere_64 rfl hJ.1.1 zs_386 f24 ?_
          refine w_mulc dX9_isThere_67 zt_6 (by have := zt_6; omega) ?_
          intro x32 h33
          have := zt_6
          refine w_lo dX9_isThere_68 rfl rfl rfl rfl ?_
          refine w_add dX9_isThere_69 (by omega) ?_
          intro x34 h35
          refine w_lal dX9_isThere_70 hJ.1 zs_397 (by omega) (by omega) zu_397 ?_
          intro y39 f36
          refine w_lo dX9_isThere_71 rfl rfl rfl rfl ?_
          refine w_lcm dX9_isThere_72 ?_
          intro x40 h41
          skip
          rcases Int.decEq x40.toInt (0 : Int) with h42 | h42
          · skip
            refine w_ine_t dX9_isThere_73 (t := 78) rfl (by omega) ?_
            refine w_inc (kk := 3) dX9_isThere_78 rfl (m := 1) (by decide) (by omega) ?_
            intro x43 h44
            refine ⟨_, rfl, ?_⟩
            show ZW _ _ _ _ _ _ _ (81, [some (.ref 386), some (.long y44_1), none, some (.int x43)], [], M)
            refine w_gt dX9_isThere_81 (t := 44) rfl ?_
            exact ih44 M y44_1 x43 hJ (zlbot _) (zltop _) (by omega) (by omega) (by omega)
          · skip
            refine w_ine_f dX9_isThere_73 (t := 78) rfl (by omega) ?_
            refine w_ic dX9_isThere_76 zi_1 ?_
            refine w_en dX9_isThere_77 rfl ?_
            exact ⟨_, _, rfl, (by have := zt_1; omega), (by have := zt_1; omega), hJ, trivial⟩
        · skip
          refine w_cge_t dX9_isThere_54 (t := 84) rfl (by omega) ?_
          refine w_ic dX9_isThere_84 zi_0 ?_
          refine w_en dX9_isThere_85 rfl ?_
          exact ⟨_, _, rfl, (by have := zt_0; omega), (by have := zt_0; omega), hJ, trivial⟩
  obtain ⟨ih2, ih44⟩ := main 95
  show ZW _ _ _ _ _ _ _ (0, [some (.ref 386), some (.long a0), none, none], [], M0)
  refine w_ic dX9_isThere_0 zi_0 ?_
  refine w_lo (ml' := [some (.ref 386), some (.long a0), none, some (.int 0)]) dX9_isThere_1 rfl rfl rfl rfl ?_
  exact ih2 M0 a0 0 hJ0 (zlbot _) (zltop _) (by have := zt_0; omega) (by have := zt_0; omega) (by have := zt_0; omega)
set_option maxRecDepth 100000 in
theorem k_2318 {X : List Int32} {d N : Nat} {M0 : zM}  (hN : N ≤ 600) (hB0 : zB N M0) : ZV X (d + 3) 2318 [.ref 386] M0 (zRG N [(386, 387, 3), (386, 387, 4), (386, 387, 5), (386, 387, 6), (386, 387, 7), (386, 387, 8), (386, 387, 9)] M0 (fun _ _ => True)) := by
  have hJ0 : zJ N [(386, 387, 3), (386, 387, 4), (386, 387, 5), (386, 387, 6), (386, 387, 7), (386, 387, 8), (386, 387, 9)] M0 M0 := zJ_refl hB0
  refine ZV.of (ini := false) rfl (Nat.le_of_ble_eq_true rfl) (by decide +kernel) ?_
  have main : ∀ n : Nat,
      (∀ (M : zM) (o28_1 : Option Value) (o28_2 : Option Value), zJ N [(386, 387, 3), (386, 387, 4), (386, 387, 5), (386, 387, 6), (386, 387, 7), (386, 387, 8), (386, 387, 9)] M0 M → 2 < (n : Int) → ZW X (d + 2) 9 false (some .long) cX9_fresh (zRG N [(386, 387, 3), (386, 387, 4), (386, 387, 5), (386, 387, 6), (386, 387, 7), (386, 387, 8), (386, 387, 9)] M0 (fun _ _ => True)) (28, [some (.ref 386), o28_1, o28_2], [], M)) ∧
      (∀ (M : zM) (o37_1 : Option Value) (o37_2 : Option Value), zJ N [(386, 387, 3), (386, 387, 4), (386, 387, 5), (386, 387, 6), (386, 387, 7), (386, 387, 8), (386, 387, 9)] M0 M → 1 < (n : Int) → ZW X (d + 2) 9 false (some .long) cX9_fresh (zRG N [(386, 387, 3), (386, 387, 4), (386, 387, 5), (386, 387, 6), (386, 387, 7), (386, 387, 8), (386, 387, 9)] M0 (fun _ _ => True)) (37, [some (.ref 386), o37_1, o37_2], [], M)) := by
    intro n
    induction n with
    | zero =>
      exact ⟨(fun M o28_1 o28_2 hJ hn => absurd hn (by omega)), (fun M o37_1 o37_2 hJ hn => absurd hn (by omega))⟩
    | succ n ih =>
      obtain ⟨ih28, ih37⟩ := ih
      refine ⟨?_, ?_⟩
      · intro M o28_1 o28_2 hJ hn
        refine w_lo dX9_fresh_28 rfl rfl rfl rfl ?_
        refine w_ic dX9_fresh_29 zi_1 ?_
        refine w_lo dX9_fresh_30 rfl rfl rfl rfl ?_
        refine w_gfi dX9_fresh_31 rfl hJ.1 zs_386 (Nat.le_of_ble_eq_true rfl) zo_386_4 ?_
        intro x1 f2 h3 h4
        refine w_iv dX9_fresh_34 rfl rfl (As := [.int 1, .int x1]) rfl rfl hJ.1.1 zs_386 (Nat.le_of_ble_eq_true rfl) ?_
        refine ZV.of (ini := false) rfl (Nat.le_of_ble_eq_true rfl) (by decide +kernel) ?_
        show ZW _ _ _ _ _ _ _ (0, [some (.ref 386), some (.int 1), some (.int x1)], [], M)
        refine w_lo dX9_blame_0 rfl rfl rfl rfl ?_
        refine w_gfi dX9_blame_1 rfl hJ.1 zs_386 (Nat.le_of_ble_eq_true rfl) zo_386_8 ?_
        intro x5 f6 h7 h8
        rcases zcut (0 : Int) x5.toInt with h9 | h9
        · skip
          refine w_ile_f dX9_blame_4 (t := 8) rfl (by omega) ?_
          refine w_en dX9_blame_7 rfl ?_
          show ZW _ _ _ _ _ _ _ (37, [some (.ref 386), o28_1, o28_2], [], M)
          exact ih37 M o28_1 o28_2 hJ (by omega)
        · skip
          refine w_ile_t dX9_blame_4 (t := 8) rfl (by omega) ?_
          refine w_lo dX9_blame_8 rfl rfl rfl rfl ?_
          refine w_lo dX9_blame_9 rfl rfl rfl rfl ?_
          refine w_pfi dX9_blame_10 rfl hJ zs_386 (Nat.le_of_ble_eq_true rfl) zo_386_8 (by have := zt_1; omega) (by have := zt_1; omega) (zIR_s (zIR_s (zIR_s (zIR_s (zIR_s (zIR_k (by omega) (by omega))))))) rfl rfl rfl ?_
          intro M10 hJ11 f12 hn13
          refine w_lo dX9_blame_13 rfl rfl rfl rfl ?_
          refine w_lo dX9_blame_14 rfl rfl rfl rfl ?_
          refine w_pfi dX9_blame_15 rfl hJ11 zs_386 (Nat.le_of_ble_eq_true rfl) zo_386_9 (by omega) (by omega) (zIR_s (zIR_s (zIR_s (zIR_s (zIR_s (zIR_s (zIR_k (by omega) (by omega)))))))) rfl rfl rfl ?_
          intro M14 hJ15 f16 hn17
          refine w_en dX9_blame_18 rfl ?_
          show ZW _ _ _ _ _ _ _ (37, [some (.ref 386), o28_1, o28_2], [], M14)
          exact ih37 M14 o28_1 o28_2 hJ15 (by omega)
      · intro M o37_1 o37_2 hJ hn
        refine w_lo dX9_fresh_37 rfl rfl rfl rfl ?_
        refine w_gfi dX9_fresh_38 rfl hJ.1 zs_386 (Nat.le_of_ble_eq_true rfl) zo_386_8 ?_
        intro x18 f19 h20 h21
        rcases Int.decEq x18.toInt (0 : Int) with h22 | h22
        · skip
          refine w_ine_t dX9_fresh_41 (t := 64) rfl (by omega) ?_
          refine w_lo dX9_fresh_64 rfl rfl rfl rfl ?_
          refine w_gfl dX9_fresh_65 rfl hJ.1 zs_386 (Nat.le_of_ble_eq_true rfl) zo_386_7 ?_
          intro y26 f23 h24 h25
          refine w_lo (ml' := [some (.ref 386), some (.long y26), none]) dX9_fresh_68 rfl rfl rfl rfl ?_
          refine w_lo dX9_fresh_69 rfl rfl rfl rfl ?_
          refine w_gf dX9_fresh_70 rfl hJ.1.1 zs_386 f19 ?_
          refine w_ine_t dX9_fresh_73 (t := 80) rfl (by omega) ?_
          refine w_lo dX9_fresh_80 rfl rfl rfl rfl ?_
          refine w_en dX9_fresh_81 rfl ?_
          exact ⟨_, _, rfl, hJ, trivial⟩
        · skip
          refine w_ine_f dX9_fresh_41 (t := 64) rfl (by omega) ?_
          refine w_lo dX9_fresh_44 rfl rfl rfl rfl ?_
          refine w_lo dX9_fresh_45 rfl rfl rfl rfl ?_
          refine w_gfl dX9_fresh_46 rfl hJ.1 zs_386 (Nat.le_of_ble_eq_true rfl) zo_386_7 ?_
          intro y30 f27 h28 h29
          refine w_iv dX9_fresh_49 rfl rfl (As := [.long y30]) rfl rfl hJ.1.1 zs_386 (Nat.le_of_ble_eq_true rfl) ?_
          refine ZV.imp (k_2320 hN hJ.1) ?_
          rintro _ ⟨x34, M31, rfl, h35, h36, hJ32, hq33⟩
          have hJ37 := zJ_trans hJ hJ32 zSub_nil
          show ZW _ _ _ _ _ _ _ (52, [some (.ref 386), o37_1, o37_2], [.int x34], M31)
          rcases Int.decEq x34.toInt (0 : Int) with h38 | h38
          · skip
            refine w_ieq_f dX9_fresh_52 (t := 64) rfl (by omega) ?_
            refine w_lo dX9_fresh_55 rfl rfl rfl rfl ?_
            refine w_ic dX9_fresh_56 zi_2 ?_
            refine w_lo dX9_fresh_57 rfl rfl rfl rfl ?_
            refine w_gfi dX9_fresh_58 rfl hJ37.1 zs_386 (Nat.le_of_ble_eq_true rfl) zo_386_4 ?_
            intro x39 f40 h41 h42
            refine w_iv dX9_fresh_61 rfl rfl (As := [.int 2, .int x39]) rfl rfl hJ37.1.1 zs_386 (Nat.le_of_ble_eq_true rfl) ?_
            refine ZV.of (ini := false) rfl (Nat.le_of_ble_eq_true rfl) (by decide +kernel) ?_
            show ZW _ _ _ _ _ _ _ (0, [some (.ref 386), some (.int 2), some (.int x39)], [], M31)
            refine w_lo dX9_blame_0 rfl rfl rfl rfl ?_
            have f43 := (hJ32.2 (386) 8 zNI_nil).trans (f19)
            refine w_gf dX9_blame_1 rfl hJ37.1.1 zs_386 f43 ?_
            refine w_ile_t dX9_blame_4 (t := 8) rfl (by omega) ?_
            refine w_lo dX9_blame_8 rfl rfl rfl rfl ?_
            refine w_lo dX9_blame_9 rfl rfl rfl rfl ?_
            refine w_pfi dX9_blame_10 rfl hJ37 zs_386 (Nat.le_of_ble_eq_true rfl) zo_386_8 (by have := zt_2; omega) (by have := zt_2; omega) (zIR_s (zIR_s (zIR_s (zIR_s (zIR_s (zIR_k (by omega) (by omega))))))) rfl rfl rfl ?_
            intro M44 hJ45 f46 hn47
            refine w_lo dX9_blame_13 rfl rfl rfl rfl ?_
            refine w_lo dX9_blame_14 rfl rfl rfl rfl ?_
            refine w_pfi dX9_blame_15 rfl hJ45 zs_386 (Nat.le_of_ble_eq_true rfl) zo_386_9 (by omega) (by omega) (zIR_s (zIR_s (zIR_s (zIR_s (zIR_s (zIR_s (zIR_k (by omega) (by omega)))))))) rfl rfl rfl ?_
            intro M48 hJ49 f50 hn51
            refine w_en dX9_blame_18 rfl ?_
            show ZW _ _ _ _ _ _ _ (64, [some (.ref 386), o37_1, o37_2], [], M48)
            refine w_lo dX9_fresh_64 rfl rfl rfl rfl ?_
            have f52 := (hn51 (386) 7 (Or.inr (by decide))).trans ((hn47 (386) 7 (Or.inr (by decide))).trans ((hJ32.2 (386) 7 zNI_nil).trans (f27)))
            refine w_gf dX9_fresh_65 rfl hJ49.1.1 zs_386 f52 ?_
            refine w_lo (ml' := [some (.ref 386), some (.long y30), none]) dX9_fresh_68 rfl rfl rfl rfl ?_
            refine w_lo dX9_fresh_69 rfl rfl rfl rfl ?_
            have f53 := (hn51 (386) 8 (Or.inr (by decide))).trans (f46)
            refine w_gf dX9_fresh_70 rfl hJ49.1.1 zs_386 f53 ?_
            refine w_ine_t dX9_fresh_73 (t := 80) rfl (by have := zt_2; omega) ?_
            refine w_lo dX9_fresh_80 rfl rfl rfl rfl ?_
            refine w_en dX9_fresh_81 rfl ?_
            exact ⟨_, _, rfl, hJ49, trivial⟩
          · skip
            refine w_ieq_t dX9_fresh_52 (t := 64) rfl (by omega) ?_
            refine w_lo dX9_fresh_64 rfl rfl rfl rfl ?_
            have f54 := (hJ32.2 (386) 7 zNI_nil).trans (f27)
            refine w_gf dX9_fresh_65 rfl hJ37.1.1 zs_386 f54 ?_
            refine w_lo (ml' := [some (.ref 386), some (.long y30), none]) dX9_fresh_68 rfl rfl rfl rfl ?_
            refine w_lo dX9_fresh_69 rfl rfl rfl rfl ?_
            have f55 := (hJ32.2 (386) 8 zNI_nil).trans (f19)
            refine w_gf dX9_fresh_70 rfl hJ37.1.1 zs_386 f55 ?_
            refine w_ine_f dX9_fresh_73 (t := 80) rfl (by omega) ?_
            refine w_lo dX9_fresh_76 rfl rfl rfl rfl ?_
            refine w_iv dX9_fresh_77 rfl rfl (As := []) rfl rfl hJ37.1.1 zs_386 (Nat.le_of_ble_eq_true rfl) ?_
            refine ZV.imp (k_2310 hN hJ37.1) ?_
            rintro _ ⟨M56, rfl, hJ57, hq58⟩
            have hJ59 := zJ_trans hJ37 hJ57 (zSub_cons (fun _ _ h h' hk => zIR_e (by omega) (by omega) hk) (zSub_cons (fun _ _ h h' hk => zIR_s (zIR_e (by omega) (by omega) hk)) (zSub_cons (fun _ _ h h' hk => zIR_s (zIR_s (zIR_e (by omega) (by omega) hk))) (zSub_cons (fun _ _ h h' hk => zIR_s (zIR_s (zIR_s (zIR_e (by omega) (by omega) hk)))) (zSub_cons (fun _ _ h h' hk => zIR_s (zIR_s (zIR_s (zIR_s (zIR_e (by omega) (by omega) hk))))) (zSub_cons (fun _ _ h h' hk => zIR_s (zIR_s (zIR_s (zIR_s (zIR_s (zIR_e (by omega) (by omega) hk)))))) (zSub_cons (fun _ _ h h' hk => zIR_s (zIR_s (zIR_s (zIR_s (zIR_s (zIR_s (zIR_e (by omega) (by omega) hk))))))) zSub_nil)))))))
            show ZW _ _ _ _ _ _ _ (80, [some (.ref 386), some (.long y30), none], [], M56)
            refine w_lo dX9_fresh_80 rfl rfl rfl rfl ?_
            refine w_en dX9_fresh_81 rfl ?_
            exact ⟨_, _, rfl, hJ59, trivial⟩
  obtain ⟨ih28, ih37⟩ := main 7
  show ZW _ _ _ _ _ _ _ (0, [some (.ref 386), none, none], [], M0)
  refine w_lo dX9_fresh_0 rfl rfl rfl rfl ?_
  refine w_gfi dX9_fresh_1 rfl hJ0.1 zs_386 (Nat.le_of_ble_eq_true rfl) zo_386_8 ?_
  intro x60 f61 h62 h63
  rcases zcut (0 : Int) x60.toInt with h64 | h64
  · skip
    refine w_ile_f dX9_fresh_4 (t := 9) rfl (by omega) ?_
    refine w_lc dX9_fresh_7 (c := (0 : Int64)) (by decide) ?_
    refine w_en dX9_fresh_8 rfl ?_
    exact ⟨_, _, rfl, hJ0, trivial⟩
  · skip
    refine w_ile_t dX9_fresh_4 (t := 9) rfl (by omega) ?_
    refine w_lo dX9_fresh_9 rfl rfl rfl rfl ?_
    refine w_gfi dX9_fresh_10 rfl hJ0.1 zs_386 (Nat.le_of_ble_eq_true rfl) zo_386_3 ?_
    intro x65 f66 h67 h68
    refine w_ic dX9_fresh_13 zi_1 ?_
    rcases Int.decEq x65.toInt (1 : Int) with h69 | h69
    · skip
      refine w_cne_t dX9_fresh_14 (t := 28) rfl (by have := zt_1; omega) ?_
      exact ih28 M0 none none hJ0 (by omega)
    · skip
      refine w_cne_f dX9_fresh_14 (t := 28) rfl (by have := zt_1; omega) ?_
      refine w_lo dX9_fresh_17 rfl rfl rfl rfl ?_
      refine w_lo dX9_fresh_18 rfl rfl rfl rfl ?_
      refine w_gfl dX9_fresh_19 rfl hJ0.1 zs_386 (Nat.le_of_ble_eq_true rfl) zo_386_7 ?_
      intro y73 f70 h71 h72
      refine w_iv dX9_fresh_22 rfl rfl (As := [.long y73]) rfl rfl hJ0.1.1 zs_386 (Nat.le_of_ble_eq_true rfl) ?_
      refine ZV.imp (k_2319 hN hJ0.1) ?_
      rintro _ ⟨x77, M74, rfl, h78, h79, hJ75, hq76⟩
      have hJ80 := zJ_trans hJ0 hJ75 zSub_nil
      show ZW _ _ _ _ _ _ _ (25, [some (.ref 386), none, none], [.int x77], M74)
      rcases Int.decEq x77.toInt (0 : Int) with h81 | h81
      · skip
        refine w_ieq_f dX9_fresh_25 (t := 37) rfl (by omega) ?_
        exact ih28 M74 none none hJ80 (by omega)
      · skip
        refine w_ieq_t dX9_fresh_25 (t := 37) rfl (by omega) ?_
        exact ih37 M74 none none hJ80 (by omega)
set_option maxRecDepth 100000 in
theorem k_2321 {X : List Int32} {d N : Nat} {M0 : zM} (a0 : Int64) (hN : N ≤ 600) (hB0 : zB N M0) : ZV X (d + 3) 2321 [.ref 386, .long a0] M0 (zRV N [(386, 387, 3), (386, 387, 4), (386, 387, 5), (386, 387, 6), (386, 387, 7), (386, 387, 8), (386, 387, 9)] M0 (fun _ => True)) := by
  have hJ0 : zJ N [(386, 387, 3), (386, 387, 4), (386, 387, 5), (386, 387, 6), (386, 387, 7), (386, 387, 8), (386, 387, 9)] M0 M0 := zJ_refl hB0
  refine ZV.of (ini := false) rfl (Nat.le_of_ble_eq_true rfl) (by decide +kernel) ?_
  show ZW _ _ _ _ _ _ _ (0, [some (.ref 386), some (.long a0), none], [], M0)
  refine w_lo dX9_must__0 rfl rfl rfl rfl ?_
  refine w_gfi dX9_must__1 rfl hJ0.1 zs_386 (Nat.le_of_ble_eq_true rfl) zo_386_8 ?_
  intro x1 f2 h3 h4
  rcases zcut (0 : Int) x1.toInt with h5 | h5
  · skip
    refine w_ile_f dX9_must__4 (t := 8) rfl (by omega) ?_
    refine w_en dX9_must__7 rfl ?_
    exact ⟨_, rfl, hJ0, trivial⟩
  · skip
    refine w_ile_t dX9_must__4 (t := 8) rfl (by omega) ?_
    refine w_lo dX9_must__8 rfl rfl rfl rfl ?_
    refine w_lo dX9_must__9 rfl rfl rfl rfl ?_
    refine w_iv dX9_must__10 rfl rfl (As := [.long a0]) rfl rfl hJ0.1.1 zs_386 (Nat.le_of_ble_eq_true rfl) ?_
    refine ZV.of (ini := false) rfl (Nat.le_of_ble_eq_true rfl) (by decide +kernel) ?_
    show ZW _ _ _ _ _ _ _ (0, [some (.ref 386), some (.long a0), none], [], M0)
    refine w_lo dX9_isWord_0 rfl rfl rfl rfl ?_
    refine w_gfi dX9_isWord_1 rfl hJ0.1 zs_386 (Nat.le_of_ble_eq_true rfl) zo_386_3 ?_
    intro x6 f7 h8 h9
    refine w_ic dX9_isWord_4 zi_1 ?_
    rcases Int.decEq x6.toInt (1 : Int) with h10 | h10
    · skip
      refine w_cne_t dX9_isWord_5 (t := 21) rfl (by have := zt_1; omega) ?_
      refine w_ic dX9_isWord_21 zi_0 ?_
      refine w_en dX9_isWord_22 rfl ?_
      show ZW _ _ _ _ _ _ _ (13, [some (.ref 386), some (.long a0), none], [.int 0], M0)
      refine w_ine_f dX9_must__13 (t := 25) rfl (by have := zt_0; omega) ?_
      refine w_lo dX9_must__16 rfl rfl rfl rfl ?_
      refine w_ic dX9_must__17 zi_1 ?_
      refine w_lo dX9_must__18 rfl rfl rfl rfl ?_
      refine w_gfi dX9_must__19 rfl hJ0.1 zs_386 (Nat.le_of_ble_eq_true rfl) zo_386_4 ?_
      intro x11 f12 h13 h14
      refine w_iv dX9_must__22 rfl rfl (As := [.int 1, .int x11]) rfl rfl hJ0.1.1 zs_386 (Nat.le_of_ble_eq_true rfl) ?_
      refine ZV.of (ini := false) rfl (Nat.le_of_ble_eq_true rfl) (by decide +kernel) ?_
      show ZW _ _ _ _ _ _ _ (0, [some (.ref 386), some (.int 1), some (.int x11)], [], M0)
      refine w_lo dX9_blame_0 rfl rfl rfl rfl ?_
      refine w_gf dX9_blame_1 rfl hJ0.1.1 zs_386 f2 ?_
      refine w_ile_t dX9_blame_4 (t := 8) rfl (by omega) ?_
      refine w_lo dX9_blame_8 rfl rfl rfl rfl ?_
      refine w_lo dX9_blame_9 rfl rfl rfl rfl ?_
      refine w_pfi dX9_blame_10 rfl hJ0 zs_386 (Nat.le_of_ble_eq_true rfl) zo_386_8 (by have := zt_1; omega) (by have := zt_1; omega) (zIR_s (zIR_s (zIR_s (zIR_s (zIR_s (zIR_k (by omega) (by omega))))))) rfl rfl rfl ?_
      intro M15 hJ16 f17 hn18
      refine w_lo dX9_blame_13 rfl rfl rfl rfl ?_
      refine w_lo dX9_blame_14 rfl rfl rfl rfl ?_
      refine w_pfi dX9_blame_15 rfl hJ16 zs_386 (Nat.le_of_ble_eq_true rfl) zo_386_9 (by omega) (by omega) (zIR_s (zIR_s (zIR_s (zIR_s (zIR_s (zIR_s (zIR_k (by omega) (by omega)))))))) rfl rfl rfl ?_
      intro M19 hJ20 f21 hn22
      refine w_en dX9_blame_18 rfl ?_
      show ZW _ _ _ _ _ _ _ (25, [some (.ref 386), some (.long a0), none], [], M19)
      refine w_lo dX9_must__25 rfl rfl rfl rfl ?_
      have f23 := (hn22 (386) 8 (Or.inr (by decide))).trans (f17)
      refine w_gf dX9_must__26 rfl hJ20.1.1 zs_386 f23 ?_
      refine w_ine_t dX9_must__29 (t := 36) rfl (by have := zt_1; omega) ?_
      refine w_en dX9_must__36 rfl ?_
      exact ⟨_, rfl, hJ20, trivial⟩
    · skip
      refine w_cne_f dX9_isWord_5 (t := 21) rfl (by have := zt_1; omega) ?_
      refine w_lo dX9_isWord_8 rfl rfl rfl rfl ?_
      refine w_gfl dX9_isWord_9 rfl hJ0.1 zs_386 (Nat.le_of_ble_eq_true rfl) zo_386_7 ?_
      intro y27 f24 h25 h26
      refine w_lo dX9_isWord_12 rfl rfl rfl rfl ?_
      refine w_lcm dX9_isWord_13 ?_
      intro x28 h29
      skip
      rcases Int.decEq x28.toInt (0 : Int) with h30 | h30
      · skip
        refine w_ine_t dX9_isWord_14 (t := 21) rfl (by omega) ?_
        refine w_ic dX9_isWord_21 zi_0 ?_
        refine w_en dX9_isWord_22 rfl ?_
        show ZW _ _ _ _ _ _ _ (13, [some (.ref 386), some (.long a0), none], [.int 0], M0)
        refine w_ine_f dX9_must__13 (t := 25) rfl (by have := zt_0; omega) ?_
        refine w_lo dX9_must__16 rfl rfl rfl rfl ?_
        refine w_ic dX9_must__17 zi_1 ?_
        refine w_lo dX9_must__18 rfl rfl rfl rfl ?_
        refine w_gfi dX9_must__19 rfl hJ0.1 zs_386 (Nat.le_of_ble_eq_true rfl) zo_386_4 ?_
        intro x31 f32 h33 h34
        refine w_iv dX9_must__22 rfl rfl (As := [.int 1, .int x31]) rfl rfl hJ0.1.1 zs_386 (Nat.le_of_ble_eq_true rfl) ?_
        refine ZV.of (ini := false) rfl (Nat.le_of_ble_eq_true rfl) (by decide +kernel) ?_
        show ZW _ _ _ _ _ _ _ (0, [some (.ref 386), some (.int 1), some (.int x31)], [], M0)
        refine w_lo dX9_blame_0 rfl rfl rfl rfl ?_
        refine w_gf dX9_blame_1 rfl hJ0.1.1 zs_386 f2 ?_
        refine w_ile_t dX9_blame_4 (t := 8) rfl (by omega) ?_
        refine w_lo dX9_blame_8 rfl rfl rfl rfl ?_
        refine w_lo dX9_blame_9 rfl rfl rfl rfl ?_
        refine w_pfi dX9_blame_10 rfl hJ0 zs_386 (Nat.le_of_ble_eq_true rfl) zo_386_8 (by have := zt_1; omega) (by have := zt_1; omega) (zIR_s (zIR_s (zIR_s (zIR_s (zIR_s (zIR_k (by omega) (by omega))))))) rfl rfl rfl ?_
        intro M35 hJ36 f37 hn38
        refine w_lo dX9_blame_13 rfl rfl rfl rfl ?_
        refine w_lo dX9_blame_14 rfl rfl rfl rfl ?_
        refine w_pfi dX9_blame_15 rfl hJ36 zs_386 (Nat.le_of_ble_eq_true rfl) zo_386_9 (by omega) (by omega) (zIR_s (zIR_s (zIR_s (zIR_s (zIR_s (zIR_s (zIR_k (by omega) (by omega)))))))) rfl rfl rfl ?_
        intro M39 hJ40 f41 hn42
        refine w_en dX9_blame_18 rfl ?_
        show ZW _ _ _ _ _ _ _ (25, [some (.ref 386), some (.long a0), none], [], M39)
        refine w_lo dX9_must__25 rfl rfl rfl rfl ?_
        have f43 := (hn42 (386) 8 (Or.inr (by decide))).trans (f37)
        refine w_gf dX9_must__26 rfl hJ40.1.1 zs_386 f43 ?_
        refine w_ine_t dX9_must__29 (t := 36) rfl (by have := zt_1; omega) ?_
        refine w_en dX9_must__36 rfl ?_
        exact ⟨_, rfl, hJ40, trivial⟩
      · skip
        refine w_ine_f dX9_isWord_14 (t := 21) rfl (by omega) ?_
        refine w_ic dX9_isWord_17 zi_1 ?_
        refine w_gt dX9_isWord_18 (t := 22) rfl ?_
        refine w_en dX9_isWord_22 rfl ?_
        show ZW _ _ _ _ _ _ _ (13, [some (.ref 386), some (.long a0), none], [.int 1], M0)
        refine w_ine_t dX9_must__13 (t := 25) rfl (by have := zt_1; omega) ?_
        refine w_lo dX9_must__25 rfl rfl rfl rfl ?_
        refine w_gf dX9_must__26 rfl hJ0.1.1 zs_386 f2 ?_
        refine w_ine_f dX9_must__29 (t := 36) rfl (by omega) ?_
        refine w_lo dX9_must__32 rfl rfl rfl rfl ?_
        refine w_iv dX9_must__33 rfl rfl (As := []) rfl rfl hJ0.1.1 zs_386 (Nat.le_of_ble_eq_true rfl) ?_
        refine ZV.imp (k_2310 hN hJ0.1) ?_
        rintro _ ⟨M44, rfl, hJ45, hq46⟩
        have hJ47 := zJ_trans hJ0 hJ45 (zSub_cons (fun _ _ h h' hk => zIR_e (by omega) (by omega) hk) (zSub_cons (fun _ _ h h' hk => zIR_s (zIR_e (by omega) (by omega) hk)) (zSub_cons (fun _ _ h h' hk => zIR_s (zIR_s (zIR_e (by omega) (by omega) hk))) (zSub_cons (fun _ _ h h' hk => zIR_s (zIR_s (zIR_s (zIR_e (by omega) (by omega) hk)))) (zSub_cons (fun _ _ h h' hk => zIR_s (zIR_s (zIR_s (zIR_s (zIR_e (by omega) (by omega) hk))))) (zSub_cons (fun _ _ h h' hk => zIR_s (zIR_s (zIR_s (zIR_s (zIR_s (zIR_e (by omega) (by omega) hk)))))) (zSub_cons (fun _ _ h h' hk => zIR_s (zIR_s (zIR_s (zIR_s (zIR_s (zIR_s (zIR_e (by omega) (by omega) hk))))))) zSub_nil)))))))
        show ZW _ _ _ _ _ _ _ (36, [some (.ref 386), some (.long a0), none], [], M44)
        refine w_en dX9_must__36 rfl ?_
        exact ⟨_, rfl, hJ47, trivial⟩
set_option maxRecDepth 100000 in
theorem k_2322 {X : List Int32} {d N : Nat} {M0 : zM} (a0 : Int32) (ha00 : (0 : Int) ≤ a0.toInt) (ha01 : a0.toInt ≤ 1) (a1 : Int32) (ha10 : (60 : Int) ≤ a1.toInt) (ha11 : a1.toInt ≤ 999) (hN : N ≤ 600) (hB0 : zB N M0) : ZV X (d + 3) 2322 [.ref 386, .int a0, .int a1] M0 (zRI N [(386, 387, 3), (386, 387, 4), (386, 387, 5), (386, 387, 6), (386, 387, 7), (386, 387, 8), (386, 387, 9)] M0 (-2147483648) (2147483647) (fun _ _ => True)) := by
  have hJ0 : zJ N [(386, 387, 3), (386, 387, 4), (386, 387, 5), (386, 387, 6), (386, 387, 7), (386, 387, 8), (386, 387, 9)] M0 M0 := zJ_refl hB0
  refine ZV.of (ini := false) rfl (Nat.le_of_ble_eq_true rfl) (by decide +kernel) ?_
  have main : ∀ n : Nat,
      (∀ (M : zM) (v26_1 : Int32) (v26_2 : Int32) (o26_3 : Option Value), zJ N [(386, 387, 3), (386, 387, 4), (386, 387, 5), (386, 387, 6), (386, 387, 7), (386, 387, 8), (386, 387, 9)] M0 M → ((0 : Int) ≤ v26_1.toInt) → (v26_1.toInt ≤ 1) → ((60 : Int) ≤ v26_2.toInt) → (v26_2.toInt ≤ 999) → 1 < (n : Int) → ZW X (d + 2) 9 false (some .int) cX9_number (zRI N [(386, 387, 3), (386, 387, 4), (386, 387, 5), (386, 387, 6), (386, 387, 7), (386, 387, 8), (386, 387, 9)] M0 (-2147483648) (2147483647) (fun _ _ => True)) (26, [some (.ref 386), some (.int v26_1), some (.int v26_2), o26_3], [], M)) := by
    intro n
    induction n with
    | zero =>
      exact (fun M v26_1 v26_2 o26_3 hJ v26_10 v26_11 v26_20 v26_21 hn => absurd hn (by omega))
    | succ n ih =>
      have ih26 := ih
      · intro M v26_1 v26_2 o26_3 hJ v26_10 v26_11 v26_20 v26_21 hn
        refine w_lo dX9_number_26 rfl rfl rfl rfl ?_
        refine w_gfi dX9_number_27 rfl hJ.1 zs_386 (Nat.le_of_ble_eq_true rfl) zo_386_8 ?_
        intro x1 f2 h3 h4
        rcases Int.decEq x1.toInt (0 : Int) with h5 | h5
        · skip
          refine w_ine_t dX9_number_30 (t := 54) rfl (by omega) ?_
          refine w_lo dX9_number_54 rfl rfl rfl rfl ?_
          refine w_gfi dX9_number_55 rfl hJ.1 zs_386 (Nat.le_of_ble_eq_true rfl) zo_386_6 ?_
          intro x6 f7 h8 h9
          refine w_lo (ml' := [some (.ref 386), some (.int v26_1), some (.int v26_2), some (.int x6)]) dX9_number_58 rfl rfl rfl rfl ?_
          refine w_lo dX9_number_59 rfl rfl rfl rfl ?_
          refine w_gf dX9_number_60 rfl hJ.1.1 zs_386 f2 ?_
          refine w_ine_t dX9_number_63 (t := 70) rfl (by omega) ?_
          refine w_lo dX9_number_70 rfl rfl rfl rfl ?_
          refine w_eni dX9_number_71 rfl rfl ?_
          exact ⟨_, _, rfl, (zbot _), (ztop _), hJ, trivial⟩
        · skip
          refine w_ine_f dX9_number_30 (t := 54) rfl (by omega) ?_
          refine w_lo dX9_number_33 rfl rfl rfl rfl ?_
          refine w_gfi dX9_number_34 rfl hJ.1 zs_386 (Nat.le_of_ble_eq_true rfl) zo_386_6 ?_
          intro x10 f11 h12 h13
          refine w_lo dX9_number_37 rfl rfl rfl rfl ?_
          refine w_lo dX9_number_38 rfl rfl rfl rfl ?_
          refine w_ss dX9_number_39 rfl rfl (As := [.int x10, .int v26_1, .int v26_2]) rfl rfl (Nat.le_of_ble_eq_true rfl) ?_
          refine ZV.of (ini := false) rfl (Nat.le_of_ble_eq_true rfl) (by decide +kernel) ?_
          show ZW _ _ _ _ _ _ _ (0, [some (.int x10), some (.int v26_1), some (.int v26_2)], [], M)
          refine w_lo dX9_is_0 rfl rfl rfl rfl ?_
          refine w_lo dX9_is_1 rfl rfl rfl rfl ?_
          rcases zcut x10.toInt v26_1.toInt with h14 | h14
          · skip
            refine w_clt_t dX9_is_2 (t := 14) rfl (by omega) ?_
            refine w_ic dX9_is_14 zi_0 ?_
            refine w_en dX9_is_15 rfl ?_
            show ZW _ _ _ _ _ _ _ (42, [some (.ref 386), some (.int v26_1), some (.int v26_2), o26_3], [.int 0], M)
            refine w_ine_f dX9_number_42 (t := 54) rfl (by have := zt_0; omega) ?_
            refine w_lo dX9_number_45 rfl rfl rfl rfl ?_
            refine w_ic dX9_number_46 zi_4 ?_
            refine w_lo dX9_number_47 rfl rfl rfl rfl ?_
            refine w_gfi dX9_number_48 rfl hJ.1 zs_386 (Nat.le_of_ble_eq_true rfl) zo_386_4 ?_
            intro x15 f16 h17 h18
            refine w_iv dX9_number_51 rfl rfl (As := [.int 4, .int x15]) rfl rfl hJ.1.1 zs_386 (Nat.le_of_ble_eq_true rfl) ?_
            refine ZV.of (ini := false) rfl (Nat.le_of_ble_eq_true rfl) (by decide +kernel) ?_
            show ZW _ _ _ _ _ _ _ (0, [some (.ref 386), some (.int 4), some (.int x15)], [], M)
            refine w_lo dX9_blame_0 rfl rfl rfl rfl ?_
            refine w_gf dX9_blame_1 rfl hJ.1.1 zs_386 f2 ?_
            refine w_ile_t dX9_blame_4 (t := 8) rfl (by omega) ?_
            refine w_lo dX9_blame_8 rfl rfl rfl rfl ?_
            refine w_lo dX9_blame_9 rfl rfl rfl rfl ?_
            refine w_pfi dX9_blame_10 rfl hJ zs_386 (Nat.le_of_ble_eq_true rfl) zo_386_8 (by have := zt_4; omega) (by have := zt_4; omega) (zIR_s (zIR_s (zIR_s (zIR_s (zIR_s (zIR_k (by omega) (by omega))))))) rfl rfl rfl ?_
            intro M19 hJ20 f21 hn22
            refine w_lo dX9_blame_13 rfl rfl rfl rfl ?_
            refine w_lo dX9_blame_14 rfl rfl rfl rfl ?_
            refine w_pfi dX9_blame_15 rfl hJ20 zs_386 (Nat.le_of_ble_eq_true rfl) zo_386_9 (by omega) (by omega) (zIR_s (zIR_s (zIR_s (zIR_s (zIR_s (zIR_s (zIR_k (by omega) (by omega)))))))) rfl rfl rfl ?_
            intro M23 hJ24 f25 hn26
            refine w_en dX9_blame_18 rfl ?_
            show ZW _ _ _ _ _ _ _ (54, [some (.ref 386), some (.int v26_1), some (.int v26_2), o26_3], [], M23)
            refine w_lo dX9_number_54 rfl rfl rfl rfl ?_
            have f27 := (hn26 (386) 6 (Or.inr (by decide))).trans ((hn22 (386) 6 (Or.inr (by decide))).trans (f11))
            refine w_gf dX9_number_55 rfl hJ24.1.1 zs_386 f27 ?_
            refine w_lo (ml' := [some (.ref 386), some (.int v26_1), some (.int v26_2), some (.int x10)]) dX9_number_58 rfl rfl rfl rfl ?_
            refine w_lo dX9_number_59 rfl rfl rfl rfl ?_
            have f28 := (hn26 (386) 8 (Or.inr (by decide))).trans (f21)
            refine w_gf dX9_number_60 rfl hJ24.1.1 zs_386 f28 ?_
            refine w_ine_t dX9_number_63 (t := 70) rfl (by have := zt_4; omega) ?_
            refine w_lo dX9_number_70 rfl rfl rfl rfl ?_
            refine w_eni dX9_number_71 rfl rfl ?_
            exact ⟨_, _, rfl, (zbot _), (ztop _), hJ24, trivial⟩
          · skip
            refine w_clt_f dX9_is_2 (t := 14) rfl (by omega) ?_
            refine w_lo dX9_is_5 rfl rfl rfl rfl ?_
            refine w_lo dX9_is_6 rfl rfl rfl rfl ?_
            rcases zcut v26_2.toInt x10.toInt with h29 | h29
            · skip
              refine w_cgt_t dX9_is_7 (t := 14) rfl (by omega) ?_
              refine w_ic dX9_is_14 zi_0 ?_
              refine w_en dX9_is_15 rfl ?_
              show ZW _ _ _ _ _ _ _ (42, [some (.ref 386), some (.int v26_1), some (.int v26_2), o26_3], [.int 0], M)
              refine w_ine_f dX9_number_42 (t := 54) rfl (by have := zt_0; omega) ?_
              refine w_lo dX9_number_45 rfl rfl rfl rfl ?_
              refine w_ic dX9_number_46 zi_4 ?_
              refine w_lo dX9_number_47 rfl rfl rfl rfl ?_
              refine w_gfi dX9_number_48 rfl hJ.1 zs_386 (Nat.le_of_ble_eq_true rfl) zo_386_4 ?_
              intro x30 f31 h32 h33
              refine w_iv dX9_number_51 rfl rfl (As := [.int 4, .int x30]) rfl rfl hJ.1.1 zs_386 (Nat.le_of_ble_eq_true rfl) ?_
              refine ZV.of (ini := false) rfl (Nat.le_of_ble_eq_true rfl) (by decide +kernel) ?_
              show ZW _ _ _ _ _ _ _ (0, [some (.ref 386), some (.int 4), some (.int x30)], [], M)
              refine w_lo dX9_blame_0 rfl rfl rfl rfl ?_
              refine w_gf dX9_blame_1 rfl hJ.1.1 zs_386 f2 ?_
              refine w_ile_t dX9_blame_4 (t := 8) rfl (by omega) ?_
              refine w_lo dX9_blame_8 rfl rfl rfl rfl ?_
              refine w_lo dX9_blame_9 rfl rfl rfl rfl ?_
              refine w_pfi dX9_blame_10 rfl hJ zs_386 (Nat.le_of_ble_eq_true rfl) zo_386_8 (by have := zt_4; omega) (by have := zt_4; omega) (zIR_s (zIR_s (zIR_s (zIR_s (zIR_s (zIR_k (by omega) (by omega))))))) rfl rfl rfl ?_
              intro M34 hJ35 f36 hn37
              refine w_lo dX9_blame_13 rfl rfl rfl rfl ?_
              refine w_lo dX9_blame_14 rfl rfl rfl rfl ?_
              refine w_pfi dX9_blame_15 rfl hJ35 zs_386 (Nat.le_of_ble_eq_true rfl) zo_386_9 (by omega) (by omega) (zIR_s (zIR_s (zIR_s (zIR_s (zIR_s (zIR_s (zIR_k (by omega) (by omega)))))))) rfl rfl rfl ?_
              intro M38 hJ39 f40 hn41
              refine w_en dX9_blame_18 rfl ?_
              show ZW _ _ _ _ _ _ _ (54, [some (.ref 386), some (.int v26_1), some (.int v26_2), o26_3], [], M38)
              refine w_lo dX9_number_54 rfl rfl rfl rfl ?_
              have f42 := (hn41 (386) 6 (Or.inr (by decide))).trans ((hn37 (386) 6 (Or.inr (by decide))).trans (f11))
              refine w_gf dX9_number_55 rfl hJ39.1.1 zs_386 f42 ?_
              refine w_lo (ml' := [some (.ref 386), some (.int v26_1), some (.int v26_2), some (.int x10)]) dX9_number_58 rfl rfl rfl rfl ?_
              refine w_lo dX9_number_59 rfl rfl rfl rfl ?_
              have f43 := (hn41 (386) 8 (Or.inr (by decide))).trans (f36)
              refine w_gf dX9_number_60 rfl hJ39.1.1 zs_386 f43 ?_
              refine w_ine_t dX9_number_63 (t := 70) rfl (by have := zt_4; omega) ?_
              refine w_lo dX9_number_70 rfl rfl rfl rfl ?_
              refine w_eni dX9_number_71 rfl rfl ?_
              exact ⟨_, _, rfl, (zbot _), (ztop _), hJ39, trivial⟩
            · skip
              refine w_cgt_f dX9_is_7 (t := 14) rfl (by omega) ?_
              refine w_ic dX9_is_10 zi_1 ?_
              refine w_gt dX9_is_11 (t := 15) rfl ?_
              refine w_en dX9_is_15 rfl ?_
              show ZW _ _ _ _ _ _ _ (42, [some (.ref 386), some (.int v26_1), some (.int v26_2), o26_3], [.int 1], M)
              refine w_ine_t dX9_number_42 (t := 54) rfl (by have := zt_1; omega) ?_
              refine w_lo dX9_number_54 rfl rfl rfl rfl ?_
              refine w_gf dX9_number_55 rfl hJ.1.1 zs_386 f11 ?_
              refine w_lo (ml' := [some (.ref 386), some (.int v26_1), some (.int v26_2), some (.int x10)]) dX9_number_58 rfl rfl rfl rfl ?_
              refine w_lo dX9_number_59 rfl rfl rfl rfl ?_
              refine w_gf dX9_number_60 rfl hJ.1.1 zs_386 f2 ?_
              refine w_ine_f dX9_number_63 (t := 70) rfl (by omega) ?_
              refine w_lo dX9_number_66 rfl rfl rfl rfl ?_
              refine w_iv dX9_number_67 rfl rfl (As := []) rfl rfl hJ.1.1 zs_386 (Nat.le_of_ble_eq_true rfl) ?_
              refine ZV.imp (k_2310 hN hJ.1) ?_
              rintro _ ⟨M44, rfl, hJ45, hq46⟩
              have hJ47 := zJ_trans hJ hJ45 (zSub_cons (fun _ _ h h' hk => zIR_e (by omega) (by omega) hk) (zSub_cons (fun _ _ h h' hk => zIR_s (zIR_e (by omega) (by omega) hk)) (zSub_cons (fun _ _ h h' hk => zIR_s (zIR_s (zIR_e (by omega) (by omega) hk))) (zSub_cons (fun _ _ h h' hk => zIR_s (zIR_s (zIR_s (zIR_e (by omega) (by omega) hk)))) (zSub_cons (fun _ _ h h' hk => zIR_s (zIR_s (zIR_s (zIR_s (zIR_e (by omega) (by omega) hk))))) (zSub_cons (fun _ _ h h' hk => zIR_s (zIR_s (zIR_s (zIR_s (zIR_s (zIR_e (by omega) (by omega) hk)))))) (zSub_cons (fun _ _ h h' hk => zIR_s (zIR_s (zIR_s (zIR_s (zIR_s (zIR_s (zIR_e (by omega) (by omega) hk))))))) zSub_nil)))))))
              show ZW _ _ _ _ _ _ _ (70, [some (.ref 386), some (.int v26_1), some (.int v26_2), some (.int x10)], [], M44)
              refine w_lo dX9_number_70 rfl rfl rfl rfl ?_
              refine w_eni dX9_number_71 rfl rfl ?_
              exact ⟨_, _, rfl, (zbot _), (ztop _), hJ47, trivial⟩
  have ih26 := main 6
  show ZW _ _ _ _ _ _ _ (0, [some (.ref 386), some (.int a0), some (.int a1), none], [], M0)
  refine w_lo dX9_number_0 rfl rfl rfl rfl ?_
  refine w_gfi dX9_number_1 rfl hJ0.1 zs_386 (Nat.le_of_ble_eq_true rfl) zo_386_8 ?_
  intro x48 f49 h50 h51
  rcases zcut (0 : Int) x48.toInt with h52 | h52
  · skip
    refine w_ile_f dX9_number_4 (t := 9) rfl (by omega) ?_
    refine w_ic dX9_number_7 zi_0 ?_
    refine w_en dX9_number_8 rfl ?_
    exact ⟨_, _, rfl, (zbot _), (ztop _), hJ0, trivial⟩
  · skip
    refine w_ile_t dX9_number_4 (t := 9) rfl (by omega) ?_
    refine w_lo dX9_number_9 rfl rfl rfl rfl ?_
    refine w_gfi dX9_number_10 rfl hJ0.1 zs_386 (Nat.le_of_ble_eq_true rfl) zo_386_3 ?_
    intro x53 f54 h55 h56
    refine w_ic dX9_number_13 zi_2 ?_
    rcases Int.decEq x53.toInt (2 : Int) with h57 | h57
    · skip
      refine w_ceq_f dX9_number_14 (t := 26) rfl (by have := zt_2; omega) ?_
      refine w_lo dX9_number_17 rfl rfl rfl rfl ?_
      refine w_ic dX9_number_18 zi_1 ?_
      refine w_lo dX9_number_19 rfl rfl rfl rfl ?_
      refine w_gfi dX9_number_20 rfl hJ0.1 zs_386 (Nat.le_of_ble_eq_true rfl) zo_386_4 ?_
      intro x58 f59 h60 h61
      refine w_iv dX9_number_23 rfl rfl (As := [.int 1, .int x58]) rfl rfl hJ0.1.1 zs_386 (Nat.le_of_ble_eq_true rfl) ?_
      refine ZV.of (ini := false) rfl (Nat.le_of_ble_eq_true rfl) (by decide +kernel) ?_
      show ZW _ _ _ _ _ _ _ (0, [some (.ref 386), some (.int 1), some (.int x58)], [], M0)
      refine w_lo dX9_blame_0 rfl rfl rfl rfl ?_
      refine w_gf dX9_blame_1 rfl hJ0.1.1 zs_386 f49 ?_
      refine w_ile_t dX9_blame_4 (t := 8) rfl (by omega) ?_
      refine w_lo dX9_blame_8 rfl rfl rfl rfl ?_
      refine w_lo dX9_blame_9 rfl rfl rfl rfl ?_
      refine w_pfi dX9_blame_10 rfl hJ0 zs_386 (Nat.le_of_ble_eq_true rfl) zo_386_8 (by have := zt_1; omega) (by have := zt_1; omega) (zIR_s (zIR_s (zIR_s (zIR_s (zIR_s (zIR_k (by omega) (by omega))))))) rfl rfl rfl ?_
      intro M62 hJ63 f64 hn65
      refine w_lo dX9_blame_13 rfl rfl rfl rfl ?_
      refine w_lo dX9_blame_14 rfl rfl rfl rfl ?_
      refine w_pfi dX9_blame_15 rfl hJ63 zs_386 (Nat.le_of_ble_eq_true rfl) zo_386_9 (by omega) (by omega) (zIR_s (zIR_s (zIR_s (zIR_s (zIR_s (zIR_s (zIR_k (by omega) (by omega)))))))) rfl rfl rfl ?_
      intro M66 hJ67 f68 hn69
      refine w_en dX9_blame_18 rfl ?_
      show ZW _ _ _ _ _ _ _ (26, [some (.ref 386), some (.int a0), some (.int a1), none], [], M66)
      exact ih26 M66 a0 a1 none hJ67 (by omega) (by omega) (by omega) (by omega) (by omega)
    · skip
      refine w_ceq_t dX9_number_14 (t := 26) rfl (by have := zt_2; omega) ?_
      exact ih26 M0 a0 a1 none hJ0 (by omega) (by omega) (by omega) (by omega) (by omega)
set_option maxRecDepth 100000 in
theorem k_2317 {X : List Int32} {d N : Nat} {M0 : zM} (a0 : Int32) (ha00 : (0 : Int) ≤ a0.toInt) (ha01 : a0.toInt ≤ 0) (hN : N ≤ 600) (hB0 : zB N M0) : ZV X (d + 3) 2317 [.ref 386, .int a0] M0 (zRI N [(386, 387, 3), (386, 387, 4), (386, 387, 5), (386, 387, 6), (386, 387, 7), (386, 387, 8), (386, 387, 9)] M0 (0) (1) (fun _ _ => True)) := by
  have hJ0 : zJ N [(386, 387, 3), (386, 387, 4), (386, 387, 5), (386, 387, 6), (386, 387, 7), (386, 387, 8), (386, 387, 9)] M0 M0 := zJ_refl hB0
  refine ZV.of (ini := false) rfl (Nat.le_of_ble_eq_true rfl) (by decide +kernel) ?_
  show ZW _ _ _ _ _ _ _ (0, [some (.ref 386), some (.int a0)], [], M0)
  refine w_lo dX9_counts_0 rfl rfl rfl rfl ?_
  refine w_gfi dX9_counts_1 rfl hJ0.1 zs_386 (Nat.le_of_ble_eq_true rfl) zo_386_8 ?_
  intro x1 f2 h3 h4
  rcases Int.decEq x1.toInt (0 : Int) with h5 | h5
  · skip
    refine w_ine_t dX9_counts_4 (t := 20) rfl (by omega) ?_
    refine w_lo dX9_counts_20 rfl rfl rfl rfl ?_
    refine w_gf dX9_counts_21 rfl hJ0.1.1 zs_386 f2 ?_
    refine w_ine_t dX9_counts_24 (t := 31) rfl (by omega) ?_
    refine w_lo dX9_counts_31 rfl rfl rfl rfl ?_
    refine w_gf dX9_counts_32 rfl hJ0.1.1 zs_386 f2 ?_
    refine w_ine_t dX9_counts_35 (t := 42) rfl (by omega) ?_
    refine w_ic dX9_counts_42 zi_0 ?_
    refine w_en dX9_counts_43 rfl ?_
    exact ⟨_, _, rfl, (by have := zt_0; omega), (by have := zt_0; omega), hJ0, trivial⟩
  · skip
    refine w_ine_f dX9_counts_4 (t := 20) rfl (by omega) ?_
    refine w_lo dX9_counts_7 rfl rfl rfl rfl ?_
    refine w_ieq_t dX9_counts_8 (t := 20) rfl (by omega) ?_
    refine w_lo dX9_counts_20 rfl rfl rfl rfl ?_
    refine w_gf dX9_counts_21 rfl hJ0.1.1 zs_386 f2 ?_
    refine w_ine_f dX9_counts_24 (t := 31) rfl (by omega) ?_
    refine w_lo dX9_counts_27 rfl rfl rfl rfl ?_
    refine w_iv dX9_counts_28 rfl rfl (As := []) rfl rfl hJ0.1.1 zs_386 (Nat.le_of_ble_eq_true rfl) ?_
    refine ZV.imp (k_2310 hN hJ0.1) ?_
    rintro _ ⟨M6, rfl, hJ7, hq8⟩
    have hJ9 := zJ_trans hJ0 hJ7 (zSub_cons (fun _ _ h h' hk => zIR_e (by omega) (by omega) hk) (zSub_cons (fun _ _ h h' hk => zIR_s (zIR_e (by omega) (by omega) hk)) (zSub_cons (fun _ _ h h' hk => zIR_s (zIR_s (zIR_e (by omega) (by omega) hk))) (zSub_cons (fun _ _ h h' hk => zIR_s (zIR_s (zIR_s (zIR_e (by omega) (by omega) hk)))) (zSub_cons (fun _ _ h h' hk => zIR_s (zIR_s (zIR_s (zIR_s (zIR_e (by omega) (by omega) hk))))) (zSub_cons (fun _ _ h h' hk => zIR_s (zIR_s (zIR_s (zIR_s (zIR_s (zIR_e (by omega) (by omega) hk)))))) (zSub_cons (fun _ _ h h' hk => zIR_s (zIR_s (zIR_s (zIR_s (zIR_s (zIR_s (zIR_e (by omega) (by omega) hk))))))) zSub_nil)))))))
    show ZW _ _ _ _ _ _ _ (31, [some (.ref 386), some (.int a0)], [], M6)
    refine w_lo dX9_counts_31 rfl rfl rfl rfl ?_
    refine w_gfi dX9_counts_32 rfl hJ9.1 zs_386 (Nat.le_of_ble_eq_true rfl) zo_386_8 ?_
    intro x10 f11 h12 h13
    rcases Int.decEq x10.toInt (0 : Int) with h14 | h14
    · skip
      refine w_ine_t dX9_counts_35 (t := 42) rfl (by omega) ?_
      refine w_ic dX9_counts_42 zi_0 ?_
      refine w_en dX9_counts_43 rfl ?_
      exact ⟨_, _, rfl, (by have := zt_0; omega), (by have := zt_0; omega), hJ9, trivial⟩
    · skip
      refine w_ine_f dX9_counts_35 (t := 42) rfl (by omega) ?_
      refine w_ic dX9_counts_38 zi_1 ?_
      refine w_gt dX9_counts_39 (t := 43) rfl ?_
      refine w_en dX9_counts_43 rfl ?_
      exact ⟨_, _, rfl, (by have := zt_1; omega), (by have := zt_1; omega), hJ9, trivial⟩
set_option maxRecDepth 100000 in
theorem k_2325 {X : List Int32} {d N : Nat} {M0 : zM}  (hN : N ≤ 600) (hB0 : zB N M0) : ZV X (d + 4) 2325 [.ref 386] M0 (zRV N [(395, 396, 1000), (386, 387, 3), (386, 387, 4), (386, 387, 5), (386, 387, 6), (386, 387, 7), (386, 387, 8), (386, 387, 9)] M0 (fun _ => True)) := by
  have hJ0 : zJ N [(395, 396, 1000), (386, 387, 3), (386, 387, 4), (386, 387, 5), (386, 387, 6), (386, 387, 7), (386, 387, 8), (386, 387, 9)] M0 M0 := zJ_refl hB0
  refine ZV.of (ini := false) rfl (Nat.le_of_ble_eq_true rfl) (by decide +kernel) ?_
  show ZW _ _ _ _ _ _ _ (0, [some (.ref 386), none, none], [], M0)
  refine w_lo dX9_slacking_0 rfl rfl rfl rfl ?_
  refine w_ic dX9_slacking_1 zi_0 ?_
  refine w_iv dX9_slacking_2 rfl rfl (As := [.int 0]) rfl rfl hJ0.1.1 zs_386 (Nat.le_of_ble_eq_true rfl) ?_
  refine ZV.imp (k_2317 0 (by have := zt_0; omega) (by have := zt_0; omega) hN hJ0.1) ?_
  rintro _ ⟨x4, M1, rfl, h5, h6, hJ2, hq3⟩
  have hJ7 := zJ_trans hJ0 hJ2 (zSub_cons (fun _ _ h h' hk => zIR_s (zIR_e (by omega) (by omega) hk)) (zSub_cons (fun _ _ h h' hk => zIR_s (zIR_s (zIR_e (by omega) (by omega) hk))) (zSub_cons (fun _ _ h h' hk => zIR_s (zIR_s (zIR_s (zIR_e (by omega) (by omega) hk)))) (zSub_cons (fun _ _ h h' hk => zIR_s (zIR_s (zIR_s (zIR_s (zIR_e (by omega) (by omega) hk))))) (zSub_cons (fun _ _ h h' hk => zIR_s (zIR_s (zIR_s (zIR_s (zIR_s (zIR_e (by omega) (by omega) hk)))))) (zSub_cons (fun _ _ h h' hk => zIR_s (zIR_s (zIR_s (zIR_s (zIR_s (zIR_s (zIR_e (by omega) (by omega) hk))))))) (zSub_cons (fun _ _ h h' hk => zIR_s (zIR_s (zIR_s (zIR_s (zIR_s (zIR_s (zIR_s (zIR_e (by omega) (by omega) hk)))))))) zSub_nil)))))))
  show ZW _ _ _ _ _ _ _ (5, [some (.ref 386), none, none], [.int x4], M1)
  rcases Int.decEq x4.toInt (0 : Int) with h8 | h8
  · skip
    refine w_ine_t dX9_slacking_5 (t := 9) rfl (by omega) ?_
    refine w_lo dX9_slacking_9 rfl rfl rfl rfl ?_
    refine w_ic dX9_slacking_10 zi_0 ?_
    refine w_bi dX9_slacking_11 (c := 99) (by decide) ?_
    refine w_iv dX9_slacking_13 rfl rfl (As := [.int 0, .int 99]) rfl rfl hJ7.1.1 zs_386 (Nat.le_of_ble_eq_true rfl) ?_
    refine ZV.of (ini := false) rfl (Nat.le_of_ble_eq_true rfl) (by decide +kernel) ?_
    show ZW _ _ _ _ _ _ _ (0, [some (.ref 386), some (.int 0), some (.int 99), none], [], M1)
    refine w_lo dX9_number_0 rfl rfl rfl rfl ?_
    refine w_gfi dX9_number_1 rfl hJ7.1 zs_386 (Nat.le_of_ble_eq_true rfl) zo_386_8 ?_
    intro x9 f10 h11 h12
    rcases zcut (0 : Int) x9.toInt with h13 | h13
    · skip
      refine w_ile_f dX9_number_4 (t := 9) rfl (by omega) ?_
      refine w_ic dX9_number_7 zi_0 ?_
      refine w_en dX9_number_8 rfl ?_
      show ZW _ _ _ _ _ _ _ (16, [some (.ref 386), none, none], [.int 0], M1)
      refine w_lo (ml' := [some (.ref 386), some (.int 0), none]) dX9_slacking_16 rfl rfl rfl rfl ?_
      refine w_lo dX9_slacking_17 rfl rfl rfl rfl ?_
      refine w_me (st' := [.long (24948 : Int64), .ref 386]) dX9_slacking_18 rfl rfl rfl rfl rfl ?_
      refine w_iv dX9_slacking_21 rfl rfl (As := [.long (24948 : Int64)]) rfl rfl hJ7.1.1 zs_386 (Nat.le_of_ble_eq_true rfl) ?_
      refine ZV.imp (k_2321 hN hJ7.1) ?_
      rintro _ ⟨M14, rfl, hJ15, hq16⟩
      have hJ17 := zJ_trans hJ7 hJ15 (zSub_cons (fun _ _ h h' hk => zIR_s (zIR_e (by omega) (by omega) hk)) (zSub_cons (fun _ _ h h' hk => zIR_s (zIR_s (zIR_e (by omega) (by omega) hk))) (zSub_cons (fun _ _ h h' hk => zIR_s (zIR_s (zIR_s (zIR_e (by omega) (by omega) hk)))) (zSub_cons (fun _ _ h h' hk => zIR_s (zIR_s (zIR_s (zIR_s (zIR_e (by omega) (by omega) hk))))) (zSub_cons (fun _ _ h h' hk => zIR_s (zIR_s (zIR_s (zIR_s (zIR_s (zIR_e (by omega) (by omega) hk)))))) (zSub_cons (fun _ _ h h' hk => zIR_s (zIR_s (zIR_s (zIR_s (zIR_s (zIR_s (zIR_e (by omega) (by omega) hk))))))) (zSub_cons (fun _ _ h h' hk => zIR_s (zIR_s (zIR_s (zIR_s (zIR_s (zIR_s (zIR_s (zIR_e (by omega) (by omega) hk)))))))) zSub_nil)))))))
      show ZW _ _ _ _ _ _ _ (24, [some (.ref 386), some (.int 0), none], [], M14)
      refine w_lo dX9_slacking_24 rfl rfl rfl rfl ?_
      refine w_ic dX9_slacking_25 zi_0 ?_
      refine w_bi dX9_slacking_26 (c := 10) (by decide) ?_
      refine w_iv dX9_slacking_28 rfl rfl (As := [.int 0, .int 10]) rfl rfl hJ17.1.1 zs_386 (Nat.le_of_ble_eq_true rfl) ?_
      refine ZV.of (ini := false) rfl (Nat.le_of_ble_eq_true rfl) (by decide +kernel) ?_
      show ZW _ _ _ _ _ _ _ (0, [some (.ref 386), some (.int 0), some (.int 10), none], [], M14)
      refine w_lo dX9_number_0 rfl rfl rfl rfl ?_
      refine w_gfi dX9_number_1 rfl hJ17.1 zs_386 (Nat.le_of_ble_eq_true rfl) zo_386_8 ?_
      intro x18 f19 h20 h21
      rcases zcut (0 : Int) x18.toInt with h22 | h22
      · skip
        refine w_ile_f dX9_number_4 (t := 9) rfl (by omega) ?_
        refine w_ic dX9_number_7 zi_0 ?_
        refine w_en dX9_number_8 rfl ?_
        show ZW _ _ _ _ _ _ _ (31, [some (.ref 386), some (.int 0), none], [.int 0], M14)
        refine w_lo (ml' := [some (.ref 386), some (.int 0), some (.int 0)]) dX9_slacking_31 rfl rfl rfl rfl ?_
        refine w_lo dX9_slacking_32 rfl rfl rfl rfl ?_
        refine w_gf dX9_slacking_33 rfl hJ17.1.1 zs_386 f19 ?_
        refine w_ine_t dX9_slacking_36 (t := 54) rfl (by omega) ?_
        refine w_en dX9_slacking_54 rfl ?_
        exact ⟨_, rfl, hJ17, trivial⟩
      · skip
        refine w_ile_t dX9_number_4 (t := 9) rfl (by omega) ?_
        refine w_lo dX9_number_9 rfl rfl rfl rfl ?_
        refine w_gfi dX9_number_10 rfl hJ17.1 zs_386 (Nat.le_of_ble_eq_true rfl) zo_386_3 ?_
        intro x23 f24 h25 h26
        refine w_ic dX9_number_13 zi_2 ?_
        rcases Int.decEq x23.toInt (2 : Int) with h27 | h27
        · skip
          refine w_ceq_f dX9_number_14 (t := 26) rfl (by have := zt_2; omega) ?_
          refine w_lo dX9_number_17 rfl rfl rfl rfl ?_
          refine w_ic dX9_number_18 zi_1 ?_
          refine w_lo dX9_number_19 rfl rfl rfl rfl ?_
          refine w_gfi dX9_number_20 rfl hJ17.1 zs_386 (Nat.le_of_ble_eq_true rfl) zo_386_4 ?_
          intro x28 f29 h30 h31
          refine w_iv dX9_number_23 rfl rfl (As := [.int 1, .int x28]) rfl rfl hJ17.1.1 zs_386 (Nat.le_of_ble_eq_true rfl) ?_
          refine ZV.of (ini := false) rfl (Nat.le_of_ble_eq_true rfl) (by decide +kernel) ?_
          show ZW _ _ _ _ _ _ _ (0, [some (.ref 386), some (.int 1), some (.int x28)], [], M14)
          refine w_lo dX9_blame_0 rfl rfl rfl rfl ?_
          refine w_gf dX9_blame_1 rfl hJ17.1.1 zs_386 f19 ?_
          refine w_ile_t dX9_blame_4 (t := 8) rfl (by omega) ?_
          refine w_lo dX9_blame_8 rfl rfl rfl rfl ?_
          refine w_lo dX9_blame_9 rfl rfl rfl rfl ?_
          refine w_pfi dX9_blame_10 rfl hJ17 zs_386 (Nat.le_of_ble_eq_true rfl) zo_386_8 (by have := zt_1; omega) (by have := zt_1; omega) (zIR_s (zIR_s (zIR_s (zIR_s (zIR_s (zIR_s (zIR_k (by omega) (by omega)))))))) rfl rfl rfl ?_
          intro M32 hJ33 f34 hn35
          refine w_lo dX9_blame_13 rfl rfl rfl rfl ?_
          refine w_lo dX9_blame_14 rfl rfl rfl rfl ?_
          refine w_pfi dX9_blame_15 rfl hJ33 zs_386 (Nat.le_of_ble_eq_true rfl) zo_386_9 (by omega) (by omega) (zIR_s (zIR_s (zIR_s (zIR_s (zIR_s (zIR_s (zIR_s (zIR_k (by omega) (by omega))))))))) rfl rfl rfl ?_
          intro M36 hJ37 f38 hn39
          refine w_en dX9_blame_18 rfl ?_
          show ZW _ _ _ _ _ _ _ (26, [some (.ref 386), some (.int 0), some (.int 10), none], [], M36)
          refine w_lo dX9_number_26 rfl rfl rfl rfl ?_
          have f40 := (hn39 (386) 8 (Or.inr (by decide))).trans (f34)
          refine w_gf dX9_number_27 rfl hJ37.1.1 zs_386 f40 ?_
          refine w_ine_t dX9_number_30 (t := 54) rfl (by have := zt_1; omega) ?_
          refine w_lo dX9_number_54 rfl rfl rfl rfl ?_
          refine w_gfi dX9_number_55 rfl hJ37.1 zs_386 (Nat.le_of_ble_eq_true rfl) zo_386_6 ?_
          intro x41 f42 h43 h44
          refine w_lo (ml' := [some (.ref 386), some (.int 0), some (.int 10), some (.int x41)]) dX9_number_58 rfl rfl rfl rfl ?_
          refine w_lo dX9_number_59 rfl rfl rfl rfl ?_
          refine w_gf dX9_number_60 rfl hJ37.1.1 zs_386 f40 ?_
          refine w_ine_t dX9_number_63 (t := 70) rfl (by have := zt_1; omega) ?_
          refine w_lo dX9_number_70 rfl rfl rfl rfl ?_
          refine w_eni dX9_number_71 rfl rfl ?_
          show ZW _ _ _ _ _ _ _ (31, [some (.ref 386), some (.int 0), none], [.int x41], M36)
          refine w_lo (ml' := [some (.ref 386), some (.int 0), some (.int x41)]) dX9_slacking_31 rfl rfl rfl rfl ?_
          refine w_lo dX9_slacking_32 rfl rfl rfl rfl ?_
          refine w_gf dX9_slacking_33 rfl hJ37.1.1 zs_386 f40 ?_
          refine w_ine_t dX9_slacking_36 (t := 54) rfl (by have := zt_1; omega) ?_
          refine w_en dX9_slacking_54 rfl ?_
          exact ⟨_, rfl, hJ37, trivial⟩
        · skip
          refine w_ceq_t dX9_number_14 (t := 26) rfl (by have := zt_2; omega) ?_
          refine w_lo dX9_number_26 rfl rfl rfl rfl ?_
          refine w_gf dX9_number_27 rfl hJ17.1.1 zs_386 f19 ?_
          refine w_ine_f dX9_number_30 (t := 54) rfl (by omega) ?_
          refine w_lo dX9_number_33 rfl rfl rfl rfl ?_
          refine w_gfi dX9_number_34 rfl hJ17.1 zs_386 (Nat.le_of_ble_eq_true rfl) zo_386_6 ?_
          intro x45 f46 h47 h48
          refine w_lo dX9_number_37 rfl rfl rfl rfl ?_
          refine w_lo dX9_number_38 rfl rfl rfl rfl ?_
          refine w_ss dX9_number_39 rfl rfl (As := [.int x45, .int 0, .int 10]) rfl rfl (Nat.le_of_ble_eq_true rfl) ?_
          refine ZV.of (ini := false) rfl (Nat.le_of_ble_eq_true rfl) (by decide +kernel) ?_
          show ZW _ _ _ _ _ _ _ (0, [some (.int x45), some (.int 0), some (.int 10)], [], M14)
          refine w_lo dX9_is_0 rfl rfl rfl rfl ?_
          refine w_lo dX9_is_1 rfl rfl rfl rfl ?_
          rcases zcut x45.toInt (0 : Int) with h49 | h49
          · skip
            refine w_clt_t dX9_is_2 (t := 14) rfl (by have := zt_0; omega) ?_
            refine w_ic dX9_is_14 zi_0 ?_
            refine w_en dX9_is_15 rfl ?_
            show ZW _ _ _ _ _ _ _ (42, [some (.ref 386), some (.int 0), some (.int 10), none], [.int 0], M14)
            refine w_ine_f dX9_number_42 (t := 54) rfl (by have := zt_0; omega) ?_
            refine w_lo dX9_number_45 rfl rfl rfl rfl ?_
            refine w_ic dX9_number_46 zi_4 ?_
            refine w_lo dX9_number_47 rfl rfl rfl rfl ?_
            refine w_gfi dX9_number_48 rfl hJ17.1 zs_386 (Nat.le_of_ble_eq_true rfl) zo_386_4 ?_
            intro x50 f51 h52 h53
            refine w_iv dX9_number_51 rfl rfl (As := [.int 4, .int x50]) rfl rfl hJ17.1.1 zs_386 (Nat.le_of_ble_eq_true rfl) ?_
            refine ZV.of (ini := false) rfl (Nat.le_of_ble_eq_true rfl) (by decide +kernel) ?_
            show ZW _ _ _ _ _ _ _ (0, [some (.ref 386), some (.int 4), some (.int x50)], [], M14)
            refine w_lo dX9_blame_0 rfl rfl rfl rfl ?_
            refine w_gf dX9_blame_1 rfl hJ17.1.1 zs_386 f19 ?_
            refine w_ile_t dX9_blame_4 (t := 8) rfl (by omega) ?_
            refine w_lo dX9_blame_8 rfl rfl rfl rfl ?_
            refine w_lo dX9_blame_9 rfl rfl rfl rfl ?_
            refine w_pfi dX9_blame_10 rfl hJ17 zs_386 (Nat.le_of_ble_eq_true rfl) zo_386_8 (by have := zt_4; omega) (by have := zt_4; omega) (zIR_s (zIR_s (zIR_s (zIR_s (zIR_s (zIR_s (zIR_k (by omega) (by omega)))))))) rfl rfl rfl ?_
            intro M54 hJ55 f56 hn57
            refine w_lo dX9_blame_13 rfl rfl rfl rfl ?_
            refine w_lo dX9_blame_14 rfl rfl rfl rfl ?_
            refine w_pfi dX9_blame_15 rfl hJ55 zs_386 (Nat.le_of_ble_eq_true rfl) zo_386_9 (by omega) (by omega) (zIR_s (zIR_s (zIR_s (zIR_s (zIR_s (zIR_s (zIR_s (zIR_k (by omega) (by omega))))))))) rfl rfl rfl ?_
            intro M58 hJ59 f60 hn61
            refine w_en dX9_blame_18 rfl ?_
            show ZW _ _ _ _ _ _ _ (54, [some (.ref 386), some (.int 0), some (.int 10), none], [], M58)
            refine w_lo dX9_number_54 rfl rfl rfl rfl ?_
            have f62 := (hn61 (386) 6 (Or.inr (by decide))).trans ((hn57 (386) 6 (Or.inr (by decide))).trans (f46))
            refine w_gf dX9_number_55 rfl hJ59.1.1 zs_386 f62 ?_
            refine w_lo (ml' := [some (.ref 386), some (.int 0), some (.int 10), some (.int x45)]) dX9_number_58 rfl rfl rfl rfl ?_
            refine w_lo dX9_number_59 rfl rfl rfl rfl ?_
            have f63 := (hn61 (386) 8 (Or.inr (by decide))).trans (f56)
            refine w_gf dX9_number_60 rfl hJ59.1.1 zs_386 f63 ?_
            refine w_ine_t dX9_number_63 (t := 70) rfl (by have := zt_4; omega) ?_
            refine w_lo dX9_number_70 rfl rfl rfl rfl ?_
            refine w_eni dX9_number_71 rfl rfl ?_
            show ZW _ _ _ _ _ _ _ (31, [some (.ref 386), some (.int 0), none], [.int x45], M58)
            refine w_lo (ml' := [some (.ref 386), some (.int 0), some (.int x45)]) dX9_slacking_31 rfl rfl rfl rfl ?_
            refine w_lo dX9_slacking_32 rfl rfl rfl rfl ?_
            refine w_gf dX9_slacking_33 rfl hJ59.1.1 zs_386 f63 ?_
            refine w_ine_t dX9_slacking_36 (t := 54) rfl (by have := zt_4; omega) ?_
            refine w_en dX9_slacking_54 rfl ?_
            exact ⟨_, rfl, hJ59, trivial⟩
          · skip
            refine w_clt_f dX9_is_2 (t := 14) rfl (by have := zt_0; omega) ?_
            refine w_lo dX9_is_5 rfl rfl rfl rfl ?_
            refine w_lo dX9_is_6 rfl rfl rfl rfl ?_
            rcases zcut (10 : Int) x45.toInt with h64 | h64
            · skip
              refine w_cgt_t dX9_is_7 (t := 14) rfl (by have := zt_10; omega) ?_
              refine w_ic dX9_is_14 zi_0 ?_
              refine w_en dX9_is_15 rfl ?_
              show ZW _ _ _ _ _ _ _ (42, [some (.ref 386), some (.int 0), some (.int 10), none], [.int 0], M14)
              refine w_ine_f dX9_number_42 (t := 54) rfl (by have := zt_0; omega) ?_
              refine w_lo dX9_number_45 rfl rfl rfl rfl ?_
              refine w_ic dX9_number_46 zi_4 ?_
              refine w_lo dX9_number_47 rfl rfl rfl rfl ?_
              refine w_gfi dX9_number_48 rfl hJ17.1 zs_386 (Nat.le_of_ble_eq_true rfl) zo_386_4 ?_
              intro x65 f66 h67 h68
              refine w_iv dX9_number_51 rfl rfl (As := [.int 4, .int x65]) rfl rfl hJ17.1.1 zs_386 (Nat.le_of_ble_eq_true rfl) ?_
              refine ZV.of (ini := false) rfl (Nat.le_of_ble_eq_true rfl) (by decide +kernel) ?_
              show ZW _ _ _ _ _ _ _ (0, [some (.ref 386), some (.int 4), some (.int x65)], [], M14)
              refine w_lo dX9_blame_0 rfl rfl rfl rfl ?_
              refine w_gf dX9_blame_1 rfl hJ17.1.1 zs_386 f19 ?_
              refine w_ile_t dX9_blame_4 (t := 8) rfl (by omega) ?_
              refine w_lo dX9_blame_8 rfl rfl rfl rfl ?_
              refine w_lo dX9_blame_9 rfl rfl rfl rfl ?_
              refine w_pfi dX9_blame_10 rfl hJ17 zs_386 (Nat.le_of_ble_eq_true rfl) zo_386_8 (by have := zt_4; omega) (by have := zt_4; omega) (zIR_s (zIR_s (zIR_s (zIR_s (zIR_s (zIR_s (zIR_k (by omega) (by omega)))))))) rfl rfl rfl ?_
              intro M69 hJ70 f71 hn72
              refine w_lo dX9_blame_13 rfl rfl rfl rfl ?_
              refine w_lo dX9_blame_14 rfl rfl rfl rfl ?_
              refine w_pfi dX9_blame_15 rfl hJ70 zs_386 (Nat.le_of_ble_eq_true rfl) zo_386_9 (by omega) (by omega) (zIR_s (zIR_s (zIR_s (zIR_s (zIR_s (zIR_s (zIR_s (zIR_k (by omega) (by omega))))))))) rfl rfl rfl ?_
              intro M73 hJ74 f75 hn76
              refine w_en dX9_blame_18 rfl ?_
              show ZW _ _ _ _ _ _ _ (54, [some (.ref 386), some (.int 0), some (.int 10), none], [], M73)
              refine w_lo dX9_number_54 rfl rfl rfl rfl ?_
              have f77 := (hn76 (386) 6 (Or.inr (by decide))).trans ((hn72 (386) 6 (Or.inr (by decide))).trans (f46))
              refine w_gf dX9_number_55 rfl hJ74.1.1 zs_386 f77 ?_
              refine w_lo (ml' := [some (.ref 386), some (.int 0), some (.int 10), some (.int x45)]) dX9_number_58 rfl rfl rfl rfl ?_
              refine w_lo dX9_number_59 rfl rfl rfl rfl ?_
              have f78 := (hn76 (386) 8 (Or.inr (by decide))).trans (f71)
              refine w_gf dX9_number_60 rfl hJ74.1.1 zs_386 f78 ?_
              refine w_ine_t dX9_number_63 (t := 70) rfl (by have := zt_4; omega) ?_
              refine w_lo dX9_number_70 rfl rfl rfl rfl ?_
              refine w_eni dX9_number_71 rfl rfl ?_
              show ZW _ _ _ _ _ _ _ (31, [some (.ref 386), some (.int 0), none], [.int x45], M73)
              refine w_lo (ml' := [some (.ref 386), some (.int 0), some (.int x45)]) dX9_slacking_31 rfl rfl rfl rfl ?_
              refine w_lo dX9_slacking_32 rfl rfl rfl rfl ?_
              refine w_gf dX9_slacking_33 rfl hJ74.1.1 zs_386 f78 ?_
              refine w_ine_t dX9_slacking_36 (t := 54) rfl (by have := zt_4; omega) ?_
              refine w_en dX9_slacking_54 rfl ?_
              exact ⟨_, rfl, hJ74, trivial⟩
            · skip
              refine w_cgt_f dX9_is_7 (t := 14) rfl (by have := zt_10; omega) ?_
              refine w_ic dX9_is_10 zi_1 ?_
              refine w_gt dX9_is_11 (t := 15) rfl ?_
              refine w_en dX9_is_15 rfl ?_
              show ZW _ _ _ _ _ _ _ (42, [some (.ref 386), some (.int 0), some (.int 10), none], [.int 1], M14)
              refine w_ine_t dX9_number_42 (t := 54) rfl (by have := zt_1; omega) ?_
              refine w_lo dX9_number_54 rfl rfl rfl rfl ?_
              refine w_gf dX9_number_55 rfl hJ17.1.1 zs_386 f46 ?_
              refine w_lo (ml' := [some (.ref 386), some (.int 0), some (.int 10), some (.int x45)]) dX9_number_58 rfl rfl rfl rfl ?_
              refine w_lo dX9_number_59 rfl rfl rfl rfl ?_
              refine w_gf dX9_number_60 rfl hJ17.1.1 zs_386 f19 ?_
              refine w_ine_f dX9_number_63 (t := 70) rfl (by omega) ?_
              refine w_lo dX9_number_66 rfl rfl rfl rfl ?_
              refine w_iv dX9_number_67 rfl rfl (As := []) rfl rfl hJ17.1.1 zs_386 (Nat.le_of_ble_eq_true rfl) ?_
              refine ZV.imp (k_2310 hN hJ17.1) ?_
              rintro _ ⟨M79, rfl, hJ80, hq81⟩
              have hJ82 := zJ_trans hJ17 hJ80 (zSub_cons (fun _ _ h h' hk => zIR_s (zIR_e (by omega) (by omega) hk)) (zSub_cons (fun _ _ h h' hk => zIR_s (zIR_s (zIR_e (by omega) (by omega) hk))) (zSub_cons (fun _ _ h h' hk => zIR_s (zIR_s (zIR_s (zIR_e (by omega) (by omega) hk)))) (zSub_cons (fun _ _ h h' hk => zIR_s (zIR_s (zIR_s (zIR_s (zIR_e (by omega) (by omega) hk))))) (zSub_cons (fun _ _ h h' hk => zIR_s (zIR_s (zIR_s (zIR_s (zIR_s (zIR_e (by omega) (by omega) hk)))))) (zSub_cons (fun _ _ h h' hk => zIR_s (zIR_s (zIR_s (zIR_s (zIR_s (zIR_s (zIR_e (by omega) (by omega) hk))))))) (zSub_cons (fun _ _ h h' hk => zIR_s (zIR_s (zIR_s (zIR_s (zIR_s (zIR_s (zIR_s (zIR_e (by omega) (by omega) hk)))))))) zSub_nil)))))))
              show ZW _ _ _ _ _ _ _ (70, [some (.ref 386), some (.int 0), some (.int 10), some (.int x45)], [], M79)
              refine w_lo dX9_number_70 rfl rfl rfl rfl ?_
              refine w_eni dX9_number_71 rfl rfl ?_
              show ZW _ _ _ _ _ _ _ (31, [some (.ref 386), some (.int 0), none], [.int x45], M79)
              refine w_lo (ml' := [some (.ref 386), some (.int 0), some (.int x45)]) dX9_slacking_31 rfl rfl rfl rfl ?_
              refine w_lo dX9_slacking_32 rfl rfl rfl rfl ?_
              refine w_gfi dX9_slacking_33 rfl hJ82.1 zs_386 (Nat.le_of_ble_eq_true rfl) zo_386_8 ?_
              intro x83 f84 h85 h86
              rcases Int.decEq x83.toInt (0 : Int) with h87 | h87
              · skip
                refine w_ine_t dX9_slacking_36 (t := 54) rfl (by omega) ?_
                refine w_en dX9_slacking_54 rfl ?_
                exact ⟨_, rfl, hJ82, trivial⟩
              · skip
                refine w_ine_f dX9_slacking_36 (t := 54) rfl (by omega) ?_
                refine w_lo dX9_slacking_39 rfl rfl rfl rfl ?_
                refine w_gf dX9_slacking_40 rfl hJ82.1.1 zs_386 (zr_386_20 hJ82.1) ?_
                refine w_bi dX9_slacking_43 (c := 11) (by decide) ?_
                refine w_lo dX9_slacking_45 rfl rfl rfl rfl ?_
                refine w_gfi dX9_slacking_46 rfl hJ82.1 zs_386 (Nat.le_of_ble_eq_true rfl) zo_386_35 ?_
                intro x88 f89 h90 h91
                refine w_mulc dX9_slacking_49 zt_11 (by have := zt_11; omega) ?_
                intro x92 h93
                have := zt_11
                refine w_lo dX9_slacking_50 rfl rfl rfl rfl ?_
                refine w_add dX9_slacking_51 (by omega) ?_
                intro x94 h95
                refine w_lo dX9_slacking_52 rfl rfl rfl rfl ?_
                refine w_isi dX9_slacking_53 hJ82 zs_395 (by omega) (by omega) zu_395 (zbot _) (ztop _) (zIR_a (by omega) (by omega)) ?_
                intro M96 hJ97 f98 hn99
                refine w_en dX9_slacking_54 rfl ?_
                exact ⟨_, rfl, hJ97, trivial⟩
    · skip
      refine w_ile_t dX9_number_4 (t := 9) rfl (by omega) ?_
      refine w_lo dX9_number_9 rfl rfl rfl rfl ?_
      refine w_gfi dX9_number_10 rfl hJ7.1 zs_386 (Nat.le_of_ble_eq_true rfl) zo_386_3 ?_
      intro x100 f101 h102 h103
      refine w_ic dX9_number_13 zi_2 ?_
      rcases Int.decEq x100.toInt (2 : Int) with h104 | h104
      · skip
        refine w_ceq_f dX9_number_14 (t := 26) rfl (by have := zt_2; omega) ?_
        refine w_lo dX9_number_17 rfl rfl rfl rfl ?_
        refine w_ic dX9_number_18 zi_1 ?_
        refine w_lo dX9_number_19 rfl rfl rfl rfl ?_
        refine w_gfi dX9_number_20 rfl hJ7.1 zs_386 (Nat.le_of_ble_eq_true rfl) zo_386_4 ?_
        intro x105 f106 h107 h108
        refine w_iv dX9_number_23 rfl rfl (As := [.int 1, .int x105]) rfl rfl hJ7.1.1 zs_386 (Nat.le_of_ble_eq_true rfl) ?_
        refine ZV.of (ini := false) rfl (Nat.le_of_ble_eq_true rfl) (by decide +kernel) ?_
        show ZW _ _ _ _ _ _ _ (0, [some (.ref 386), some (.int 1), some (.int x105)], [], M1)
        refine w_lo dX9_blame_0 rfl rfl rfl rfl ?_
        refine w_gf dX9_blame_1 rfl hJ7.1.1 zs_386 f10 ?_
        refine w_ile_t dX9_blame_4 (t := 8) rfl (by omega) ?_
        refine w_lo dX9_blame_8 rfl rfl rfl rfl ?_
        refine w_lo dX9_blame_9 rfl rfl rfl rfl ?_
        refine w_pfi dX9_blame_10 rfl hJ7 zs_386 (Nat.le_of_ble_eq_true rfl) zo_386_8 (by have := zt_1; omega) (by have := zt_1; omega) (zIR_s (zIR_s (zIR_s (zIR_s (zIR_s (zIR_s (zIR_k (by omega) (by omega)))))))) rfl rfl rfl ?_
        intro M109 hJ110 f111 hn112
        refine w_lo dX9_blame_13 rfl rfl rfl rfl ?_
        refine w_lo dX9_blame_14 rfl rfl rfl rfl ?_
        refine w_pfi dX9_blame_15 rfl hJ110 zs_386 (Nat.le_of_ble_eq_true rfl) zo_386_9 (by omega) (by omega) (zIR_s (zIR_s (zIR_s (zIR_s (zIR_s (zIR_s (zIR_s (zIR_k (by omega) (by omega))))))))) rfl rfl rfl ?_
        intro M113 hJ114 f115 hn116
        refine w_en dX9_blame_18 rfl ?_
        show ZW _ _ _ _ _ _ _ (26, [some (.ref 386), some (.int 0), some (.int 99), none], [], M113)
        refine w_lo dX9_number_26 rfl rfl rfl rfl ?_
        have f117 := (hn116 (386) 8 (Or.inr (by decide))).trans (f111)
        refine w_gf dX9_number_27 rfl hJ114.1.1 zs_386 f117 ?_
        refine w_ine_t dX9_number_30 (t := 54) rfl (by have := zt_1; omega) ?_
        refine w_lo dX9_number_54 rfl rfl rfl rfl ?_
        refine w_gfi dX9_number_55 rfl hJ114.1 zs_386 (Nat.le_of_ble_eq_true rfl) zo_386_6 ?_
        intro x118 f119 h120 h121
        refine w_lo (ml' := [some (.ref 386), some (.int 0), some (.int 99), some (.int x118)]) dX9_number_58 rfl rfl rfl rfl ?_
        refine w_lo dX9_number_59 rfl rfl rfl rfl ?_
        refine w_gf dX9_number_60 rfl hJ114.1.1 zs_386 f117 ?_
        refine w_ine_t dX9_number_63 (t := 70) rfl (by have := zt_1; omega) ?_
        refine w_lo dX9_number_70 rfl rfl rfl rfl ?_
        refine w_eni dX9_number_71 rfl rfl ?_
        show ZW _ _ _ _ _ _ _ (16, [some (.ref 386), none, none], [.int x118], M113)
        refine w_lo (ml' := [some (.ref 386), some (.int x118), none]) dX9_slacking_16 rfl rfl rfl rfl ?_
        refine w_lo dX9_slacking_17 rfl rfl rfl rfl ?_
        refine w_me (st' := [.long (24948 : Int64), .ref 386]) dX9_slacking_18 rfl rfl rfl rfl rfl ?_
        refine w_iv dX9_slacking_21 rfl rfl (As := [.long (24948 : Int64)]) rfl rfl hJ114.1.1 zs_386 (Nat.le_of_ble_eq_true rfl) ?_
        refine ZV.imp (k_2321 hN hJ114.1) ?_
        rintro _ ⟨M122, rfl, hJ123, hq124⟩
        have hJ125 := zJ_trans hJ114 hJ123 (zSub_cons (fun _ _ h h' hk => zIR_s (zIR_e (by omega) (by omega) hk)) (zSub_cons (fun _ _ h h' hk => zIR_s (zIR_s (zIR_e (by omega) (by omega) hk))) (zSub_cons (fun _ _ h h' hk => zIR_s (zIR_s (zIR_s (zIR_e (by omega) (by omega) hk)))) (zSub_cons (fun _ _ h h' hk => zIR_s (zIR_s (zIR_s (zIR_s (zIR_e (by omega) (by omega) hk))))) (zSub_cons (fun _ _ h h' hk => zIR_s (zIR_s (zIR_s (zIR_s (zIR_s (zIR_e (by omega) (by omega) hk)))))) (zSub_cons (fun _ _ h h' hk => zIR_s (zIR_s (zIR_s (zIR_s (zIR_s (zIR_s (zIR_e (by omega) (by omega) hk))))))) (zSub_cons (fun _ _ h h' hk => zIR_s (zIR_s (zIR_s (zIR_s (zIR_s (zIR_s (zIR_s (zIR_e (by omega) (by omega) hk)))))))) zSub_nil)))))))
        show ZW _ _ _ _ _ _ _ (24, [some (.ref 386), some (.int x118), none], [], M122)
        refine w_lo dX9_slacking_24 rfl rfl rfl rfl ?_
        refine w_ic dX9_slacking_25 zi_0 ?_
        refine w_bi dX9_slacking_26 (c := 10) (by decide) ?_
        refine w_iv dX9_slacking_28 rfl rfl (As := [.int 0, .int 10]) rfl rfl hJ125.1.1 zs_386 (Nat.le_of_ble_eq_true rfl) ?_
        refine ZV.of (ini := false) rfl (Nat.le_of_ble_eq_true rfl) (by decide +kernel) ?_
        show ZW _ _ _ _ _ _ _ (0, [some (.ref 386), some (.int 0), some (.int 10), none], [], M122)
        refine w_lo dX9_number_0 rfl rfl rfl rfl ?_
        refine w_gfi dX9_number_1 rfl hJ125.1 zs_386 (Nat.le_of_ble_eq_true rfl) zo_386_8 ?_
        intro x126 f127 h128 h129
        rcases zcut (0 : Int) x126.toInt with h130 | h130
        · skip
          refine w_ile_f dX9_number_4 (t := 9) rfl (by omega) ?_
          refine w_ic dX9_number_7 zi_0 ?_
          refine w_en dX9_number_8 rfl ?_
          show ZW _ _ _ _ _ _ _ (31, [some (.ref 386), some (.int x118), none], [.int 0], M122)
          refine w_lo (ml' := [some (.ref 386), some (.int x118), some (.int 0)]) dX9_slacking_31 rfl rfl rfl rfl ?_
          refine w_lo dX9_slacking_32 rfl rfl rfl rfl ?_
          refine w_gf dX9_slacking_33 rfl hJ125.1.1 zs_386 f127 ?_
          refine w_ine_t dX9_slacking_36 (t := 54) rfl (by omega) ?_
          refine w_en dX9_slacking_54 rfl ?_
          exact ⟨_, rfl, hJ125, trivial⟩
        · skip
          refine w_ile_t dX9_number_4 (t := 9) rfl (by omega) ?_
          refine w_lo dX9_number_9 rfl rfl rfl rfl ?_
          refine w_gfi dX9_number_10 rfl hJ125.1 zs_386 (Nat.le_of_ble_eq_true rfl) zo_386_3 ?_
          intro x131 f132 h133 h134
          refine w_ic dX9_number_13 zi_2 ?_
          rcases Int.decEq x131.toInt (2 : Int) with h135 | h135
          · skip
            refine w_ceq_f dX9_number_14 (t := 26) rfl (by have := zt_2; omega) ?_
            refine w_lo dX9_number_17 rfl rfl rfl rfl ?_
            refine w_ic dX9_number_18 zi_1 ?_
            refine w_lo dX9_number_19 rfl rfl rfl rfl ?_
            refine w_gfi dX9_number_20 rfl hJ125.1 zs_386 (Nat.le_of_ble_eq_true rfl) zo_386_4 ?_
            intro x136 f137 h138 h139
            refine w_iv dX9_number_23 rfl rfl (As := [.int 1, .int x136]) rfl rfl hJ125.1.1 zs_386 (Nat.le_of_ble_eq_true rfl) ?_
            refine ZV.of (ini := false) rfl (Nat.le_of_ble_eq_true rfl) (by decide +kernel) ?_
            show ZW _ _ _ _ _ _ _ (0, [some (.ref 386), some (.int 1), some (.int x136)], [], M122)
            refine w_lo dX9_blame_0 rfl rfl rfl rfl ?_
            refine w_gf dX9_blame_1 rfl hJ125.1.1 zs_386 f127 ?_
            refine w_ile_t dX9_blame_4 (t := 8) rfl (by omega) ?_
            refine w_lo dX9_blame_8 rfl rfl rfl rfl ?_
            refine w_lo dX9_blame_9 rfl rfl rfl rfl ?_
            refine w_pfi dX9_blame_10 rfl hJ125 zs_386 (Nat.le_of_ble_eq_true rfl) zo_386_8 (by have := zt_1; omega) (by have := zt_1; omega) (zIR_s (zIR_s (zIR_s (zIR_s (zIR_s (zIR_s (zIR_k (by omega) (by omega)))))))) rfl rfl rfl ?_
            intro M140 hJ141 f142 hn143
            refine w_lo dX9_blame_13 rfl rfl rfl rfl ?_
            refine w_lo dX9_blame_14 rfl rfl rfl rfl ?_
            refine w_pfi dX9_blame_15 rfl hJ141 zs_386 (Nat.le_of_ble_eq_true rfl) zo_386_9 (by omega) (by omega) (zIR_s (zIR_s (zIR_s (zIR_s (zIR_s (zIR_s (zIR_s (zIR_k (by omega) (by omega))))))))) rfl rfl rfl ?_
            intro M144 hJ145 f146 hn147
            refine w_en dX9_blame_18 rfl ?_
            show ZW _ _ _ _ _ _ _ (26, [some (.ref 386), some (.int 0), some (.int 10), none], [], M144)
            refine w_lo dX9_number_26 rfl rfl rfl rfl ?_
            have f148 := (hn147 (386) 8 (Or.inr (by decide))).trans (f142)
            refine w_gf dX9_number_27 rfl hJ145.1.1 zs_386 f148 ?_
            refine w_ine_t dX9_number_30 (t := 54) rfl (by have := zt_1; omega) ?_
            refine w_lo dX9_number_54 rfl rfl rfl rfl ?_
            refine w_gfi dX9_number_55 rfl hJ145.1 zs_386 (Nat.le_of_ble_eq_true rfl) zo_386_6 ?_
            intro x149 f150 h151 h152
            refine w_lo (ml' := [some (.ref 386), some (.int 0), some (.int 10), some (.int x149)]) dX9_number_58 rfl rfl rfl rfl ?_
            refine w_lo dX9_number_59 rfl rfl rfl rfl ?_
            refine w_gf dX9_number_60 rfl hJ145.1.1 zs_386 f148 ?_
            refine w_ine_t dX9_number_63 (t := 70) rfl (by have := zt_1; omega) ?_
            refine w_lo dX9_number_70 rfl rfl rfl rfl ?_
            refine w_eni dX9_number_71 rfl rfl ?_
            show ZW _ _ _ _ _ _ _ (31, [some (.ref 386), some (.int x118), none], [.int x149], M144)
            refine w_lo (ml' := [some (.ref 386), some (.int x118), some (.int x149)]) dX9_slacking_31 rfl rfl rfl rfl ?_
            refine w_lo dX9_slacking_32 rfl rfl rfl rfl ?_
            refine w_gf dX9_slacking_33 rfl hJ145.1.1 zs_386 f148 ?_
            refine w_ine_t dX9_slacking_36 (t := 54) rfl (by have := zt_1; omega) ?_
            refine w_en dX9_slacking_54 rfl ?_
            exact ⟨_, rfl, hJ145, trivial⟩
          · skip
            refine w_ceq_t dX9_number_14 (t := 26) rfl (by have := zt_2; omega) ?_
            refine w_lo dX9_number_26 rfl rfl rfl rfl ?_
            refine w_gf dX9_number_27 rfl hJ125.1.1 zs_386 f127 ?_
            refine w_ine_f dX9_number_30 (t := 54) rfl (by omega) ?_
            refine w_lo dX9_number_33 rfl rfl rfl rfl ?_
            refine w_gfi dX9_number_34 rfl hJ125.1 zs_386 (Nat.le_of_ble_eq_true rfl) zo_386_6 ?_
            intro x153 f154 h155 h156
            refine w_lo dX9_number_37 rfl rfl rfl rfl ?_
            refine w_lo dX9_number_38 rfl rfl rfl rfl ?_
            refine w_ss dX9_number_39 rfl rfl (As := [.int x153, .int 0, .int 10]) rfl rfl (Nat.le_of_ble_eq_true rfl) ?_
            refine ZV.of (ini := false) rfl (Nat.le_of_ble_eq_true rfl) (by decide +kernel) ?_
            show ZW _ _ _ _ _ _ _ (0, [some (.int x153), some (.int 0), some (.int 10)], [], M122)
            refine w_lo dX9_is_0 rfl rfl rfl rfl ?_
            refine w_lo dX9_is_1 rfl rfl rfl rfl ?_
            rcases zcut x153.toInt (0 : Int) with h157 | h157
            · skip
              refine w_clt_t dX9_is_2 (t := 14) rfl (by have := zt_0; omega) ?_
              refine w_ic dX9_is_14 zi_0 ?_
              refine w_en dX9_is_15 rfl ?_
              show ZW _ _ _ _ _ _ _ (42, [some (.ref 386), some (.int 0), some (.int 10), none], [.int 0], M122)
              refine w_ine_f dX9_number_42 (t := 54) rfl (by have := zt_0; omega) ?_
              refine w_lo dX9_number_45 rfl rfl rfl rfl ?_
              refine w_ic dX9_number_46 zi_4 ?_
              refine w_lo dX9_number_47 rfl rfl rfl rfl ?_
              refine w_gfi dX9_number_48 rfl hJ125.1 zs_386 (Nat.le_of_ble_eq_true rfl) zo_386_4 ?_
              intro x158 f159 h160 h161
              refine w_iv dX9_number_51 rfl rfl (As := [.int 4, .int x158]) rfl rfl hJ125.1.1 zs_386 (Nat.le_of_ble_eq_true rfl) ?_
              refine ZV.of (ini := false) rfl (Nat.le_of_ble_eq_true rfl) (by decide +kernel) ?_
              show ZW _ _ _ _ _ _ _ (0, [some (.ref 386), some (.int 4), some (.int x158)], [], M122)
              refine w_lo dX9_blame_0 rfl rfl rfl rfl ?_
              refine w_gf dX9_blame_1 rfl hJ125.1.1 zs_386 f127 ?_
              refine w_ile_t dX9_blame_4 (t := 8) rfl (by omega) ?_
              refine w_lo dX9_blame_8 rfl rfl rfl rfl ?_
              refine w_lo dX9_blame_9 rfl rfl rfl rfl ?_
              refine w_pfi dX9_blame_10 rfl hJ125 zs_386 (Nat.le_of_ble_eq_true rfl) zo_386_8 (by have := zt_4; omega) (by have := zt_4; omega) (zIR_s (zIR_s (zIR_s (zIR_s (zIR_s (zIR_s (zIR_k (by omega) (by omega)))))))) rfl rfl rfl ?_
              intro M162 hJ163 f164 hn165
              refine w_lo dX9_blame_13 rfl rfl rfl rfl ?_
              refine w_lo dX9_blame_14 rfl rfl rfl rfl ?_
              refine w_pfi dX9_blame_15 rfl hJ163 zs_386 (Nat.le_of_ble_eq_true rfl) zo_386_9 (by omega) (by omega) (zIR_s (zIR_s (zIR_s (zIR_s (zIR_s (zIR_s (zIR_s (zIR_k (by omega) (by omega))))))))) rfl rfl rfl ?_
              intro M166 hJ167 f168 hn169
              refine w_en dX9_blame_18 rfl ?_
              show ZW _ _ _ _ _ _ _ (54, [some (.ref 386), some (.int 0), some (.int 10), none], [], M166)
              refine w_lo dX9_number_54 rfl rfl rfl rfl ?_
              have f170 := (hn169 (386) 6 (Or.inr (by decide))).trans ((hn165 (386) 6 (Or.inr (by decide))).trans (f154))
              refine w_gf dX9_number_55 rfl hJ167.1.1 zs_386 f170 ?_
              refine w_lo (ml' := [some (.ref 386), some (.int 0), some (.int 10), some (.int x153)]) dX9_number_58 rfl rfl rfl rfl ?_
              refine w_lo dX9_number_59 rfl rfl rfl rfl ?_
              have f171 := (hn169 (386) 8 (Or.inr (by decide))).trans (f164)
              refine w_gf dX9_number_60 rfl hJ167.1.1 zs_386 f171 ?_
              refine w_ine_t dX9_number_63 (t := 70) rfl (by have := zt_4; omega) ?_
              refine w_lo dX9_number_70 rfl rfl rfl rfl ?_
              refine w_eni dX9_number_71 rfl rfl ?_
              show ZW _ _ _ _ _ _ _ (31, [some (.ref 386), some (.int x118), none], [.int x153], M166)
              refine w_lo (ml' := [some (.ref 386), some (.int x118), some (.int x153)]) dX9_slacking_31 rfl rfl rfl rfl ?_
              refine w_lo dX9_slacking_32 rfl rfl rfl rfl ?_
              refine w_gf dX9_slacking_33 rfl hJ167.1.1 zs_386 f171 ?_
              refine w_ine_t dX9_slacking_36 (t := 54) rfl (by have := zt_4; omega) ?_
              refine w_en dX9_slacking_54 rfl ?_
              exact ⟨_, rfl, hJ167, trivial⟩
            · skip
              refine w_clt_f dX9_is_2 (t := 14) rfl (by have := zt_0; omega) ?_
              refine w_lo dX9_is_5 rfl rfl rfl rfl ?_
              refine w_lo dX9_is_6 rfl rfl rfl rfl ?_
              rcases zcut (10 : Int) x153.toInt with h172 | h172
              · skip
                refine w_cgt_t dX9_is_7 (t := 14) rfl (by have := zt_10; omega) ?_
                refine w_ic dX9_is_14 zi_0 ?_
                refine w_en dX9_is_15 rfl ?_
                show ZW _ _ _ _ _ _ _ (42, [some (.ref 386), some (.int 0), some (.int 10), none], [.int 0], M122)
                refine w_ine_f dX9_number_42 (t := 54) rfl (by have := zt_0; omega) ?_
                refine w_lo dX9_number_45 rfl rfl rfl rfl ?_
                refine w_ic dX9_number_46 zi_4 ?_
                refine w_lo dX9_number_47 rfl rfl rfl rfl ?_
                refine w_gfi dX9_number_48 rfl hJ125.1 zs_386 (Nat.le_of_ble_eq_true rfl) zo_386_4 ?_
                intro x173 f174 h175 h176
                refine w_iv dX9_number_51 rfl rfl (As := [.int 4, .int x173]) rfl rfl hJ125.1.1 zs_386 (Nat.le_of_ble_eq_true rfl) ?_
                refine ZV.of (ini := false) rfl (Nat.le_of_ble_eq_true rfl) (by decide +kernel) ?_
                show ZW _ _ _ _ _ _ _ (0, [some (.ref 386), some (.int 4), some (.int x173)], [], M122)
                refine w_lo dX9_blame_0 rfl rfl rfl rfl ?_
                refine w_gf dX9_blame_1 rfl hJ125.1.1 zs_386 f127 ?_
                refine w_ile_t dX9_blame_4 (t := 8) rfl (by omega) ?_
                refine w_lo dX9_blame_8 rfl rfl rfl rfl ?_
                refine w_lo dX9_blame_9 rfl rfl rfl rfl ?_
                refine w_pfi dX9_blame_10 rfl hJ125 zs_386 (Nat.le_of_ble_eq_true rfl) zo_386_8 (by have := zt_4; omega) (by have := zt_4; omega) (zIR_s (zIR_s (zIR_s (zIR_s (zIR_s (zIR_s (zIR_k (by omega) (by omega)))))))) rfl rfl rfl ?_
                intro M177 hJ178 f179 hn180
                refine w_lo dX9_blame_13 rfl rfl rfl rfl ?_
                refine w_lo dX9_blame_14 rfl rfl rfl rfl ?_
                refine w_pfi dX9_blame_15 rfl hJ178 zs_386 (Nat.le_of_ble_eq_true rfl) zo_386_9 (by omega) (by omega) (zIR_s (zIR_s (zIR_s (zIR_s (zIR_s (zIR_s (zIR_s (zIR_k (by omega) (by omega))))))))) rfl rfl rfl ?_
                intro M181 hJ182 f183 hn184
                refine w_en dX9_blame_18 rfl ?_
                show ZW _ _ _ _ _ _ _ (54, [some (.ref 386), some (.int 0), some (.int 10), none], [], M181)
                refine w_lo dX9_number_54 rfl rfl rfl rfl ?_
                have f185 := (hn184 (386) 6 (Or.inr (by decide))).trans ((hn180 (386) 6 (Or.inr (by decide))).trans (f154))
                refine w_gf dX9_number_55 rfl hJ182.1.1 zs_386 f185 ?_
                refine w_lo (ml' := [some (.ref 386), some (.int 0), some (.int 10), some (.int x153)]) dX9_number_58 rfl rfl rfl rfl ?_
                refine w_lo dX9_number_59 rfl rfl rfl rfl ?_
                have f186 := (hn184 (386) 8 (Or.inr (by decide))).trans (f179)
                refine w_gf dX9_number_60 rfl hJ182.1.1 zs_386 f186 ?_
                refine w_ine_t dX9_number_63 (t := 70) rfl (by have := zt_4; omega) ?_
                refine w_lo dX9_number_70 rfl rfl rfl rfl ?_
                refine w_eni dX9_number_71 rfl rfl ?_
                show ZW _ _ _ _ _ _ _ (31, [some (.ref 386), some (.int x118), none], [.int x153], M181)
                refine w_lo (ml' := [some (.ref 386), some (.int x118), some (.int x153)]) dX9_slacking_31 rfl rfl rfl rfl ?_
                refine w_lo dX9_slacking_32 rfl rfl rfl rfl ?_
                refine w_gf dX9_slacking_33 rfl hJ182.1.1 zs_386 f186 ?_
                refine w_ine_t dX9_slacking_36 (t := 54) rfl (by have := zt_4; omega) ?_
                refine w_en dX9_slacking_54 rfl ?_
                exact ⟨_, rfl, hJ182, trivial⟩
              · skip
                refine w_cgt_f dX9_is_7 (t := 14) rfl (by have := zt_10; omega) ?_
                refine w_ic dX9_is_10 zi_1 ?_
                refine w_gt dX9_is_11 (t := 15) rfl ?_
                refine w_en dX9_is_15 rfl ?_
                show ZW _ _ _ _ _ _ _ (42, [some (.ref 386), some (.int 0), some (.int 10), none], [.int 1], M122)
                refine w_ine_t dX9_number_42 (t := 54) rfl (by have := zt_1; omega) ?_
                refine w_lo dX9_number_54 rfl rfl rfl rfl ?_
                refine w_gf dX9_number_55 rfl hJ125.1.1 zs_386 f154 ?_
                refine w_lo (ml' := [some (.ref 386), some (.int 0), some (.int 10), some (.int x153)]) dX9_number_58 rfl rfl rfl rfl ?_
                refine w_lo dX9_number_59 rfl rfl rfl rfl ?_
                refine w_gf dX9_number_60 rfl hJ125.1.1 zs_386 f127 ?_
                refine w_ine_f dX9_number_63 (t := 70) rfl (by omega) ?_
                refine w_lo dX9_number_66 rfl rfl rfl rfl ?_
                refine w_iv dX9_number_67 rfl rfl (As := []) rfl rfl hJ125.1.1 zs_386 (Nat.le_of_ble_eq_true rfl) ?_
                refine ZV.imp (k_2310 hN hJ125.1) ?_
                rintro _ ⟨M187, rfl, hJ188, hq189⟩
                have hJ190 := zJ_trans hJ125 hJ188 (zSub_cons (fun _ _ h h' hk => zIR_s (zIR_e (by omega) (by omega) hk)) (zSub_cons (fun _ _ h h' hk => zIR_s (zIR_s (zIR_e (by omega) (by omega) hk))) (zSub_cons (fun _ _ h h' hk => zIR_s (zIR_s (zIR_s (zIR_e (by omega) (by omega) hk)))) (zSub_cons (fun _ _ h h' hk => zIR_s (zIR_s (zIR_s (zIR_s (zIR_e (by omega) (by omega) hk))))) (zSub_cons (fun _ _ h h' hk => zIR_s (zIR_s (zIR_s (zIR_s (zIR_s (zIR_e (by omega) (by omega) hk)))))) (zSub_cons (fun _ _ h h' hk => zIR_s (zIR_s (zIR_s (zIR_s (zIR_s (zIR_s (zIR_e (by omega) (by omega) hk))))))) (zSub_cons (fun _ _ h h' hk => zIR_s (zIR_s (zIR_s (zIR_s (zIR_s (zIR_s (zIR_s (zIR_e (by omega) (by omega) hk)))))))) zSub_nil)))))))
                show ZW _ _ _ _ _ _ _ (70, [some (.ref 386), some (.int 0), some (.int 10), some (.int x153)], [], M187)
                refine w_lo dX9_number_70 rfl rfl rfl rfl ?_
                refine w_eni dX9_number_71 rfl rfl ?_
                show ZW _ _ _ _ _ _ _ (31, [some (.ref 386), some (.int x118), none], [.int x153], M187)
                refine w_lo (ml' := [some (.ref 386), some (.int x118), some (.int x153)]) dX9_slacking_31 rfl rfl rfl rfl ?_
                refine w_lo dX9_slacking_32 rfl rfl rfl rfl ?_
                refine w_gfi dX9_slacking_33 rfl hJ190.1 zs_386 (Nat.le_of_ble_eq_true rfl) zo_386_8 ?_
                intro x191 f192 h193 h194
                rcases Int.decEq x191.toInt (0 : Int) with h195 | h195
                · skip
                  refine w_ine_t dX9_slacking_36 (t := 54) rfl (by omega) ?_
                  refine w_en dX9_slacking_54 rfl ?_
                  exact ⟨_, rfl, hJ190, trivial⟩
                · skip
                  refine w_ine_f dX9_slacking_36 (t := 54) rfl (by omega) ?_
                  refine w_lo dX9_slacking_39 rfl rfl rfl rfl ?_
                  refine w_gf dX9_slacking_40 rfl hJ190.1.1 zs_386 (zr_386_20 hJ190.1) ?_
                  refine w_bi dX9_slacking_43 (c := 11) (by decide) ?_
                  refine w_lo dX9_slacking_45 rfl rfl rfl rfl ?_
                  refine w_gfi dX9_slacking_46 rfl hJ190.1 zs_386 (Nat.le_of_ble_eq_true rfl) zo_386_35 ?_
                  intro x196 f197 h198 h199
                  refine w_mulc dX9_slacking_49 zt_11 (by have := zt_11; omega) ?_
                  intro x200 h201
                  have := zt_11
                  refine w_lo dX9_slacking_50 rfl rfl rfl rfl ?_
                  refine w_add dX9_slacking_51 (by omega) ?_
                  intro x202 h203
                  refine w_lo dX9_slacking_52 rfl rfl rfl rfl ?_
                  refine w_isi dX9_slacking_53 hJ190 zs_395 (by omega) (by omega) zu_395 (zbot _) (ztop _) (zIR_a (by omega) (by omega)) ?_
                  intro M204 hJ205 f206 hn207
                  refine w_en dX9_slacking_54 rfl ?_
                  exact ⟨_, rfl, hJ205, trivial⟩
      · skip
        refine w_ceq_t dX9_number_14 (t := 26) rfl (by have := zt_2; omega) ?_
        refine w_lo dX9_number_26 rfl rfl rfl rfl ?_
        refine w_gf dX9_number_27 rfl hJ7.1.1 zs_386 f10 ?_
        refine w_ine_f dX9_number_30 (t := 54) rfl (by omega) ?_
        refine w_lo dX9_number_33 rfl rfl rfl rfl ?_
        refine w_gfi dX9_number_34 rfl hJ7.1 zs_386 (Nat.le_of_ble_eq_true rfl) zo_386_6 ?_
        intro x208 f209 h210 h211
        refine w_lo dX9_number_37 rfl rfl rfl rfl ?_
        refine w_lo dX9_number_38 rfl rfl rfl rfl ?_
        refine w_ss dX9_number_39 rfl rfl (As := [.int x208, .int 0, .int 99]) rfl rfl (Nat.le_of_ble_eq_true rfl) ?_
        refine ZV.of (ini := false) rfl (Nat.le_of_ble_eq_true rfl) (by decide +kernel) ?_
        show ZW _ _ _ _ _ _ _ (0, [some (.int x208), some (.int 0), some (.int 99)], [], M1)
        refine w_lo dX9_is_0 rfl rfl rfl rfl ?_
        refine w_lo dX9_is_1 rfl rfl rfl rfl ?_
        rcases zcut x208.toInt (0 : Int) with h212 | h212
        · skip
          refine w_clt_t dX9_is_2 (t := 14) rfl (by have := zt_0; omega) ?_
          refine w_ic dX9_is_14 zi_0 ?_
          refine w_en dX9_is_15 rfl ?_
          show ZW _ _ _ _ _ _ _ (42, [some (.ref 386), some (.int 0), some (.int 99), none], [.int 0], M1)
          refine w_ine_f dX9_number_42 (t := 54) rfl (by have := zt_0; omega) ?_
          refine w_lo dX9_number_45 rfl rfl rfl rfl ?_
          refine w_ic dX9_number_46 zi_4 ?_
          refine w_lo dX9_number_47 rfl rfl rfl rfl ?_
          refine w_gfi dX9_number_48 rfl hJ7.1 zs_386 (Nat.le_of_ble_eq_true rfl) zo_386_4 ?_
          intro x213 f214 h215 h216
          refine w_iv dX9_number_51 rfl rfl (As := [.int 4, .int x213]) rfl rfl hJ7.1.1 zs_386 (Nat.le_of_ble_eq_true rfl) ?_
          refine ZV.of (ini := false) rfl (Nat.le_of_ble_eq_true rfl) (by decide +kernel) ?_
          show ZW _ _ _ _ _ _ _ (0, [some (.ref 386), some (.int 4), some (.int x213)], [], M1)
          refine w_lo dX9_blame_0 rfl rfl rfl rfl ?_
          refine w_gf dX9_blame_1 rfl hJ7.1.1 zs_386 f10 ?_
          refine w_ile_t dX9_blame_4 (t := 8) rfl (by omega) ?_
          refine w_lo dX9_blame_8 rfl rfl rfl rfl ?_
          refine w_lo dX9_blame_9 rfl rfl rfl rfl ?_
          refine w_pfi dX9_blame_10 rfl hJ7 zs_386 (Nat.le_of_ble_eq_true rfl) zo_386_8 (by have := zt_4; omega) (by have := zt_4; omega) (zIR_s (zIR_s (zIR_s (zIR_s (zIR_s (zIR_s (zIR_k (by omega) (by omega)))))))) rfl rfl rfl ?_
          intro M217 hJ218 f219 hn220
          refine w_lo dX9_blame_13 rfl rfl rfl rfl ?_
          refine w_lo dX9_blame_14 rfl rfl rfl rfl ?_
          refine w_pfi dX9_blame_15 rfl hJ218 zs_386 (Nat.le_of_ble_eq_true rfl) zo_386_9 (by omega) (by omega) (zIR_s (zIR_s (zIR_s (zIR_s (zIR_s (zIR_s (zIR_s (zIR_k (by omega) (by omega))))))))) rfl rfl rfl ?_
          intro M221 hJ222 f223 hn224
          refine w_en dX9_blame_18 rfl ?_
          show ZW _ _ _ _ _ _ _ (54, [some (.ref 386), some (.int 0), some (.int 99), none], [], M221)
          refine w_lo dX9_number_54 rfl rfl rfl rfl ?_
          have f225 := (hn224 (386) 6 (Or.inr (by decide))).trans ((hn220 (386) 6 (Or.inr (by decide))).trans (f209))
          refine w_gf dX9_number_55 rfl hJ222.1.1 zs_386 f225 ?_
          refine w_lo (ml' := [some (.ref 386), some (.int 0), some (.int 99), some (.int x208)]) dX9_number_58 rfl rfl rfl rfl ?_
          refine w_lo dX9_number_59 rfl rfl rfl rfl ?_
          have f226 := (hn224 (386) 8 (Or.inr (by decide))).trans (f219)
          refine w_gf dX9_number_60 rfl hJ222.1.1 zs_386 f226 ?_
          refine w_ine_t dX9_number_63 (t := 70) rfl (by have := zt_4; omega) ?_
          refine w_lo dX9_number_70 rfl rfl rfl rfl ?_
          refine w_eni dX9_number_71 rfl rfl ?_
          show ZW _ _ _ _ _ _ _ (16, [some (.ref 386), none, none], [.int x208], M221)
          refine w_lo (ml' := [some (.ref 386), some (.int x208), none]) dX9_slacking_16 rfl rfl rfl rfl ?_
          refine w_lo dX9_slacking_17 rfl rfl rfl rfl ?_
          refine w_me (st' := [.long (24948 : Int64), .ref 386]) dX9_slacking_18 rfl rfl rfl rfl rfl ?_
          refine w_iv dX9_slacking_21 rfl rfl (As := [.long (24948 : Int64)]) rfl rfl hJ222.1.1 zs_386 (Nat.le_of_ble_eq_true rfl) ?_
          refine ZV.imp (k_2321 hN hJ222.1) ?_
          rintro _ ⟨M227, rfl, hJ228, hq229⟩
          have hJ230 := zJ_trans hJ222 hJ228 (zSub_cons (fun _ _ h h' hk => zIR_s (zIR_e (by omega) (by omega) hk)) (zSub_cons (fun _ _ h h' hk => zIR_s (zIR_s (zIR_e (by omega) (by omega) hk))) (zSub_cons (fun _ _ h h' hk => zIR_s (zIR_s (zIR_s (zIR_e (by omega) (by omega) hk)))) (zSub_cons (fun _ _ h h' hk => zIR_s (zIR_s (zIR_s (zIR_s (zIR_e (by omega) (by omega) hk))))) (zSub_cons (fun _ _ h h' hk => zIR_s (zIR_s (zIR_s (zIR_s (zIR_s (zIR_e (by omega) (by omega) hk)))))) (zSub_cons (fun _ _ h h' hk => zIR_s (zIR_s (zIR_s (zIR_s (zIR_s (zIR_s (zIR_e (by omega) (by omega) hk))))))) (zSub_cons (fun _ _ h h' hk => zIR_s (zIR_s (zIR_s (zIR_s (zIR_s (zIR_s (zIR_s (zIR_e (by omega) (by omega) hk)))))))) zSub_nil)))))))
          show ZW _ _ _ _ _ _ _ (24, [some (.ref 386), some (.int x208), none], [], M227)
          refine w_lo dX9_slacking_24 rfl rfl rfl rfl ?_
          refine w_ic dX9_slacking_25 zi_0 ?_
          refine w_bi dX9_slacking_26 (c := 10) (by decide) ?_
          refine w_iv dX9_slacking_28 rfl rfl (As := [.int 0, .int 10]) rfl rfl hJ230.1.1 zs_386 (Nat.le_of_ble_eq_true rfl) ?_
          refine ZV.of (ini := false) rfl (Nat.le_of_ble_eq_true rfl) (by decide +kernel) ?_
          show ZW _ _ _ _ _ _ _ (0, [some (.ref 386), some (.int 0), some (.int 10), none], [], M227)
          refine w_lo dX9_number_0 rfl rfl rfl rfl ?_
          refine w_gfi dX9_number_1 rfl hJ230.1 zs_386 (Nat.le_of_ble_eq_true rfl) zo_386_8 ?_
          intro x231 f232 h233 h234
          rcases zcut (0 : Int) x231.toInt with h235 | h235
          · skip
            refine w_ile_f dX9_number_4 (t := 9) rfl (by omega) ?_
            refine w_ic dX9_number_7 zi_0 ?_
            refine w_en dX9_number_8 rfl ?_
            show ZW _ _ _ _ _ _ _ (31, [some (.ref 386), some (.int x208), none], [.int 0], M227)
            refine w_lo (ml' := [some (.ref 386), some (.int x208), some (.int 0)]) dX9_slacking_31 rfl rfl rfl rfl ?_
            refine w_lo dX9_slacking_32 rfl rfl rfl rfl ?_
            refine w_gf dX9_slacking_33 rfl hJ230.1.1 zs_386 f232 ?_
            refine w_ine_t dX9_slacking_36 (t := 54) rfl (by omega) ?_
            refine w_en dX9_slacking_54 rfl ?_
            exact ⟨_, rfl, hJ230, trivial⟩
          · skip
            refine w_ile_t dX9_number_4 (t := 9) rfl (by omega) ?_
            refine w_lo dX9_number_9 rfl rfl rfl rfl ?_
            refine w_gfi dX9_number_10 rfl hJ230.1 zs_386 (Nat.le_of_ble_eq_true rfl) zo_386_3 ?_
            intro x236 f237 h238 h239
            refine w_ic dX9_number_13 zi_2 ?_
            rcases Int.decEq x236.toInt (2 : Int) with h240 | h240
            · skip
              refine w_ceq_f dX9_number_14 (t := 26) rfl (by have := zt_2; omega) ?_
              refine w_lo dX9_number_17 rfl rfl rfl rfl ?_
              refine w_ic dX9_number_18 zi_1 ?_
              refine w_lo dX9_number_19 rfl rfl rfl rfl ?_
              refine w_gfi dX9_number_20 rfl hJ230.1 zs_386 (Nat.le_of_ble_eq_true rfl) zo_386_4 ?_
              intro x241 f242 h243 h244
              refine w_iv dX9_number_23 rfl rfl (As := [.int 1, .int x241]) rfl rfl hJ230.1.1 zs_386 (Nat.le_of_ble_eq_true rfl) ?_
              refine ZV.of (ini := false) rfl (Nat.le_of_ble_eq_true rfl) (by decide +kernel) ?_
              show ZW _ _ _ _ _ _ _ (0, [some (.ref 386), some (.int 1), some (.int x241)], [], M227)
              refine w_lo dX9_blame_0 rfl rfl rfl rfl ?_
              refine w_gf dX9_blame_1 rfl hJ230.1.1 zs_386 f232 ?_
              refine w_ile_t dX9_blame_4 (t := 8) rfl (by omega) ?_
              refine w_lo dX9_blame_8 rfl rfl rfl rfl ?_
              refine w_lo dX9_blame_9 rfl rfl rfl rfl ?_
              refine w_pfi dX9_blame_10 rfl hJ230 zs_386 (Nat.le_of_ble_eq_true rfl) zo_386_8 (by have := zt_1; omega) (by have := zt_1; omega) (zIR_s (zIR_s (zIR_s (zIR_s (zIR_s (zIR_s (zIR_k (by omega) (by omega)))))))) rfl rfl rfl ?_
              intro M245 hJ246 f247 hn248
              refine w_lo dX9_blame_13 rfl rfl rfl rfl ?_
              refine w_lo dX9_blame_14 rfl rfl rfl rfl ?_
              refine w_pfi dX9_blame_15 rfl hJ246 zs_386 (Nat.le_of_ble_eq_true rfl) zo_386_9 (by omega) (by omega) (zIR_s (zIR_s (zIR_s (zIR_s (zIR_s (zIR_s (zIR_s (zIR_k (by omega) (by omega))))))))) rfl rfl rfl ?_
              intro M249 hJ250 f251 hn252
              refine w_en dX9_blame_18 rfl ?_
              show ZW _ _ _ _ _ _ _ (26, [some (.ref 386), some (.int 0), some (.int 10), none], [], M249)
              refine w_lo dX9_number_26 rfl rfl rfl rfl ?_
              have f253 := (hn252 (386) 8 (Or.inr (by decide))).trans (f247)
              refine w_gf dX9_number_27 rfl hJ250.1.1 zs_386 f253 ?_
              refine w_ine_t dX9_number_30 (t := 54) rfl (by have := zt_1; omega) ?_
              refine w_lo dX9_number_54 rfl rfl rfl rfl ?_
              refine w_gfi dX9_number_55 rfl hJ250.1 zs_386 (Nat.le_of_ble_eq_true rfl) zo_386_6 ?_
              intro x254 f255 h256 h257
              refine w_lo (ml' := [some (.ref 386), some (.int 0), some (.int 10), some (.int x254)]) dX9_number_58 rfl rfl rfl rfl ?_
              refine w_lo dX9_number_59 rfl rfl rfl rfl ?_
              refine w_gf dX9_number_60 rfl hJ250.1.1 zs_386 f253 ?_
              refine w_ine_t dX9_number_63 (t := 70) rfl (by have := zt_1; omega) ?_
              refine w_lo dX9_number_70 rfl rfl rfl rfl ?_
              refine w_eni dX9_number_71 rfl rfl ?_
              show ZW _ _ _ _ _ _ _ (31, [some (.ref 386), some (.int x208), none], [.int x254], M249)
              refine w_lo (ml' := [some (.ref 386), some (.int x208), some (.int x254)]) dX9_slacking_31 rfl rfl rfl rfl ?_
              refine w_lo dX9_slacking_32 rfl rfl rfl rfl ?_
              refine w_gf dX9_slacking_33 rfl hJ250.1.1 zs_386 f253 ?_
              refine w_ine_t dX9_slacking_36 (t := 54) rfl (by have := zt_1; omega) ?_
              refine w_en dX9_slacking_54 rfl ?_
              exact ⟨_, rfl, hJ250, trivial⟩
            · skip
              refine w_ceq_t dX9_number_14 (t := 26) rfl (by have := zt_2; omega) ?_
              refine w_lo dX9_number_26 rfl rfl rfl rfl ?_
              refine w_gf dX9_number_27 rfl hJ230.1.1 zs_386 f232 ?_
              refine w_ine_f dX9_number_30 (t := 54) rfl (by omega) ?_
              refine w_lo dX9_number_33 rfl rfl rfl rfl ?_
              refine w_gfi dX9_number_34 rfl hJ230.1 zs_386 (Nat.le_of_ble_eq_true rfl) zo_386_6 ?_
              intro x258 f259 h260 h261
              refine w_lo dX9_number_37 rfl rfl rfl rfl ?_
              refine w_lo dX9_number_38 rfl rfl rfl rfl ?_
              refine w_ss dX9_number_39 rfl rfl (As := [.int x258, .int 0, .int 10]) rfl rfl (Nat.le_of_ble_eq_true rfl) ?_
              refine ZV.of (ini := false) rfl (Nat.le_of_ble_eq_true rfl) (by decide +kernel) ?_
              show ZW _ _ _ _ _ _ _ (0, [some (.int x258), some (.int 0), some (.int 10)], [], M227)
              refine w_lo dX9_is_0 rfl rfl rfl rfl ?_
              refine w_lo dX9_is_1 rfl rfl rfl rfl ?_
              rcases zcut x258.toInt (0 : Int) with h262 | h262
              · skip
                refine w_clt_t dX9_is_2 (t := 14) rfl (by have := zt_0; omega) ?_
                refine w_ic dX9_is_14 zi_0 ?_
                refine w_en dX9_is_15 rfl ?_
                show ZW _ _ _ _ _ _ _ (42, [some (.ref 386), some (.int 0), some (.int 10), none], [.int 0], M227)
                refine w_ine_f dX9_number_42 (t := 54) rfl (by have := zt_0; omega) ?_
                refine w_lo dX9_number_45 rfl rfl rfl rfl ?_
                refine w_ic dX9_number_46 zi_4 ?_
                refine w_lo dX9_number_47 rfl rfl rfl rfl ?_
                refine w_gfi dX9_number_48 rfl hJ230.1 zs_386 (Nat.le_of_ble_eq_true rfl) zo_386_4 ?_
                intro x263 f264 h265 h266
                refine w_iv dX9_number_51 rfl rfl (As := [.int 4, .int x263]) rfl rfl hJ230.1.1 zs_386 (Nat.le_of_ble_eq_true rfl) ?_
                refine ZV.of (ini := false) rfl (Nat.le_of_ble_eq_true rfl) (by decide +kernel) ?_
                show ZW _ _ _ _ _ _ _ (0, [some (.ref 386), some (.int 4), some (.int x263)], [], M227)
                refine w_lo dX9_blame_0 rfl rfl rfl rfl ?_
                refine w_gf dX9_blame_1 rfl hJ230.1.1 zs_386 f232 ?_
                refine w_ile_t dX9_blame_4 (t := 8) rfl (by omega) ?_
                refine w_lo dX9_blame_8 rfl rfl rfl rfl ?_
                refine w_lo dX9_blame_9 rfl rfl rfl rfl ?_
                refine w_pfi dX9_blame_10 rfl hJ230 zs_386 (Nat.le_of_ble_eq_true rfl) zo_386_8 (by have := zt_4; omega) (by have := zt_4; omega) (zIR_s (zIR_s (zIR_s (zIR_s (zIR_s (zIR_s (zIR_k (by omega) (by omega)))))))) rfl rfl rfl ?_
                intro M267 hJ268 f269 hn270
                refine w_lo dX9_blame_13 rfl rfl rfl rfl ?_
                refine w_lo dX9_blame_14 rfl rfl rfl rfl ?_
                refine w_pfi dX9_blame_15 rfl hJ268 zs_386 (Nat.le_of_ble_eq_true rfl) zo_386_9 (by omega) (by omega) (zIR_s (zIR_s (zIR_s (zIR_s (zIR_s (zIR_s (zIR_s (zIR_k (by omega) (by omega))))))))) rfl rfl rfl ?_
                intro M271 hJ272 f273 hn274
                refine w_en dX9_blame_18 rfl ?_
                show ZW _ _ _ _ _ _ _ (54, [some (.ref 386), some (.int 0), some (.int 10), none], [], M271)
                refine w_lo dX9_number_54 rfl rfl rfl rfl ?_
                have f275 := (hn274 (386) 6 (Or.inr (by decide))).trans ((hn270 (386) 6 (Or.inr (by decide))).trans (f259))
                refine w_gf dX9_number_55 rfl hJ272.1.1 zs_386 f275 ?_
                refine w_lo (ml' := [some (.ref 386), some (.int 0), some (.int 10), some (.int x258)]) dX9_number_58 rfl rfl rfl rfl ?_
                refine w_lo dX9_number_59 rfl rfl rfl rfl ?_
                have f276 := (hn274 (386) 8 (Or.inr (by decide))).trans (f269)
                refine w_gf dX9_number_60 rfl hJ272.1.1 zs_386 f276 ?_
                refine w_ine_t dX9_number_63 (t := 70) rfl (by have := zt_4; omega) ?_
                refine w_lo dX9_number_70 rfl rfl rfl rfl ?_
                refine w_eni dX9_number_71 rfl rfl ?_
                show ZW _ _ _ _ _ _ _ (31, [some (.ref 386), some (.int x208), none], [.int x258], M271)
                refine w_lo (ml' := [some (.ref 386), some (.int x208), some (.int x258)]) dX9_slacking_31 rfl rfl rfl rfl ?_
                refine w_lo dX9_slacking_32 rfl rfl rfl rfl ?_
                refine w_gf dX9_slacking_33 rfl hJ272.1.1 zs_386 f276 ?_
                refine w_ine_t dX9_slacking_36 (t := 54) rfl (by have := zt_4; omega) ?_
                refine w_en dX9_slacking_54 rfl ?_
                exact ⟨_, rfl, hJ272, trivial⟩
              · skip
                refine w_clt_f dX9_is_2 (t := 14) rfl (by have := zt_0; omega) ?_
                refine w_lo dX9_is_5 rfl rfl rfl rfl ?_
                refine w_lo dX9_is_6 rfl rfl rfl rfl ?_
                rcases zcut (10 : Int) x258.toInt with h277 | h277
                · skip
                  refine w_cgt_t dX9_is_7 (t := 14) rfl (by have := zt_10; omega) ?_
                  refine w_ic dX9_is_14 zi_0 ?_
                  refine w_en dX9_is_15 rfl ?_
                  show ZW _ _ _ _ _ _ _ (42, [some (.ref 386), some (.int 0), some (.int 10), none], [.int 0], M227)
                  refine w_ine_f dX9_number_42 (t := 54) rfl (by have := zt_0; omega) ?_
                  refine w_lo dX9_number_45 rfl rfl rfl rfl ?_
                  refine w_ic dX9_number_46 zi_4 ?_
                  refine w_lo dX9_number_47 rfl rfl rfl rfl ?_
                  refine w_gfi dX9_number_48 rfl hJ230.1 zs_386 (Nat.le_of_ble_eq_true rfl) zo_386_4 ?_
                  intro x278 f279 h280 h281
                  refine w_iv dX9_number_51 rfl rfl (As := [.int 4, .int x278]) rfl rfl hJ230.1.1 zs_386 (Nat.le_of_ble_eq_true rfl) ?_
                  refine ZV.of (ini := false) rfl (Nat.le_of_ble_eq_true rfl) (by decide +kernel) ?_
                  show ZW _ _ _ _ _ _ _ (0, [some (.ref 386), some (.int 4), some (.int x278)], [], M227)
                  refine w_lo dX9_blame_0 rfl rfl rfl rfl ?_
                  refine w_gf dX9_blame_1 rfl hJ230.1.1 zs_386 f232 ?_
                  refine w_ile_t dX9_blame_4 (t := 8) rfl (by omega) ?_
                  refine w_lo dX9_blame_8 rfl rfl rfl rfl ?_
                  refine w_lo dX9_blame_9 rfl rfl rfl rfl ?_
                  refine w_pfi dX9_blame_10 rfl hJ230 zs_386 (Nat.le_of_ble_eq_true rfl) zo_386_8 (by have := zt_4; omega) (by have := zt_4; omega) (zIR_s (zIR_s (zIR_s (zIR_s (zIR_s (zIR_s (zIR_k (by omega) (by omega)))))))) rfl rfl rfl ?_
                  intro M282 hJ283 f284 hn285
                  refine w_lo dX9_blame_13 rfl rfl rfl rfl ?_
                  refine w_lo dX9_blame_14 rfl rfl rfl rfl ?_
                  refine w_pfi dX9_blame_15 rfl hJ283 zs_386 (Nat.le_of_ble_eq_true rfl) zo_386_9 (by omega) (by omega) (zIR_s (zIR_s (zIR_s (zIR_s (zIR_s (zIR_s (zIR_s (zIR_k (by omega) (by omega))))))))) rfl rfl rfl ?_
                  intro M286 hJ287 f288 hn289
                  refine w_en dX9_blame_18 rfl ?_
                  show ZW _ _ _ _ _ _ _ (54, [some (.ref 386), some (.int 0), some (.int 10), none], [], M286)
                  refine w_lo dX9_number_54 rfl rfl rfl rfl ?_
                  have f290 := (hn289 (386) 6 (Or.inr (by decide))).trans ((hn285 (386) 6 (Or.inr (by decide))).trans (f259))
                  refine w_gf dX9_number_55 rfl hJ287.1.1 zs_386 f290 ?_
                  refine w_lo (ml' := [some (.ref 386), some (.int 0), some (.int 10), some (.int x258)]) dX9_number_58 rfl rfl rfl rfl ?_
                  refine w_lo dX9_number_59 rfl rfl rfl rfl ?_
                  have f291 := (hn289 (386) 8 (Or.inr (by decide))).trans (f284)
                  refine w_gf dX9_number_60 rfl hJ287.1.1 zs_386 f291 ?_
                  refine w_ine_t dX9_number_63 (t := 70) rfl (by have := zt_4; omega) ?_
                  refine w_lo dX9_number_70 rfl rfl rfl rfl ?_
                  refine w_eni dX9_number_71 rfl rfl ?_
                  show ZW _ _ _ _ _ _ _ (31, [some (.ref 386), some (.int x208), none], [.int x258], M286)
                  refine w_lo (ml' := [some (.ref 386), some (.int x208), some (.int x258)]) dX9_slacking_31 rfl rfl rfl rfl ?_
                  refine w_lo dX9_slacking_32 rfl rfl rfl rfl ?_
                  refine w_gf dX9_slacking_33 rfl hJ287.1.1 zs_386 f291 ?_
                  refine w_ine_t dX9_slacking_36 (t := 54) rfl (by have := zt_4; omega) ?_
                  refine w_en dX9_slacking_54 rfl ?_
                  exact ⟨_, rfl, hJ287, trivial⟩
                · skip
                  refine w_cgt_f dX9_is_7 (t := 14) rfl (by have := zt_10; omega) ?_
                  refine w_ic dX9_is_10 zi_1 ?_
                  refine w_gt dX9_is_11 (t := 15) rfl ?_
                  refine w_en dX9_is_15 rfl ?_
                  show ZW _ _ _ _ _ _ _ (42, [some (.ref 386), some (.int 0), some (.int 10), none], [.int 1], M227)
                  refine w_ine_t dX9_number_42 (t := 54) rfl (by have := zt_1; omega) ?_
                  refine w_lo dX9_number_54 rfl rfl rfl rfl ?_
                  refine w_gf dX9_number_55 rfl hJ230.1.1 zs_386 f259 ?_
                  refine w_lo (ml' := [some (.ref 386), some (.int 0), some (.int 10), some (.int x258)]) dX9_number_58 rfl rfl rfl rfl ?_
                  refine w_lo dX9_number_59 rfl rfl rfl rfl ?_
                  refine w_gf dX9_number_60 rfl hJ230.1.1 zs_386 f232 ?_
                  refine w_ine_f dX9_number_63 (t := 70) rfl (by omega) ?_
                  refine w_lo dX9_number_66 rfl rfl rfl rfl ?_
                  refine w_iv dX9_number_67 rfl rfl (As := []) rfl rfl hJ230.1.1 zs_386 (Nat.le_of_ble_eq_true rfl) ?_
                  refine ZV.imp (k_2310 hN hJ230.1) ?_
                  rintro _ ⟨M292, rfl, hJ293, hq294⟩
                  have hJ295 := zJ_trans hJ230 hJ293 (zSub_cons (fun _ _ h h' hk => zIR_s (zIR_e (by omega) (by omega) hk)) (zSub_cons (fun _ _ h h' hk => zIR_s (zIR_s (zIR_e (by omega) (by omega) hk))) (zSub_cons (fun _ _ h h' hk => zIR_s (zIR_s (zIR_s (zIR_e (by omega) (by omega) hk)))) (zSub_cons (fun _ _ h h' hk => zIR_s (zIR_s (zIR_s (zIR_s (zIR_e (by omega) (by omega) hk))))) (zSub_cons (fun _ _ h h' hk => zIR_s (zIR_s (zIR_s (zIR_s (zIR_s (zIR_e (by omega) (by omega) hk)))))) (zSub_cons (fun _ _ h h' hk => zIR_s (zIR_s (zIR_s (zIR_s (zIR_s (zIR_s (zIR_e (by omega) (by omega) hk))))))) (zSub_cons (fun _ _ h h' hk => zIR_s (zIR_s (zIR_s (zIR_s (zIR_s (zIR_s (zIR_s (zIR_e (by omega) (by omega) hk)))))))) zSub_nil)))))))
                  show ZW _ _ _ _ _ _ _ (70, [some (.ref 386), some (.int 0), some (.int 10), some (.int x258)], [], M292)
                  refine w_lo dX9_number_70 rfl rfl rfl rfl ?_
                  refine w_eni dX9_number_71 rfl rfl ?_
                  show ZW _ _ _ _ _ _ _ (31, [some (.ref 386), some (.int x208), none], [.int x258], M292)
                  refine w_lo (ml' := [some (.ref 386), some (.int x208), some (.int x258)]) dX9_slacking_31 rfl rfl rfl rfl ?_
                  refine w_lo dX9_slacking_32 rfl rfl rfl rfl ?_
                  refine w_gfi dX9_slacking_33 rfl hJ295.1 zs_386 (Nat.le_of_ble_eq_true rfl) zo_386_8 ?_
                  intro x296 f297 h298 h299
                  rcases Int.decEq x296.toInt (0 : Int) with h300 | h300
                  · skip
                    refine w_ine_t dX9_slacking_36 (t := 54) rfl (by omega) ?_
                    refine w_en dX9_slacking_54 rfl ?_
                    exact ⟨_, rfl, hJ295, trivial⟩
                  · skip
                    refine w_ine_f dX9_slacking_36 (t := 54) rfl (by omega) ?_
                    refine w_lo dX9_slacking_39 rfl rfl rfl rfl ?_
                    refine w_gf dX9_slacking_40 rfl hJ295.1.1 zs_386 (zr_386_20 hJ295.1) ?_
                    refine w_bi dX9_slacking_43 (c := 11) (by decide) ?_
                    refine w_lo dX9_slacking_45 rfl rfl rfl rfl ?_
                    refine w_gfi dX9_slacking_46 rfl hJ295.1 zs_386 (Nat.le_of_ble_eq_true rfl) zo_386_35 ?_
                    intro x301 f302 h303 h304
                    refine w_mulc dX9_slacking_49 zt_11 (by have := zt_11; omega) ?_
                    intro x305 h306
                    have := zt_11
                    refine w_lo dX9_slacking_50 rfl rfl rfl rfl ?_
                    refine w_add dX9_slacking_51 (by omega) ?_
                    intro x307 h308
                    refine w_lo dX9_slacking_52 rfl rfl rfl rfl ?_
                    refine w_isi dX9_slacking_53 hJ295 zs_395 (by omega) (by omega) zu_395 (zbot _) (ztop _) (zIR_a (by omega) (by omega)) ?_
                    intro M309 hJ310 f311 hn312
                    refine w_en dX9_slacking_54 rfl ?_
                    exact ⟨_, rfl, hJ310, trivial⟩
        · skip
          refine w_clt_f dX9_is_2 (t := 14) rfl (by have := zt_0; omega) ?_
          refine w_lo dX9_is_5 rfl rfl rfl rfl ?_
          refine w_lo dX9_is_6 rfl rfl rfl rfl ?_
          rcases zcut (99 : Int) x208.toInt with h313 | h313
          · skip
            refine w_cgt_t dX9_is_7 (t := 14) rfl (by have := zt_99; omega) ?_
            refine w_ic dX9_is_14 zi_0 ?_
            refine w_en dX9_is_15 rfl ?_
            show ZW _ _ _ _ _ _ _ (42, [some (.ref 386), some (.int 0), some (.int 99), none], [.int 0], M1)
            refine w_ine_f dX9_number_42 (t := 54) rfl (by have := zt_0; omega) ?_
            refine w_lo dX9_number_45 rfl rfl rfl rfl ?_
            refine w_ic dX9_number_46 zi_4 ?_
            refine w_lo dX9_number_47 rfl rfl rfl rfl ?_
            refine w_gfi dX9_number_48 rfl hJ7.1 zs_386 (Nat.le_of_ble_eq_true rfl) zo_386_4 ?_
            intro x314 f315 h316 h317
            refine w_iv dX9_number_51 rfl rfl (As := [.int 4, .int x314]) rfl rfl hJ7.1.1 zs_386 (Nat.le_of_ble_eq_true rfl) ?_
            refine ZV.of (ini := false) rfl (Nat.le_of_ble_eq_true rfl) (by decide +kernel) ?_
            show ZW _ _ _ _ _ _ _ (0, [some (.ref 386), some (.int 4), some (.int x314)], [], M1)
            refine w_lo dX9_blame_0 rfl rfl rfl rfl ?_
            refine w_gf dX9_blame_1 rfl hJ7.1.1 zs_386 f10 ?_
            refine w_ile_t dX9_blame_4 (t := 8) rfl (by omega) ?_
            refine w_lo dX9_blame_8 rfl rfl rfl rfl ?_
            refine w_lo dX9_blame_9 rfl rfl rfl rfl ?_
            refine w_pfi dX9_blame_10 rfl hJ7 zs_386 (Nat.le_of_ble_eq_true rfl) zo_386_8 (by have := zt_4; omega) (by have := zt_4; omega) (zIR_s (zIR_s (zIR_s (zIR_s (zIR_s (zIR_s (zIR_k (by omega) (by omega)))))))) rfl rfl rfl ?_
            intro M318 hJ319 f320 hn321
            refine w_lo dX9_blame_13 rfl rfl rfl rfl ?_
            refine w_lo dX9_blame_14 rfl rfl rfl rfl ?_
            refine w_pfi dX9_blame_15 rfl hJ319 zs_386 (Nat.le_of_ble_eq_true rfl) zo_386_9 (by omega) (by omega) (zIR_s (zIR_s (zIR_s (zIR_s (zIR_s (zIR_s (zIR_s (zIR_k (by omega) (by omega))))))))) rfl rfl rfl ?_
            intro M322 hJ323 f324 hn325
            refine w_en dX9_blame_18 rfl ?_
            show ZW _ _ _ _ _ _ _ (54, [some (.ref 386), some (.int 0), some (.int 99), none], [], M322)
            refine w_lo dX9_number_54 rfl rfl rfl rfl ?_
            have f326 := (hn325 (386) 6 (Or.inr (by decide))).trans ((hn321 (386) 6 (Or.inr (by decide))).trans (f209))
            refine w_gf dX9_number_55 rfl hJ323.1.1 zs_386 f326 ?_
            refine w_lo (ml' := [some (.ref 386), some (.int 0), some (.int 99), some (.int x208)]) dX9_number_58 rfl rfl rfl rfl ?_
            refine w_lo dX9_number_59 rfl rfl rfl rfl ?_
            have f327 := (hn325 (386) 8 (Or.inr (by decide))).trans (f320)
            refine w_gf dX9_number_60 rfl hJ323.1.1 zs_386 f327 ?_
            refine w_ine_t dX9_number_63 (t := 70) rfl (by have := zt_4; omega) ?_
            refine w_lo dX9_number_70 rfl rfl rfl rfl ?_
            refine w_eni dX9_number_71 rfl rfl ?_
            show ZW _ _ _ _ _ _ _ (16, [some (.ref 386), none, none], [.int x208], M322)
            refine w_lo (ml' := [some (.ref 386), some (.int x208), none]) dX9_slacking_16 rfl rfl rfl rfl ?_
            refine w_lo dX9_slacking_17 rfl rfl rfl rfl ?_
            refine w_me (st' := [.long (24948 : Int64), .ref 386]) dX9_slacking_18 rfl rfl rfl rfl rfl ?_
            refine w_iv dX9_slacking_21 rfl rfl (As := [.long (24948 : Int64)]) rfl rfl hJ323.1.1 zs_386 (Nat.le_of_ble_eq_true rfl) ?_
            refine ZV.imp (k_2321 hN hJ323.1) ?_
            rintro _ ⟨M328, rfl, hJ329, hq330⟩
            have hJ331 := zJ_trans hJ323 hJ329 (zSub_cons (fun _ _ h h' hk => zIR_s (zIR_e (by omega) (by omega) hk)) (zSub_cons (fun _ _ h h' hk => zIR_s (zIR_s (zIR_e (by omega) (by omega) hk))) (zSub_cons (fun _ _ h h' hk => zIR_s (zIR_s (zIR_s (zIR_e (by omega) (by omega) hk)))) (zSub_cons (fun _ _ h h' hk => zIR_s (zIR_s (zIR_s (zIR_s (zIR_e (by omega) (by omega) hk))))) (zSub_cons (fun _ _ h h' hk => zIR_s (zIR_s (zIR_s (zIR_s (zIR_s (zIR_e (by omega) (by omega) hk)))))) (zSub_cons (fun _ _ h h' hk => zIR_s (zIR_s (zIR_s (zIR_s (zIR_s (zIR_s (zIR_e (by omega) (by omega) hk))))))) (zSub_cons (fun _ _ h h' hk => zIR_s (zIR_s (zIR_s (zIR_s (zIR_s (zIR_s (zIR_s (zIR_e (by omega) (by omega) hk)))))))) zSub_nil)))))))
            show ZW _ _ _ _ _ _ _ (24, [some (.ref 386), some (.int x208), none], [], M328)
            refine w_lo dX9_slacking_24 rfl rfl rfl rfl ?_
            refine w_ic dX9_slacking_25 zi_0 ?_
            refine w_bi dX9_slacking_26 (c := 10) (by decide) ?_
            refine w_iv dX9_slacking_28 rfl rfl (As := [.int 0, .int 10]) rfl rfl hJ331.1.1 zs_386 (Nat.le_of_ble_eq_true rfl) ?_
            refine ZV.of (ini := false) rfl (Nat.le_of_ble_eq_true rfl) (by decide +kernel) ?_
            show ZW _ _ _ _ _ _ _ (0, [some (.ref 386), some (.int 0), some (.int 10), none], [], M328)
            refine w_lo dX9_number_0 rfl rfl rfl rfl ?_
            refine w_gfi dX9_number_1 rfl hJ331.1 zs_386 (Nat.le_of_ble_eq_true rfl) zo_386_8 ?_
            intro x332 f333 h334 h335
            rcases zcut (0 : Int) x332.toInt with h336 | h336
            · skip
              refine w_ile_f dX9_number_4 (t := 9) rfl (by omega) ?_
              refine w_ic dX9_number_7 zi_0 ?_
              refine w_en dX9_number_8 rfl ?_
              show ZW _ _ _ _ _ _ _ (31, [some (.ref 386), some (.int x208), none], [.int 0], M328)
              refine w_lo (ml' := [some (.ref 386), some (.int x208), some (.int 0)]) dX9_slacking_31 rfl rfl rfl rfl ?_
              refine w_lo dX9_slacking_32 rfl rfl rfl rfl ?_
              refine w_gf dX9_slacking_33 rfl hJ331.1.1 zs_386 f333 ?_
              refine w_ine_t dX9_slacking_36 (t := 54) rfl (by omega) ?_
              refine w_en dX9_slacking_54 rfl ?_
              exact ⟨_, rfl, hJ331, trivial⟩
            · skip
              refine w_ile_t dX9_number_4 (t := 9) rfl (by omega) ?_
              refine w_lo dX9_number_9 rfl rfl rfl rfl ?_
              refine w_gfi dX9_number_10 rfl hJ331.1 zs_386 (Nat.le_of_ble_eq_true rfl) zo_386_3 ?_
              intro x337 f338 h339 h340
              refine w_ic dX9_number_13 zi_2 ?_
              rcases Int.decEq x337.toInt (2 : Int) with h341 | h341
              · skip
                refine w_ceq_f dX9_number_14 (t := 26) rfl (by have := zt_2; omega) ?_
                refine w_lo dX9_number_17 rfl rfl rfl rfl ?_
                refine w_ic dX9_number_18 zi_1 ?_
                refine w_lo dX9_number_19 rfl rfl rfl rfl ?_
                refine w_gfi dX9_number_20 rfl hJ331.1 zs_386 (Nat.le_of_ble_eq_true rfl) zo_386_4 ?_
                intro x342 f343 h344 h345
                refine w_iv dX9_number_23 rfl rfl (As := [.int 1, .int x342]) rfl rfl hJ331.1.1 zs_386 (Nat.le_of_ble_eq_true rfl) ?_
                refine ZV.of (ini := false) rfl (Nat.le_of_ble_eq_true rfl) (by decide +kernel) ?_
                show ZW _ _ _ _ _ _ _ (0, [some (.ref 386), some (.int 1), some (.int x342)], [], M328)
                refine w_lo dX9_blame_0 rfl rfl rfl rfl ?_
                refine w_gf dX9_blame_1 rfl hJ331.1.1 zs_386 f333 ?_
                refine w_ile_t dX9_blame_4 (t := 8) rfl (by omega) ?_
                refine w_lo dX9_blame_8 rfl rfl rfl rfl ?_
                refine w_lo dX9_blame_9 rfl rfl rfl rfl ?_
                refine w_pfi dX9_blame_10 rfl hJ331 zs_386 (Nat.le_of_ble_eq_true rfl) zo_386_8 (by have := zt_1; omega) (by have := zt_1; omega) (zIR_s (zIR_s (zIR_s (zIR_s (zIR_s (zIR_s (zIR_k (by omega) (by omega)))))))) rfl rfl rfl ?_
                intro M346 hJ347 f348 hn349
                refine w_lo dX9_blame_13 rfl rfl rfl rfl ?_
                refine w_lo dX9_blame_14 rfl rfl rfl rfl ?_
                refine w_pfi dX9_blame_15 rfl hJ347 zs_386 (Nat.le_of_ble_eq_true rfl) zo_386_9 (by omega) (by omega) (zIR_s (zIR_s (zIR_s (zIR_s (zIR_s (zIR_s (zIR_s (zIR_k (by omega) (by omega))))))))) rfl rfl rfl ?_
                intro M350 hJ351 f352 hn353
                refine w_en dX9_blame_18 rfl ?_
                show ZW _ _ _ _ _ _ _ (26, [some (.ref 386), some (.int 0), some (.int 10), none], [], M350)
                refine w_lo dX9_number_26 rfl rfl rfl rfl ?_
                have f354 := (hn353 (386) 8 (Or.inr (by decide))).trans (f348)
                refine w_gf dX9_number_27 rfl hJ351.1.1 zs_386 f354 ?_
                refine w_ine_t dX9_number_30 (t := 54) rfl (by have := zt_1; omega) ?_
                refine w_lo dX9_number_54 rfl rfl rfl rfl ?_
                refine w_gfi dX9_number_55 rfl hJ351.1 zs_386 (Nat.le_of_ble_eq_true rfl) zo_386_6 ?_
                intro x355 f356 h357 h358
                refine w_lo (ml' := [some (.ref 386), some (.int 0), some (.int 10), some (.int x355)]) dX9_number_58 rfl rfl rfl rfl ?_
                refine w_lo dX9_number_59 rfl rfl rfl rfl ?_
                refine w_gf dX9_number_60 rfl hJ351.1.1 zs_386 f354 ?_
                refine w_ine_t dX9_number_63 (t := 70) rfl (by have := zt_1; omega) ?_
                refine w_lo dX9_number_70 rfl rfl rfl rfl ?_
                refine w_eni dX9_number_71 rfl rfl ?_
                show ZW _ _ _ _ _ _ _ (31, [some (.ref 386), some (.int x208), none], [.int x355], M350)
                refine w_lo (ml' := [some (.ref 386), some (.int x208), some (.int x355)]) dX9_slacking_31 rfl rfl rfl rfl ?_
                refine w_lo dX9_slacking_32 rfl rfl rfl rfl ?_
                refine w_gf dX9_slacking_33 rfl hJ351.1.1 zs_386 f354 ?_
                refine w_ine_t dX9_slacking_36 (t := 54) rfl (by have := zt_1; omega) ?_
                refine w_en dX9_slacking_54 rfl ?_
                exact ⟨_, rfl, hJ351, trivial⟩
              · skip
                refine w_ceq_t dX9_number_14 (t := 26) rfl (by have := zt_2; omega) ?_
                refine w_lo dX9_number_26 rfl rfl rfl rfl ?_
                refine w_gf dX9_number_27 rfl hJ331.1.1 zs_386 f333 ?_
                refine w_ine_f dX9_number_30 (t := 54) rfl (by omega) ?_
                refine w_lo dX9_number_33 rfl rfl rfl rfl ?_
                refine w_gfi dX9_number_34 rfl hJ331.1 zs_386 (Nat.le_of_ble_eq_true rfl) zo_386_6 ?_
                intro x359 f360 h361 h362
                refine w_lo dX9_number_37 rfl rfl rfl rfl ?_
                refine w_lo dX9_number_38 rfl rfl rfl rfl ?_
                refine w_ss dX9_number_39 rfl rfl (As := [.int x359, .int 0, .int 10]) rfl rfl (Nat.le_of_ble_eq_true rfl) ?_
                refine ZV.of (ini := false) rfl (Nat.le_of_ble_eq_true rfl) (by decide +kernel) ?_
                show ZW _ _ _ _ _ _ _ (0, [some (.int x359), some (.int 0), some (.int 10)], [], M328)
                refine w_lo dX9_is_0 rfl rfl rfl rfl ?_
                refine w_lo dX9_is_1 rfl rfl rfl rfl ?_
                rcases zcut x359.toInt (0 : Int) with h363 | h363
                · skip
                  refine w_clt_t dX9_is_2 (t := 14) rfl (by have := zt_0; omega) ?_
                  refine w_ic dX9_is_14 zi_0 ?_
                  refine w_en dX9_is_15 rfl ?_
                  show ZW _ _ _ _ _ _ _ (42, [some (.ref 386), some (.int 0), some (.int 10), none], [.int 0], M328)
                  refine w_ine_f dX9_number_42 (t := 54) rfl (by have := zt_0; omega) ?_
                  refine w_lo dX9_number_45 rfl rfl rfl rfl ?_
                  refine w_ic dX9_number_46 zi_4 ?_
                  refine w_lo dX9_number_47 rfl rfl rfl rfl ?_
                  refine w_gfi dX9_number_48 rfl hJ331.1 zs_386 (Nat.le_of_ble_eq_true rfl) zo_386_4 ?_
                  intro x364 f365 h366 h367
                  refine w_iv dX9_number_51 rfl rfl (As := [.int 4, .int x364]) rfl rfl hJ331.1.1 zs_386 (Nat.le_of_ble_eq_true rfl) ?_
                  refine ZV.of (ini := false) rfl (Nat.le_of_ble_eq_true rfl) (by decide +kernel) ?_
                  show ZW _ _ _ _ _ _ _ (0, [some (.ref 386), some (.int 4), some (.int x364)], [], M328)
                  refine w_lo dX9_blame_0 rfl rfl rfl rfl ?_
                  refine w_gf dX9_blame_1 rfl hJ331.1.1 zs_386 f333 ?_
                  refine w_ile_t dX9_blame_4 (t := 8) rfl (by omega) ?_
                  refine w_lo dX9_blame_8 rfl rfl rfl rfl ?_
                  refine w_lo dX9_blame_9 rfl rfl rfl rfl ?_
                  refine w_pfi dX9_blame_10 rfl hJ331 zs_386 (Nat.le_of_ble_eq_true rfl) zo_386_8 (by have := zt_4; omega) (by have := zt_4; omega) (zIR_s (zIR_s (zIR_s (zIR_s (zIR_s (zIR_s (zIR_k (by omega) (by omega)))))))) rfl rfl rfl ?_
                  intro M368 hJ369 f370 hn371
                  refine w_lo dX9_blame_13 rfl rfl rfl rfl ?_
                  refine w_lo dX9_blame_14 rfl rfl rfl rfl ?_
                  refine w_pfi dX9_blame_15 rfl hJ369 zs_386 (Nat.le_of_ble_eq_true rfl) zo_386_9 (by omega) (by omega) (zIR_s (zIR_s (zIR_s (zIR_s (zIR_s (zIR_s (zIR_s (zIR_k (by omega) (by omega))))))))) rfl rfl rfl ?_
                  intro M372 hJ373 f374 hn375
                  refine w_en dX9_blame_18 rfl ?_
                  show ZW _ _ _ _ _ _ _ (54, [some (.ref 386), some (.int 0), some (.int 10), none], [], M372)
                  refine w_lo dX9_number_54 rfl rfl rfl rfl ?_
                  have f376 := (hn375 (386) 6 (Or.inr (by decide))).trans ((hn371 (386) 6 (Or.inr (by decide))).trans (f360))
                  refine w_gf dX9_number_55 rfl hJ373.1.1 zs_386 f376 ?_
                  refine w_lo (ml' := [some (.ref 386), some (.int 0), some (.int 10), some (.int x359)]) dX9_number_58 rfl rfl rfl rfl ?_
                  refine w_lo dX9_number_59 rfl rfl rfl rfl ?_
                  have f377 := (hn375 (386) 8 (Or.inr (by decide))).trans (f370)
                  refine w_gf dX9_number_60 rfl hJ373.1.1 zs_386 f377 ?_
                  refine w_ine_t dX9_number_63 (t := 70) rfl (by have := zt_4; omega) ?_
                  refine w_lo dX9_number_70 rfl rfl rfl rfl ?_
                  refine w_eni dX9_number_71 rfl rfl ?_
                  show ZW _ _ _ _ _ _ _ (31, [some (.ref 386), some (.int x208), none], [.int x359], M372)
                  refine w_lo (ml' := [some (.ref 386), some (.int x208), some (.int x359)]) dX9_slacking_31 rfl rfl rfl rfl ?_
                  refine w_lo dX9_slacking_32 rfl rfl rfl rfl ?_
                  refine w_gf dX9_slacking_33 rfl hJ373.1.1 zs_386 f377 ?_
                  refine w_ine_t dX9_slacking_36 (t := 54) rfl (by have := zt_4; omega) ?_
                  refine w_en dX9_slacking_54 rfl ?_
                  exact ⟨_, rfl, hJ373, trivial⟩
                · skip
                  refine w_clt_f dX9_is_2 (t := 14) rfl (by have := zt_0; omega) ?_
                  refine w_lo dX9_is_5 rfl rfl rfl rfl ?_
                  refine w_lo dX9_is_6 rfl rfl rfl rfl ?_
                  rcases zcut (10 : Int) x359.toInt with h378 | h378
                  · skip
                    refine w_cgt_t dX9_is_7 (t := 14) rfl (by have := zt_10; omega) ?_
                    refine w_ic dX9_is_14 zi_0 ?_
                    refine w_en dX9_is_15 rfl ?_
                    show ZW _ _ _ _ _ _ _ (42, [some (.ref 386), some (.int 0), some (.int 10), none], [.int 0], M328)
                    refine w_ine_f dX9_number_42 (t := 54) rfl (by have := zt_0; omega) ?_
                    refine w_lo dX9_number_45 rfl rfl rfl rfl ?_
                    refine w_ic dX9_number_46 zi_4 ?_
                    refine w_lo dX9_number_47 rfl rfl rfl rfl ?_
                    refine w_gfi dX9_number_48 rfl hJ331.1 zs_386 (Nat.le_of_ble_eq_true rfl) zo_386_4 ?_
                    intro x379 f380 h381 h382
                    refine w_iv dX9_number_51 rfl rfl (As := [.int 4, .int x379]) rfl rfl hJ331.1.1 zs_386 (Nat.le_of_ble_eq_true rfl) ?_
                    refine ZV.of (ini := false) rfl (Nat.le_of_ble_eq_true rfl) (by decide +kernel) ?_
                    show ZW _ _ _ _ _ _ _ (0, [some (.ref 386), some (.int 4), some (.int x379)], [], M328)
                    refine w_lo dX9_blame_0 rfl rfl rfl rfl ?_
                    refine w_gf dX9_blame_1 rfl hJ331.1.1 zs_386 f333 ?_
                    refine w_ile_t dX9_blame_4 (t := 8) rfl (by omega) ?_
                    refine w_lo dX9_blame_8 rfl rfl rfl rfl ?_
                    refine w_lo dX9_blame_9 rfl rfl rfl rfl ?_
                    refine w_pfi dX9_blame_10 rfl hJ331 zs_386 (Nat.le_of_ble_eq_true rfl) zo_386_8 (by have := zt_4; omega) (by have := zt_4; omega) (zIR_s (zIR_s (zIR_s (zIR_s (zIR_s (zIR_s (zIR_k (by omega) (by omega)))))))) rfl rfl rfl ?_
                    intro M383 hJ384 f385 hn386
                    refine w_lo dX9_blame_13 rfl rfl rfl rfl ?_
                    refine w_lo dX9_blame_14 rfl rfl rfl rfl ?_
                    refine w_pfi dX9_blame_15 rfl hJ384 zs_386 (Nat.le_of_ble_eq_true rfl) zo_386_9 (by omega) (by omega) (zIR_s (zIR_s (zIR_s (zIR_s (zIR_s (zIR_s (zIR_s (zIR_k (by omega) (by omega))))))))) rfl rfl rfl ?_
                    intro M387 hJ388 f389 hn390
                    refine w_en dX9_blame_18 rfl ?_
                    show ZW _ _ _ _ _ _ _ (54, [some (.ref 386), some (.int 0), some (.int 10), none], [], M387)
                    refine w_lo dX9_number_54 rfl rfl rfl rfl ?_
                    have f391 := (hn390 (386) 6 (Or.inr (by decide))).trans ((hn386 (386) 6 (Or.inr (by decide))).trans (f360))
                    refine w_gf dX9_number_55 rfl hJ388.1.1 zs_386 f391 ?_
                    refine w_lo (ml' := [some (.ref 386), some (.int 0), some (.int 10), some (.int x359)]) dX9_number_58 rfl rfl rfl rfl ?_
                    refine w_lo dX9_number_59 rfl rfl rfl rfl ?_
                    have f392 := (hn390 (386) 8 (Or.inr (by decide))).trans (f385)
                    refine w_gf dX9_number_60 rfl hJ388.1.1 zs_386 f392 ?_
                    refine w_ine_t dX9_number_63 (t := 70) rfl (by have := zt_4; omega) ?_
                    refine w_lo dX9_number_70 rfl rfl rfl rfl ?_
                    refine w_eni dX9_number_71 rfl rfl ?_
                    show ZW _ _ _ _ _ _ _ (31, [some (.ref 386), some (.int x208), none], [.int x359], M387)
                    refine w_lo (ml' := [some (.ref 386), some (.int x208), some (.int x359)]) dX9_slacking_31 rfl rfl rfl rfl ?_
                    refine w_lo dX9_slacking_32 rfl rfl rfl rfl ?_
                    refine w_gf dX9_slacking_33 rfl hJ388.1.1 zs_386 f392 ?_
                    refine w_ine_t dX9_slacking_36 (t := 54) rfl (by have := zt_4; omega) ?_
                    refine w_en dX9_slacking_54 rfl ?_
                    exact ⟨_, rfl, hJ388, trivial⟩
                  · skip
                    refine w_cgt_f dX9_is_7 (t := 14) rfl (by have := zt_10; omega) ?_
                    refine w_ic dX9_is_10 zi_1 ?_
                    refine w_gt dX9_is_11 (t := 15) rfl ?_
                    refine w_en dX9_is_15 rfl ?_
                    show ZW _ _ _ _ _ _ _ (42, [some (.ref 386), some (.int 0), some (.int 10), none], [.int 1], M328)
                    refine w_ine_t dX9_number_42 (t := 54) rfl (by have := zt_1; omega) ?_
                    refine w_lo dX9_number_54 rfl rfl rfl rfl ?_
                    refine w_gf dX9_number_55 rfl hJ331.1.1 zs_386 f360 ?_
                    refine w_lo (ml' := [some (.ref 386), some (.int 0), some (.int 10), some (.int x359)]) dX9_number_58 rfl rfl rfl rfl ?_
                    refine w_lo dX9_number_59 rfl rfl rfl rfl ?_
                    refine w_gf dX9_number_60 rfl hJ331.1.1 zs_386 f333 ?_
                    refine w_ine_f dX9_number_63 (t := 70) rfl (by omega) ?_
                    refine w_lo dX9_number_66 rfl rfl rfl rfl ?_
                    refine w_iv dX9_number_67 rfl rfl (As := []) rfl rfl hJ331.1.1 zs_386 (Nat.le_of_ble_eq_true rfl) ?_
                    refine ZV.imp (k_2310 hN hJ331.1) ?_
                    rintro _ ⟨M393, rfl, hJ394, hq395⟩
                    have hJ396 := zJ_trans hJ331 hJ394 (zSub_cons (fun _ _ h h' hk => zIR_s (zIR_e (by omega) (by omega) hk)) (zSub_cons (fun _ _ h h' hk => zIR_s (zIR_s (zIR_e (by omega) (by omega) hk))) (zSub_cons (fun _ _ h h' hk => zIR_s (zIR_s (zIR_s (zIR_e (by omega) (by omega) hk)))) (zSub_cons (fun _ _ h h' hk => zIR_s (zIR_s (zIR_s (zIR_s (zIR_e (by omega) (by omega) hk))))) (zSub_cons (fun _ _ h h' hk => zIR_s (zIR_s (zIR_s (zIR_s (zIR_s (zIR_e (by omega) (by omega) hk)))))) (zSub_cons (fun _ _ h h' hk => zIR_s (zIR_s (zIR_s (zIR_s (zIR_s (zIR_s (zIR_e (by omega) (by omega) hk))))))) (zSub_cons (fun _ _ h h' hk => zIR_s (zIR_s (zIR_s (zIR_s (zIR_s (zIR_s (zIR_s (zIR_e (by omega) (by omega) hk)))))))) zSub_nil)))))))
                    show ZW _ _ _ _ _ _ _ (70, [some (.ref 386), some (.int 0), some (.int 10), some (.int x359)], [], M393)
                    refine w_lo dX9_number_70 rfl rfl rfl rfl ?_
                    refine w_eni dX9_number_71 rfl rfl ?_
                    show ZW _ _ _ _ _ _ _ (31, [some (.ref 386), some (.int x208), none], [.int x359], M393)
                    refine w_lo (ml' := [some (.ref 386), some (.int x208), some (.int x359)]) dX9_slacking_31 rfl rfl rfl rfl ?_
                    refine w_lo dX9_slacking_32 rfl rfl rfl rfl ?_
                    refine w_gfi dX9_slacking_33 rfl hJ396.1 zs_386 (Nat.le_of_ble_eq_true rfl) zo_386_8 ?_
                    intro x397 f398 h399 h400
                    rcases Int.decEq x397.toInt (0 : Int) with h401 | h401
                    · skip
                      refine w_ine_t dX9_slacking_36 (t := 54) rfl (by omega) ?_
                      refine w_en dX9_slacking_54 rfl ?_
                      exact ⟨_, rfl, hJ396, trivial⟩
                    · skip
                      refine w_ine_f dX9_slacking_36 (t := 54) rfl (by omega) ?_
                      refine w_lo dX9_slacking_39 rfl rfl rfl rfl ?_
                      refine w_gf dX9_slacking_40 rfl hJ396.1.1 zs_386 (zr_386_20 hJ396.1) ?_
                      refine w_bi dX9_slacking_43 (c := 11) (by decide) ?_
                      refine w_lo dX9_slacking_45 rfl rfl rfl rfl ?_
                      refine w_gfi dX9_slacking_46 rfl hJ396.1 zs_386 (Nat.le_of_ble_eq_true rfl) zo_386_35 ?_
                      intro x402 f403 h404 h405
                      refine w_mulc dX9_slacking_49 zt_11 (by have := zt_11; omega) ?_
                      intro x406 h407
                      have := zt_11
                      refine w_lo dX9_slacking_50 rfl rfl rfl rfl ?_
                      refine w_add dX9_slacking_51 (by omega) ?_
                      intro x408 h409
                      refine w_lo dX9_slacking_52 rfl rfl rfl rfl ?_
                      refine w_isi dX9_slacking_53 hJ396 zs_395 (by omega) (by omega) zu_395 (zbot _) (ztop _) (zIR_a (by omega) (by omega)) ?_
                      intro M410 hJ411 f412 hn413
                      refine w_en dX9_slacking_54 rfl ?_
                      exact ⟨_, rfl, hJ411, trivial⟩
          · skip
            refine w_cgt_f dX9_is_7 (t := 14) rfl (by have := zt_99; omega) ?_
            refine w_ic dX9_is_10 zi_1 ?_
            refine w_gt dX9_is_11 (t := 15) rfl ?_
            refine w_en dX9_is_15 rfl ?_
            show ZW _ _ _ _ _ _ _ (42, [some (.ref 386), some (.int 0), some (.int 99), none], [.int 1], M1)
            refine w_ine_t dX9_number_42 (t := 54) rfl (by have := zt_1; omega) ?_
            refine w_lo dX9_number_54 rfl rfl rfl rfl ?_
            refine w_gf dX9_number_55 rfl hJ7.1.1 zs_386 f209 ?_
            refine w_lo (ml' := [some (.ref 386), some (.int 0), some (.int 99), some (.int x208)]) dX9_number_58 rfl rfl rfl rfl ?_
            refine w_lo dX9_number_59 rfl rfl rfl rfl ?_
            refine w_gf dX9_number_60 rfl hJ7.1.1 zs_386 f10 ?_
            refine w_ine_f dX9_number_63 (t := 70) rfl (by omega) ?_
            refine w_lo dX9_number_66 rfl rfl rfl rfl ?_
            refine w_iv dX9_number_67 rfl rfl (As := []) rfl rfl hJ7.1.1 zs_386 (Nat.le_of_ble_eq_true rfl) ?_
            refine ZV.imp (k_2310 hN hJ7.1) ?_
            rintro _ ⟨M414, rfl, hJ415, hq416⟩
            have hJ417 := zJ_trans hJ7 hJ415 (zSub_cons (fun _ _ h h' hk => zIR_s (zIR_e (by omega) (by omega) hk)) (zSub_cons (fun _ _ h h' hk => zIR_s (zIR_s (zIR_e (by omega) (by omega) hk))) (zSub_cons (fun _ _ h h' hk => zIR_s (zIR_s (zIR_s (zIR_e (by omega) (by omega) hk)))) (zSub_cons (fun _ _ h h' hk => zIR_s (zIR_s (zIR_s (zIR_s (zIR_e (by omega) (by omega) hk))))) (zSub_cons (fun _ _ h h' hk => zIR_s (zIR_s (zIR_s (zIR_s (zIR_s (zIR_e (by omega) (by omega) hk)))))) (zSub_cons (fun _ _ h h' hk => zIR_s (zIR_s (zIR_s (zIR_s (zIR_s (zIR_s (zIR_e (by omega) (by omega) hk))))))) (zSub_cons (fun _ _ h h' hk => zIR_s (zIR_s (zIR_s (zIR_s (zIR_s (zIR_s (zIR_s (zIR_e (by omega) (by omega) hk)))))))) zSub_nil)))))))
            show ZW _ _ _ _ _ _ _ (70, [some (.ref 386), some (.int 0), some (.int 99), some (.int x208)], [], M414)
            refine w_lo dX9_number_70 rfl rfl rfl rfl ?_
            refine w_eni dX9_number_71 rfl rfl ?_
            show ZW _ _ _ _ _ _ _ (16, [some (.ref 386), none, none], [.int x208], M414)
            refine w_lo (ml' := [some (.ref 386), some (.int x208), none]) dX9_slacking_16 rfl rfl rfl rfl ?_
            refine w_lo dX9_slacking_17 rfl rfl rfl rfl ?_
            refine w_me (st' := [.long (24948 : Int64), .ref 386]) dX9_slacking_18 rfl rfl rfl rfl rfl ?_
            refine w_iv dX9_slacking_21 rfl rfl (As := [.long (24948 : Int64)]) rfl rfl hJ417.1.1 zs_386 (Nat.le_of_ble_eq_true rfl) ?_
            refine ZV.imp (k_2321 hN hJ417.1) ?_
            rintro _ ⟨M418, rfl, hJ419, hq420⟩
            have hJ421 := zJ_trans hJ417 hJ419 (zSub_cons (fun _ _ h h' hk => zIR_s (zIR_e (by omega) (by omega) hk)) (zSub_cons (fun _ _ h h' hk => zIR_s (zIR_s (zIR_e (by omega) (by omega) hk))) (zSub_cons (fun _ _ h h' hk => zIR_s (zIR_s (zIR_s (zIR_e (by omega) (by omega) hk)))) (zSub_cons (fun _ _ h h' hk => zIR_s (zIR_s (zIR_s (zIR_s (zIR_e (by omega) (by omega) hk))))) (zSub_cons (fun _ _ h h' hk => zIR_s (zIR_s (zIR_s (zIR_s (zIR_s (zIR_e (by omega) (by omega) hk)))))) (zSub_cons (fun _ _ h h' hk => zIR_s (zIR_s (zIR_s (zIR_s (zIR_s (zIR_s (zIR_e (by omega) (by omega) hk))))))) (zSub_cons (fun _ _ h h' hk => zIR_s (zIR_s (zIR_s (zIR_s (zIR_s (zIR_s (zIR_s (zIR_e (by omega) (by omega) hk)))))))) zSub_nil)))))))
            show ZW _ _ _ _ _ _ _ (24, [some (.ref 386), some (.int x208), none], [], M418)
            refine w_lo dX9_slacking_24 rfl rfl rfl rfl ?_
            refine w_ic dX9_slacking_25 zi_0 ?_
            refine w_bi dX9_slacking_26 (c := 10) (by decide) ?_
            refine w_iv dX9_slacking_28 rfl rfl (As := [.int 0, .int 10]) rfl rfl hJ421.1.1 zs_386 (Nat.le_of_ble_eq_true rfl) ?_
            refine ZV.of (ini := false) rfl (Nat.le_of_ble_eq_true rfl) (by decide +kernel) ?_
            show ZW _ _ _ _ _ _ _ (0, [some (.ref 386), some (.int 0), some (.int 10), none], [], M418)
            refine w_lo dX9_number_0 rfl rfl rfl rfl ?_
            refine w_gfi dX9_number_1 rfl hJ421.1 zs_386 (Nat.le_of_ble_eq_true rfl) zo_386_8 ?_
            intro x422 f423 h424 h425
            rcases zcut (0 : Int) x422.toInt with h426 | h426
            · skip
              refine w_ile_f dX9_number_4 (t := 9) rfl (by omega) ?_
              refine w_ic dX9_number_7 zi_0 ?_
              refine w_en dX9_number_8 rfl ?_
              show ZW _ _ _ _ _ _ _ (31, [some (.ref 386), some (.int x208), none], [.int 0], M418)
              refine w_lo (ml' := [some (.ref 386), some (.int x208), some (.int 0)]) dX9_slacking_31 rfl rfl rfl rfl ?_
              refine w_lo dX9_slacking_32 rfl rfl rfl rfl ?_
              refine w_gf dX9_slacking_33 rfl hJ421.1.1 zs_386 f423 ?_
              refine w_ine_t dX9_slacking_36 (t := 54) rfl (by omega) ?_
              refine w_en dX9_slacking_54 rfl ?_
              exact ⟨_, rfl, hJ421, trivial⟩
            · skip
              refine w_ile_t dX9_number_4 (t := 9) rfl (by omega) ?_
              refine w_lo dX9_number_9 rfl rfl rfl rfl ?_
              refine w_gfi dX9_number_10 rfl hJ421.1 zs_386 (Nat.le_of_ble_eq_true rfl) zo_386_3 ?_
              intro x427 f428 h429 h430
              refine w_ic dX9_number_13 zi_2 ?_
              rcases Int.decEq x427.toInt (2 : Int) with h431 | h431
              · skip
                refine w_ceq_f dX9_number_14 (t := 26) rfl (by have := zt_2; omega) ?_
                refine w_lo dX9_number_17 rfl rfl rfl rfl ?_
                refine w_ic dX9_number_18 zi_1 ?_
                refine w_lo dX9_number_19 rfl rfl rfl rfl ?_
                refine w_gfi dX9_number_20 rfl hJ421.1 zs_386 (Nat.le_of_ble_eq_true rfl) zo_386_4 ?_
                intro x432 f433 h434 h435
                refine w_iv dX9_number_23 rfl rfl (As := [.int 1, .int x432]) rfl rfl hJ421.1.1 zs_386 (Nat.le_of_ble_eq_true rfl) ?_
                refine ZV.of (ini := false) rfl (Nat.le_of_ble_eq_true rfl) (by decide +kernel) ?_
                show ZW _ _ _ _ _ _ _ (0, [some (.ref 386), some (.int 1), some (.int x432)], [], M418)
                refine w_lo dX9_blame_0 rfl rfl rfl rfl ?_
                refine w_gf dX9_blame_1 rfl hJ421.1.1 zs_386 f423 ?_
                refine w_ile_t dX9_blame_4 (t := 8) rfl (by omega) ?_
                refine w_lo dX9_blame_8 rfl rfl rfl rfl ?_
                refine w_lo dX9_blame_9 rfl rfl rfl rfl ?_
                refine w_pfi dX9_blame_10 rfl hJ421 zs_386 (Nat.le_of_ble_eq_true rfl) zo_386_8 (by have := zt_1; omega) (by have := zt_1; omega) (zIR_s (zIR_s (zIR_s (zIR_s (zIR_s (zIR_s (zIR_k (by omega) (by omega)))))))) rfl rfl rfl ?_
                intro M436 hJ437 f438 hn439
                refine w_lo dX9_blame_13 rfl rfl rfl rfl ?_
                refine w_lo dX9_blame_14 rfl rfl rfl rfl ?_
                refine w_pfi dX9_blame_15 rfl hJ437 zs_386 (Nat.le_of_ble_eq_true rfl) zo_386_9 (by omega) (by omega) (zIR_s (zIR_s (zIR_s (zIR_s (zIR_s (zIR_s (zIR_s (zIR_k (by omega) (by omega))))))))) rfl rfl rfl ?_
                intro M440 hJ441 f442 hn443
                refine w_en dX9_blame_18 rfl ?_
                show ZW _ _ _ _ _ _ _ (26, [some (.ref 386), some (.int 0), some (.int 10), none], [], M440)
                refine w_lo dX9_number_26 rfl rfl rfl rfl ?_
                have f444 := (hn443 (386) 8 (Or.inr (by decide))).trans (f438)
                refine w_gf dX9_number_27 rfl hJ441.1.1 zs_386 f444 ?_
                refine w_ine_t dX9_number_30 (t := 54) rfl (by have := zt_1; omega) ?_
                refine w_lo dX9_number_54 rfl rfl rfl rfl ?_
                refine w_gfi dX9_number_55 rfl hJ441.1 zs_386 (Nat.le_of_ble_eq_true rfl) zo_386_6 ?_
                intro x445 f446 h447 h448
                refine w_lo (ml' := [some (.ref 386), some (.int 0), some (.int 10), some (.int x445)]) dX9_number_58 rfl rfl rfl rfl ?_
                refine w_lo dX9_number_59 rfl rfl rfl rfl ?_
                refine w_gf dX9_number_60 rfl hJ441.1.1 zs_386 f444 ?_
                refine w_ine_t dX9_number_63 (t := 70) rfl (by have := zt_1; omega) ?_
                refine w_lo dX9_number_70 rfl rfl rfl rfl ?_
                refine w_eni dX9_number_71 rfl rfl ?_
                show ZW _ _ _ _ _ _ _ (31, [some (.ref 386), some (.int x208), none], [.int x445], M440)
                refine w_lo (ml' := [some (.ref 386), some (.int x208), some (.int x445)]) dX9_slacking_31 rfl rfl rfl rfl ?_
                refine w_lo dX9_slacking_32 rfl rfl rfl rfl ?_
                refine w_gf dX9_slacking_33 rfl hJ441.1.1 zs_386 f444 ?_
                refine w_ine_t dX9_slacking_36 (t := 54) rfl (by have := zt_1; omega) ?_
                refine w_en dX9_slacking_54 rfl ?_
                exact ⟨_, rfl, hJ441, trivial⟩
              · skip
                refine w_ceq_t dX9_number_14 (t := 26) rfl (by have := zt_2; omega) ?_
                refine w_lo dX9_number_26 rfl rfl rfl rfl ?_
                refine w_gf dX9_number_27 rfl hJ421.1.1 zs_386 f423 ?_
                refine w_ine_f dX9_number_30 (t := 54) rfl (by omega) ?_
                refine w_lo dX9_number_33 rfl rfl rfl rfl ?_
                refine w_gfi dX9_number_34 rfl hJ421.1 zs_386 (Nat.le_of_ble_eq_true rfl) zo_386_6 ?_
                intro x449 f450 h451 h452
                refine w_lo dX9_number_37 rfl rfl rfl rfl ?_
                refine w_lo dX9_number_38 rfl rfl rfl rfl ?_
                refine w_ss dX9_number_39 rfl rfl (As := [.int x449, .int 0, .int 10]) rfl rfl (Nat.le_of_ble_eq_true rfl) ?_
                refine ZV.of (ini := false) rfl (Nat.le_of_ble_eq_true rfl) (by decide +kernel) ?_
                show ZW _ _ _ _ _ _ _ (0, [some (.int x449), some (.int 0), some (.int 10)], [], M418)
                refine w_lo dX9_is_0 rfl rfl rfl rfl ?_
                refine w_lo dX9_is_1 rfl rfl rfl rfl ?_
                rcases zcut x449.toInt (0 : Int) with h453 | h453
                · skip
                  refine w_clt_t dX9_is_2 (t := 14) rfl (by have := zt_0; omega) ?_
                  refine w_ic dX9_is_14 zi_0 ?_
                  refine w_en dX9_is_15 rfl ?_
                  show ZW _ _ _ _ _ _ _ (42, [some (.ref 386), some (.int 0), some (.int 10), none], [.int 0], M418)
                  refine w_ine_f dX9_number_42 (t := 54) rfl (by have := zt_0; omega) ?_
                  refine w_lo dX9_number_45 rfl rfl rfl rfl ?_
                  refine w_ic dX9_number_46 zi_4 ?_
                  refine w_lo dX9_number_47 rfl rfl rfl rfl ?_
                  refine w_gfi dX9_number_48 rfl hJ421.1 zs_386 (Nat.le_of_ble_eq_true rfl) zo_386_4 ?_
                  intro x454 f455 h456 h457
                  refine w_iv dX9_number_51 rfl rfl (As := [.int 4, .int x454]) rfl rfl hJ421.1.1 zs_386 (Nat.le_of_ble_eq_true rfl) ?_
                  refine ZV.of (ini := false) rfl (Nat.le_of_ble_eq_true rfl) (by decide +kernel) ?_
                  show ZW _ _ _ _ _ _ _ (0, [some (.ref 386), some (.int 4), some (.int x454)], [], M418)
                  refine w_lo dX9_blame_0 rfl rfl rfl rfl ?_
                  refine w_gf dX9_blame_1 rfl hJ421.1.1 zs_386 f423 ?_
                  refine w_ile_t dX9_blame_4 (t := 8) rfl (by omega) ?_
                  refine w_lo dX9_blame_8 rfl rfl rfl rfl ?_
                  refine w_lo dX9_blame_9 rfl rfl rfl rfl ?_
                  refine w_pfi dX9_blame_10 rfl hJ421 zs_386 (Nat.le_of_ble_eq_true rfl) zo_386_8 (by have := zt_4; omega) (by have := zt_4; omega) (zIR_s (zIR_s (zIR_s (zIR_s (zIR_s (zIR_s (zIR_k (by omega) (by omega)))))))) rfl rfl rfl ?_
                  intro M458 hJ459 f460 hn461
                  refine w_lo dX9_blame_13 rfl rfl rfl rfl ?_
                  refine w_lo dX9_blame_14 rfl rfl rfl rfl ?_
                  refine w_pfi dX9_blame_15 rfl hJ459 zs_386 (Nat.le_of_ble_eq_true rfl) zo_386_9 (by omega) (by omega) (zIR_s (zIR_s (zIR_s (zIR_s (zIR_s (zIR_s (zIR_s (zIR_k (by omega) (by omega))))))))) rfl rfl rfl ?_
                  intro M462 hJ463 f464 hn465
                  refine w_en dX9_blame_18 rfl ?_
                  show ZW _ _ _ _ _ _ _ (54, [some (.ref 386), some (.int 0), some (.int 10), none], [], M462)
                  refine w_lo dX9_number_54 rfl rfl rfl rfl ?_
                  have f466 := (hn465 (386) 6 (Or.inr (by decide))).trans ((hn461 (386) 6 (Or.inr (by decide))).trans (f450))
                  refine w_gf dX9_number_55 rfl hJ463.1.1 zs_386 f466 ?_
                  refine w_lo (ml' := [some (.ref 386), some (.int 0), some (.int 10), some (.int x449)]) dX9_number_58 rfl rfl rfl rfl ?_
                  refine w_lo dX9_number_59 rfl rfl rfl rfl ?_
                  have f467 := (hn465 (386) 8 (Or.inr (by decide))).trans (f460)
                  refine w_gf dX9_number_60 rfl hJ463.1.1 zs_386 f467 ?_
                  refine w_ine_t dX9_number_63 (t := 70) rfl (by have := zt_4; omega) ?_
                  refine w_lo dX9_number_70 rfl rfl rfl rfl ?_
                  refine w_eni dX9_number_71 rfl rfl ?_
                  show ZW _ _ _ _ _ _ _ (31, [some (.ref 386), some (.int x208), none], [.int x449], M462)
                  refine w_lo (ml' := [some (.ref 386), some (.int x208), some (.int x449)]) dX9_slacking_31 rfl rfl rfl rfl ?_
                  refine w_lo dX9_slacking_32 rfl rfl rfl rfl ?_
                  refine w_gf dX9_slacking_33 rfl hJ463.1.1 zs_386 f467 ?_
                  refine w_ine_t dX9_slacking_36 (t := 54) rfl (by have := zt_4; omega) ?_
                  refine w_en dX9_slacking_54 rfl ?_
                  exact ⟨_, rfl, hJ463, trivial⟩
                · skip
                  refine w_clt_f dX9_is_2 (t := 14) rfl (by have := zt_0; omega) ?_
                  refine w_lo dX9_is_5 rfl rfl rfl rfl ?_
                  refine w_lo dX9_is_6 rfl rfl rfl rfl ?_
                  rcases zcut (10 : Int) x449.toInt with h468 | h468
                  · skip
                    refine w_cgt_t dX9_is_7 (t := 14) rfl (by have := zt_10; omega) ?_
                    refine w_ic dX9_is_14 zi_0 ?_
                    refine w_en dX9_is_15 rfl ?_
                    show ZW _ _ _ _ _ _ _ (42, [some (.ref 386), some (.int 0), some (.int 10), none], [.int 0], M418)
                    refine w_ine_f dX9_number_42 (t := 54) rfl (by have := zt_0; omega) ?_
                    refine w_lo dX9_number_45 rfl rfl rfl rfl ?_
                    refine w_ic dX9_number_46 zi_4 ?_
                    refine w_lo dX9_number_47 rfl rfl rfl rfl ?_
                    refine w_gfi dX9_number_48 rfl hJ421.1 zs_386 (Nat.le_of_ble_eq_true rfl) zo_386_4 ?_
                    intro x469 f470 h471 h472
                    refine w_iv dX9_number_51 rfl rfl (As := [.int 4, .int x469]) rfl rfl hJ421.1.1 zs_386 (Nat.le_of_ble_eq_true rfl) ?_
                    refine ZV.of (ini := false) rfl (Nat.le_of_ble_eq_true rfl) (by decide +kernel) ?_
                    show ZW _ _ _ _ _ _ _ (0, [some (.ref 386), some (.int 4), some (.int x469)], [], M418)
                    refine w_lo dX9_blame_0 rfl rfl rfl rfl ?_
                    refine w_gf dX9_blame_1 rfl hJ421.1.1 zs_386 f423 ?_
                    refine w_ile_t dX9_blame_4 (t := 8) rfl (by omega) ?_
                    refine w_lo dX9_blame_8 rfl rfl rfl rfl ?_
                    refine w_lo dX9_blame_9 rfl rfl rfl rfl ?_
                    refine w_pfi dX9_blame_10 rfl hJ421 zs_386 (Nat.le_of_ble_eq_true rfl) zo_386_8 (by have := zt_4; omega) (by have := zt_4; omega) (zIR_s (zIR_s (zIR_s (zIR_s (zIR_s (zIR_s (zIR_k (by omega) (by omega)))))))) rfl rfl rfl ?_
                    intro M473 hJ474 f475 hn476
                    refine w_lo dX9_blame_13 rfl rfl rfl rfl ?_
                    refine w_lo dX9_blame_14 rfl rfl rfl rfl ?_
                    refine w_pfi dX9_blame_15 rfl hJ474 zs_386 (Nat.le_of_ble_eq_true rfl) zo_386_9 (by omega) (by omega) (zIR_s (zIR_s (zIR_s (zIR_s (zIR_s (zIR_s (zIR_s (zIR_k (by omega) (by omega))))))))) rfl rfl rfl ?_
                    intro M477 hJ478 f479 hn480
                    refine w_en dX9_blame_18 rfl ?_
                    show ZW _ _ _ _ _ _ _ (54, [some (.ref 386), some (.int 0), some (.int 10), none], [], M477)
                    refine w_lo dX9_number_54 rfl rfl rfl rfl ?_
                    have f481 := (hn480 (386) 6 (Or.inr (by decide))).trans ((hn476 (386) 6 (Or.inr (by decide))).trans (f450))
                    refine w_gf dX9_number_55 rfl hJ478.1.1 zs_386 f481 ?_
                    refine w_lo (ml' := [some (.ref 386), some (.int 0), some (.int 10), some (.int x449)]) dX9_number_58 rfl rfl rfl rfl ?_
                    refine w_lo dX9_number_59 rfl rfl rfl rfl ?_
                    have f482 := (hn480 (386) 8 (Or.inr (by decide))).trans (f475)
                    refine w_gf dX9_number_60 rfl hJ478.1.1 zs_386 f482 ?_
                    refine w_ine_t dX9_number_63 (t := 70) rfl (by have := zt_4; omega) ?_
                    refine w_lo dX9_number_70 rfl rfl rfl rfl ?_
                    refine w_eni dX9_number_71 rfl rfl ?_
                    show ZW _ _ _ _ _ _ _ (31, [some (.ref 386), some (.int x208), none], [.int x449], M477)
                    refine w_lo (ml' := [some (.ref 386), some (.int x208), some (.int x449)]) dX9_slacking_31 rfl rfl rfl rfl ?_
                    refine w_lo dX9_slacking_32 rfl rfl rfl rfl ?_
                    refine w_gf dX9_slacking_33 rfl hJ478.1.1 zs_386 f482 ?_
                    refine w_ine_t dX9_slacking_36 (t := 54) rfl (by have := zt_4; omega) ?_
                    refine w_en dX9_slacking_54 rfl ?_
                    exact ⟨_, rfl, hJ478, trivial⟩
                  · skip
                    refine w_cgt_f dX9_is_7 (t := 14) rfl (by have := zt_10; omega) ?_
                    refine w_ic dX9_is_10 zi_1 ?_
                    refine w_gt dX9_is_11 (t := 15) rfl ?_
                    refine w_en dX9_is_15 rfl ?_
                    show ZW _ _ _ _ _ _ _ (42, [some (.ref 386), some (.int 0), some (.int 10), none], [.int 1], M418)
                    refine w_ine_t dX9_number_42 (t := 54) rfl (by have := zt_1; omega) ?_
                    refine w_lo dX9_number_54 rfl rfl rfl rfl ?_
                    refine w_gf dX9_number_55 rfl hJ421.1.1 zs_386 f450 ?_
                    refine w_lo (ml' := [some (.ref 386), some (.int 0), some (.int 10), some (.int x449)]) dX9_number_58 rfl rfl rfl rfl ?_
                    refine w_lo dX9_number_59 rfl rfl rfl rfl ?_
                    refine w_gf dX9_number_60 rfl hJ421.1.1 zs_386 f423 ?_
                    refine w_ine_f dX9_number_63 (t := 70) rfl (by omega) ?_
                    refine w_lo dX9_number_66 rfl rfl rfl rfl ?_
                    refine w_iv dX9_number_67 rfl rfl (As := []) rfl rfl hJ421.1.1 zs_386 (Nat.le_of_ble_eq_true rfl) ?_
                    refine ZV.imp (k_2310 hN hJ421.1) ?_
                    rintro _ ⟨M483, rfl, hJ484, hq485⟩
                    have hJ486 := zJ_trans hJ421 hJ484 (zSub_cons (fun _ _ h h' hk => zIR_s (zIR_e (by omega) (by omega) hk)) (zSub_cons (fun _ _ h h' hk => zIR_s (zIR_s (zIR_e (by omega) (by omega) hk))) (zSub_cons (fun _ _ h h' hk => zIR_s (zIR_s (zIR_s (zIR_e (by omega) (by omega) hk)))) (zSub_cons (fun _ _ h h' hk => zIR_s (zIR_s (zIR_s (zIR_s (zIR_e (by omega) (by omega) hk))))) (zSub_cons (fun _ _ h h' hk => zIR_s (zIR_s (zIR_s (zIR_s (zIR_s (zIR_e (by omega) (by omega) hk)))))) (zSub_cons (fun _ _ h h' hk => zIR_s (zIR_s (zIR_s (zIR_s (zIR_s (zIR_s (zIR_e (by omega) (by omega) hk))))))) (zSub_cons (fun _ _ h h' hk => zIR_s (zIR_s (zIR_s (zIR_s (zIR_s (zIR_s (zIR_s (zIR_e (by omega) (by omega) hk)))))))) zSub_nil)))))))
                    show ZW _ _ _ _ _ _ _ (70, [some (.ref 386), some (.int 0), some (.int 10), some (.int x449)], [], M483)
                    refine w_lo dX9_number_70 rfl rfl rfl rfl ?_
                    refine w_eni dX9_number_71 rfl rfl ?_
                    show ZW _ _ _ _ _ _ _ (31, [some (.ref 386), some (.int x208), none], [.int x449], M483)
                    refine w_lo (ml' := [some (.ref 386), some (.int x208), some (.int x449)]) dX9_slacking_31 rfl rfl rfl rfl ?_
                    refine w_lo dX9_slacking_32 rfl rfl rfl rfl ?_
                    refine w_gfi dX9_slacking_33 rfl hJ486.1 zs_386 (Nat.le_of_ble_eq_true rfl) zo_386_8 ?_
                    intro x487 f488 h489 h490
                    rcases Int.decEq x487.toInt (0 : Int) with h491 | h491
                    · skip
                      refine w_ine_t dX9_slacking_36 (t := 54) rfl (by omega) ?_
                      refine w_en dX9_slacking_54 rfl ?_
                      exact ⟨_, rfl, hJ486, trivial⟩
                    · skip
                      refine w_ine_f dX9_slacking_36 (t := 54) rfl (by omega) ?_
                      refine w_lo dX9_slacking_39 rfl rfl rfl rfl ?_
                      refine w_gf dX9_slacking_40 rfl hJ486.1.1 zs_386 (zr_386_20 hJ486.1) ?_
                      refine w_bi dX9_slacking_43 (c := 11) (by decide) ?_
                      refine w_lo dX9_slacking_45 rfl rfl rfl rfl ?_
                      refine w_gfi dX9_slacking_46 rfl hJ486.1 zs_386 (Nat.le_of_ble_eq_true rfl) zo_386_35 ?_
                      intro x492 f493 h494 h495
                      refine w_mulc dX9_slacking_49 zt_11 (by have := zt_11; omega) ?_
                      intro x496 h497
                      have := zt_11
                      refine w_lo dX9_slacking_50 rfl rfl rfl rfl ?_
                      refine w_add dX9_slacking_51 (by omega) ?_
                      intro x498 h499
                      refine w_lo dX9_slacking_52 rfl rfl rfl rfl ?_
                      refine w_isi dX9_slacking_53 hJ486 zs_395 (by omega) (by omega) zu_395 (zbot _) (ztop _) (zIR_a (by omega) (by omega)) ?_
                      intro M500 hJ501 f502 hn503
                      refine w_en dX9_slacking_54 rfl ?_
                      exact ⟨_, rfl, hJ501, trivial⟩
  · skip
    refine w_ine_f dX9_slacking_5 (t := 9) rfl (by omega) ?_
    refine w_en dX9_slacking_8 rfl ?_
    exact ⟨_, rfl, hJ7, trivial⟩
