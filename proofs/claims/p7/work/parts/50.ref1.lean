/-! the reference's methods come to an end, within the box (wip/safe/mks.py) -/
set_option maxRecDepth 100000 in
theorem k_2306 {X : List Int32} {d N : Nat} {M0 : zM} (a0 : Int32) (ha00 : (0 : Int) ≤ a0.toInt) (ha01 : a0.toInt ≤ 5) (hN : N ≤ 600) (hB0 : zB N M0) : ZV X (d + 1) 2306 [.ref 386, .int a0] M0 (zRI N [(415, 416, 1000)] M0 (-1) (-1) (fun _ _ => True)) := by
  have hJ0 : zJ N [(415, 416, 1000)] M0 M0 := zJ_refl hB0
  refine ZV.of (ini := false) rfl (Nat.le_of_ble_eq_true rfl) (by decide +kernel) ?_
  show ZW _ _ _ _ _ _ _ (0, [some (.ref 386), some (.int a0)], [], M0)
  refine w_lo dX9_refuses_0 rfl rfl rfl rfl ?_
  refine w_gf dX9_refuses_1 rfl hJ0.1.1 zs_386 (zr_386_46 hJ0.1) ?_
  refine w_lo dX9_refuses_4 rfl rfl rfl rfl ?_
  refine w_pu dX9_refuses_5 rfl rfl ?_
  refine w_iai dX9_refuses_6 hJ0.1 zs_415 (by omega) (by omega) zu_415 ?_
  intro x4 f1 h2 h3
  refine w_ic dX9_refuses_7 zi_1 ?_
  refine w_puI dX9_refuses_8 rfl rfl ?_
  intro x5
  refine w_isi dX9_refuses_9 hJ0 zs_415 (by omega) (by omega) zu_415 (zbot _) (ztop _) (zIR_a (by omega) (by omega)) ?_
  intro M6 hJ7 f8 hn9
  refine w_ic dX9_refuses_10 zi_m1 ?_
  refine w_en dX9_refuses_11 rfl ?_
  exact ⟨_, _, rfl, (by have := zt_m1; omega), (by have := zt_m1; omega), hJ7, trivial⟩
set_option maxRecDepth 100000 in
theorem k_2307 {X : List Int32} {d N : Nat} {M0 : zM} (a0 : Int32) (lv : Int32) (hflv : zvl M0 (386) 1 = some (.int lv)) (hrlv0 : 0 ≤ lv.toInt) (hrlv1 : lv.toInt + 4 ≤ 1600) (hN : N ≤ 600) (hB0 : zB N M0) : ZV X (d + 1) 2307 [.ref 386, .int a0] M0 (zRV N [(386, 387, 1), (387, 388, 1000)] M0 (fun M' => (∃ w : Int32, zvl M' (386) 1 = some (.int w) ∧ (w.toInt = lv.toInt + 4) ∧ True))) := by
  have hJ0 : zJ N [(386, 387, 1), (387, 388, 1000)] M0 M0 := zJ_refl hB0
  refine ZV.of (ini := false) rfl (Nat.le_of_ble_eq_true rfl) (by decide +kernel) ?_
  have main : ∀ n : Nat,
      (∀ (M : zM) (v3_1 : Int32) (v3_2 : Int32) (t_3 : Int32), zJ N [(386, 387, 1), (387, 388, 1000)] M0 M → ((-2147483648 : Int) ≤ v3_1.toInt) → (v3_1.toInt ≤ 2147483647) → ((-8 : Int) ≤ v3_2.toInt) → (v3_2.toInt ≤ 24) → (zvl M (386) 1 = some (.int t_3)) → (8 * (t_3.toInt - lv.toInt) = 24 - v3_2.toInt) → 3 * (v3_2.toInt - (-8)) + 1 < (n : Int) → ZW X (d + 0) 9 false none cX9_put (zRV N [(386, 387, 1), (387, 388, 1000)] M0 (fun M' => (∃ w : Int32, zvl M' (386) 1 = some (.int w) ∧ (w.toInt = lv.toInt + 4) ∧ True))) (3, [some (.ref 386), some (.int v3_1), some (.int v3_2)], [], M)) := by
    intro n
    induction n with
    | zero =>
      exact (fun M v3_1 v3_2 t_3 hJ v3_10 v3_11 v3_20 v3_21 hft_3 hrt_30 hn => absurd hn (by omega))
    | succ n ih =>
      have ih3 := ih
      · intro M v3_1 v3_2 t_3 hJ v3_10 v3_11 v3_20 v3_21 hft_3 hrt_30 hn
        refine w_lo dX9_put_3 rfl rfl rfl rfl ?_
        rcases zcut v3_2.toInt (0 : Int) with h1 | h1
        · skip
          refine w_ilt_t dX9_put_4 (t := 39) rfl (by omega) ?_
          refine w_en dX9_put_39 rfl ?_
          exact ⟨_, rfl, hJ, ⟨t_3, hft_3, (by omega), trivial⟩⟩
        · skip
          refine w_ilt_f dX9_put_4 (t := 39) rfl (by omega) ?_
          refine w_lo dX9_put_7 rfl rfl rfl rfl ?_
          refine w_gf dX9_put_8 rfl hJ.1.1 zs_386 (zr_386_0 hJ.1) ?_
          refine w_lo dX9_put_11 rfl rfl rfl rfl ?_
          refine w_gf dX9_put_12 rfl hJ.1.1 zs_386 hft_3 ?_
          refine w_lo dX9_put_15 rfl rfl rfl rfl ?_
          refine w_lo dX9_put_16 rfl rfl rfl rfl ?_
          refine w_puI dX9_put_17 rfl rfl ?_
          intro x2
          refine w_si dX9_put_18 (c := 255) (by decide) ?_
          refine w_and dX9_put_21 (m := 255) zt_255 (by omega) ?_
          intro x3 h4 h5
          refine w_isi dX9_put_22 hJ zs_387 (by omega) (by omega) zu_387 (by omega) (by omega) (zIR_s (zIR_a (by omega) (by omega))) ?_
          intro M6 hJ7 f8 hn9
          refine w_lo dX9_put_23 rfl rfl rfl rfl ?_
          refine w_pu dX9_put_24 rfl rfl ?_
          have f10 := (hn9 (386) 1 (Or.inl (by omega))).trans (hft_3)
          refine w_gf dX9_put_25 rfl hJ7.1.1 zs_386 f10 ?_
          refine w_ic dX9_put_28 zi_1 ?_
          refine w_add dX9_put_29 (by have := zt_1; omega) ?_
          intro x11 h12
          have := zt_1
          refine w_pfi dX9_put_30 rfl hJ7 zs_386 (Nat.le_of_ble_eq_true rfl) zo_386_1 (by omega) (by omega) (zIR_k (by omega) (by omega)) rfl rfl rfl ?_
          intro M13 hJ14 f15 hn16
          refine w_inc (kk := 2) dX9_put_33 rfl (m := -8) (by decide) (by omega) ?_
          intro x17 h18
          refine ⟨_, rfl, ?_⟩
          show ZW _ _ _ _ _ _ _ (36, [some (.ref 386), some (.int v3_1), some (.int x17)], [], M13)
          refine w_gt dX9_put_36 (t := 3) rfl ?_
          exact ih3 M13 v3_1 x17 x11 hJ14 (zbot _) (ztop _) (by omega) (by omega) f15 (by omega) (by omega)
  have ih3 := main 108
  show ZW _ _ _ _ _ _ _ (0, [some (.ref 386), some (.int a0), none], [], M0)
  refine w_bi dX9_put_0 (c := 24) (by decide) ?_
  refine w_lo (ml' := [some (.ref 386), some (.int a0), some (.int 24)]) dX9_put_2 rfl rfl rfl rfl ?_
  exact ih3 M0 a0 24 lv hJ0 (zbot _) (ztop _) (by have := zt_24; omega) (by have := zt_24; omega) hflv (by have := zt_24; omega) (by have := zt_24; omega)
set_option maxRecDepth 100000 in
theorem k_2305 {X : List Int32} {d N : Nat} {M0 : zM} (a0 : Int32) (a1 : Int32) (a2 : Int32) (a3 : Int32) (a4 : Int32) (lv : Int32) (hflv : zvl M0 (386) 1 = some (.int lv)) (hrlv0 : 0 ≤ lv.toInt) (hrlv1 : lv.toInt ≤ 1600) (hN : N ≤ 600) (hB0 : zB N M0) : ZV X (d + 2) 2305 [.ref 386, .int a0, .int a1, .int a2, .int a3, .int a4] M0 (zRI N [(386, 387, 1), (387, 388, 1000), (415, 416, 1000)] M0 (-1) (1600) (fun v M' => (∃ w : Int32, zvl M' (386) 1 = some (.int w) ∧ (lv.toInt + 20 ≤ 1600 ∧ w.toInt = lv.toInt + 20 ∧ v.toInt = w.toInt ∨ 1600 < lv.toInt + 20 ∧ w.toInt = lv.toInt ∧ v.toInt = -1) ∧ True))) := by
  have hJ0 : zJ N [(386, 387, 1), (387, 388, 1000), (415, 416, 1000)] M0 M0 := zJ_refl hB0
  refine ZV.of (ini := false) rfl (Nat.le_of_ble_eq_true rfl) (by decide +kernel) ?_
  show ZW _ _ _ _ _ _ _ (0, [some (.ref 386), some (.int a0), some (.int a1), some (.int a2), some (.int a3), some (.int a4)], [], M0)
  refine w_lo dX9_feed_0 rfl rfl rfl rfl ?_
  refine w_gf dX9_feed_1 rfl hJ0.1.1 zs_386 hflv ?_
  refine w_bi dX9_feed_4 (c := 20) (by decide) ?_
  refine w_add dX9_feed_6 (by have := zt_20; omega) ?_
  intro x1 h2
  have := zt_20
  refine w_si dX9_feed_7 (c := 1600) (by decide) ?_
  rcases zcut (1600 : Int) x1.toInt with h3 | h3
  · skip
    refine w_cle_f dX9_feed_10 (t := 19) rfl (by have := zt_1600; omega) ?_
    refine w_lo dX9_feed_13 rfl rfl rfl rfl ?_
    refine w_ic dX9_feed_14 zi_0 ?_
    refine w_iv dX9_feed_15 rfl rfl (As := [.int 0]) rfl rfl hJ0.1.1 zs_386 (Nat.le_of_ble_eq_true rfl) ?_
    refine ZV.imp (k_2306 0 (by have := zt_0; omega) (by have := zt_0; omega) hN hJ0.1) ?_
    rintro _ ⟨x7, M4, rfl, h8, h9, hJ5, hq6⟩
    have hJ10 := zJ_trans hJ0 hJ5 (zSub_cons (fun _ _ h h' hk => zIR_s (zIR_s (zIR_a (by omega) (by omega)))) zSub_nil)
    show ZW _ _ _ _ _ _ _ (18, [some (.ref 386), some (.int a0), some (.int a1), some (.int a2), some (.int a3), some (.int a4)], [.int x7], M4)
    refine w_eni dX9_feed_18 rfl rfl ?_
    have f11 := (hJ5.2 (386) 1 (zNI (by omega) zNI_nil)).trans (hflv)
    exact ⟨_, _, rfl, (by omega), (by omega), hJ10, ⟨lv, f11, (by omega), trivial⟩⟩
  · skip
    refine w_cle_t dX9_feed_10 (t := 19) rfl (by have := zt_1600; omega) ?_
    refine w_lo dX9_feed_19 rfl rfl rfl rfl ?_
    refine w_lo dX9_feed_20 rfl rfl rfl rfl ?_
    refine w_iv dX9_feed_21 rfl rfl (As := [.int a0]) rfl rfl hJ0.1.1 zs_386 (Nat.le_of_ble_eq_true rfl) ?_
    refine ZV.imp (k_2307 a0 lv hflv (by omega) (by omega) hN hJ0.1) ?_
    rintro _ ⟨M12, rfl, hJ13, hq14⟩
    have hJ15 := zJ_trans hJ0 hJ13 (zSub_cons (fun _ _ h h' hk => zIR_e (by omega) (by omega) hk) (zSub_cons (fun _ _ h h' hk => zIR_s (zIR_a (by omega) (by omega))) zSub_nil))
    obtain ⟨x16, f17, h18, -⟩ := hq14
    show ZW _ _ _ _ _ _ _ (24, [some (.ref 386), some (.int a0), some (.int a1), some (.int a2), some (.int a3), some (.int a4)], [], M12)
    refine w_lo dX9_feed_24 rfl rfl rfl rfl ?_
    refine w_lo dX9_feed_25 rfl rfl rfl rfl ?_
    refine w_iv dX9_feed_26 rfl rfl (As := [.int a1]) rfl rfl hJ15.1.1 zs_386 (Nat.le_of_ble_eq_true rfl) ?_
    refine ZV.imp (k_2307 a1 x16 f17 (by omega) (by omega) hN hJ15.1) ?_
    rintro _ ⟨M19, rfl, hJ20, hq21⟩
    have hJ22 := zJ_trans hJ15 hJ20 (zSub_cons (fun _ _ h h' hk => zIR_e (by omega) (by omega) hk) (zSub_cons (fun _ _ h h' hk => zIR_s (zIR_a (by omega) (by omega))) zSub_nil))
    obtain ⟨x23, f24, h25, -⟩ := hq21
    show ZW _ _ _ _ _ _ _ (29, [some (.ref 386), some (.int a0), some (.int a1), some (.int a2), some (.int a3), some (.int a4)], [], M19)
    refine w_lo dX9_feed_29 rfl rfl rfl rfl ?_
    refine w_lo dX9_feed_30 rfl rfl rfl rfl ?_
    refine w_iv dX9_feed_31 rfl rfl (As := [.int a2]) rfl rfl hJ22.1.1 zs_386 (Nat.le_of_ble_eq_true rfl) ?_
    refine ZV.imp (k_2307 a2 x23 f24 (by omega) (by omega) hN hJ22.1) ?_
    rintro _ ⟨M26, rfl, hJ27, hq28⟩
    have hJ29 := zJ_trans hJ22 hJ27 (zSub_cons (fun _ _ h h' hk => zIR_e (by omega) (by omega) hk) (zSub_cons (fun _ _ h h' hk => zIR_s (zIR_a (by omega) (by omega))) zSub_nil))
    obtain ⟨x30, f31, h32, -⟩ := hq28
    show ZW _ _ _ _ _ _ _ (34, [some (.ref 386), some (.int a0), some (.int a1), some (.int a2), some (.int a3), some (.int a4)], [], M26)
    refine w_lo dX9_feed_34 rfl rfl rfl rfl ?_
    refine w_lo dX9_feed_35 rfl rfl rfl rfl ?_
    refine w_iv dX9_feed_37 rfl rfl (As := [.int a3]) rfl rfl hJ29.1.1 zs_386 (Nat.le_of_ble_eq_true rfl) ?_
    refine ZV.imp (k_2307 a3 x30 f31 (by omega) (by omega) hN hJ29.1) ?_
    rintro _ ⟨M33, rfl, hJ34, hq35⟩
    have hJ36 := zJ_trans hJ29 hJ34 (zSub_cons (fun _ _ h h' hk => zIR_e (by omega) (by omega) hk) (zSub_cons (fun _ _ h h' hk => zIR_s (zIR_a (by omega) (by omega))) zSub_nil))
    obtain ⟨x37, f38, h39, -⟩ := hq35
    show ZW _ _ _ _ _ _ _ (40, [some (.ref 386), some (.int a0), some (.int a1), some (.int a2), some (.int a3), some (.int a4)], [], M33)
    refine w_lo dX9_feed_40 rfl rfl rfl rfl ?_
    refine w_lo dX9_feed_41 rfl rfl rfl rfl ?_
    refine w_iv dX9_feed_43 rfl rfl (As := [.int a4]) rfl rfl hJ36.1.1 zs_386 (Nat.le_of_ble_eq_true rfl) ?_
    refine ZV.imp (k_2307 a4 x37 f38 (by omega) (by omega) hN hJ36.1) ?_
    rintro _ ⟨M40, rfl, hJ41, hq42⟩
    have hJ43 := zJ_trans hJ36 hJ41 (zSub_cons (fun _ _ h h' hk => zIR_e (by omega) (by omega) hk) (zSub_cons (fun _ _ h h' hk => zIR_s (zIR_a (by omega) (by omega))) zSub_nil))
    obtain ⟨x44, f45, h46, -⟩ := hq42
    show ZW _ _ _ _ _ _ _ (46, [some (.ref 386), some (.int a0), some (.int a1), some (.int a2), some (.int a3), some (.int a4)], [], M40)
    refine w_lo dX9_feed_46 rfl rfl rfl rfl ?_
    refine w_gf dX9_feed_47 rfl hJ43.1.1 zs_386 f45 ?_
    refine w_eni dX9_feed_50 rfl rfl ?_
    exact ⟨_, _, rfl, (by omega), (by omega), hJ43, ⟨x44, f45, (by omega), trivial⟩⟩
set_option maxRecDepth 100000 in
theorem k_2308 {X : List Int32} {d N : Nat} {M0 : zM} (a0 : Int32) (lv : Int32) (hflv : zvl M0 (386) 1 = some (.int lv)) (hrlv0 : 0 ≤ lv.toInt) (hrlv1 : lv.toInt ≤ 1600) (hN : N ≤ 600) (hB0 : zB N M0) : ZV X (d + 2) 2308 [.ref 386, .int a0] M0 (zRI N [(386, 387, 1), (415, 416, 1000)] M0 (0) (1) (fun v M' => (∃ w : Int32, zvl M' (386) 1 = some (.int w) ∧ (0 ≤ a0.toInt ∧ a0.toInt ≤ lv.toInt ∧ w.toInt = a0.toInt ∧ v.toInt = 1 ∨ (a0.toInt < 0 ∨ lv.toInt < a0.toInt) ∧ w.toInt = lv.toInt ∧ v.toInt = 0) ∧ True))) := by
  have hJ0 : zJ N [(386, 387, 1), (415, 416, 1000)] M0 M0 := zJ_refl hB0
  refine ZV.of (ini := false) rfl (Nat.le_of_ble_eq_true rfl) (by decide +kernel) ?_
  show ZW _ _ _ _ _ _ _ (0, [some (.ref 386), some (.int a0)], [], M0)
  refine w_lo dX9_end_0 rfl rfl rfl rfl ?_
  rcases zcut a0.toInt (0 : Int) with h1 | h1
  · skip
    refine w_ilt_t dX9_end_1 (t := 12) rfl (by omega) ?_
    refine w_lo dX9_end_12 rfl rfl rfl rfl ?_
    refine w_ic dX9_end_13 zi_0 ?_
    refine w_iv dX9_end_14 rfl rfl (As := [.int 0]) rfl rfl hJ0.1.1 zs_386 (Nat.le_of_ble_eq_true rfl) ?_
    refine ZV.imp (k_2306 0 (by have := zt_0; omega) (by have := zt_0; omega) hN hJ0.1) ?_
    rintro _ ⟨x5, M2, rfl, h6, h7, hJ3, hq4⟩
    have hJ8 := zJ_trans hJ0 hJ3 (zSub_cons (fun _ _ h h' hk => zIR_s (zIR_a (by omega) (by omega))) zSub_nil)
    show ZW _ _ _ _ _ _ _ (17, [some (.ref 386), some (.int a0)], [.int x5], M2)
    refine w_ilt_t dX9_end_17 (t := 24) rfl (by omega) ?_
    refine w_ic dX9_end_24 zi_0 ?_
    refine w_en dX9_end_25 rfl ?_
    have f9 := (hJ3.2 (386) 1 (zNI (by omega) zNI_nil)).trans (hflv)
    exact ⟨_, _, rfl, (by have := zt_0; omega), (by have := zt_0; omega), hJ8, ⟨lv, f9, (by have := zt_0; omega), trivial⟩⟩
  · skip
    refine w_ilt_f dX9_end_1 (t := 12) rfl (by omega) ?_
    refine w_lo dX9_end_4 rfl rfl rfl rfl ?_
    refine w_lo dX9_end_5 rfl rfl rfl rfl ?_
    refine w_gf dX9_end_6 rfl hJ0.1.1 zs_386 hflv ?_
    rcases zcut lv.toInt a0.toInt with h10 | h10
    · skip
      refine w_cle_f dX9_end_9 (t := 26) rfl (by omega) ?_
      refine w_lo dX9_end_12 rfl rfl rfl rfl ?_
      refine w_ic dX9_end_13 zi_0 ?_
      refine w_iv dX9_end_14 rfl rfl (As := [.int 0]) rfl rfl hJ0.1.1 zs_386 (Nat.le_of_ble_eq_true rfl) ?_
      refine ZV.imp (k_2306 0 (by have := zt_0; omega) (by have := zt_0; omega) hN hJ0.1) ?_
      rintro _ ⟨x14, M11, rfl, h15, h16, hJ12, hq13⟩
      have hJ17 := zJ_trans hJ0 hJ12 (zSub_cons (fun _ _ h h' hk => zIR_s (zIR_a (by omega) (by omega))) zSub_nil)
      show ZW _ _ _ _ _ _ _ (17, [some (.ref 386), some (.int a0)], [.int x14], M11)
      refine w_ilt_t dX9_end_17 (t := 24) rfl (by omega) ?_
      refine w_ic dX9_end_24 zi_0 ?_
      refine w_en dX9_end_25 rfl ?_
      have f18 := (hJ12.2 (386) 1 (zNI (by omega) zNI_nil)).trans (hflv)
      exact ⟨_, _, rfl, (by have := zt_0; omega), (by have := zt_0; omega), hJ17, ⟨lv, f18, (by have := zt_0; omega), trivial⟩⟩
    · skip
      refine w_cle_t dX9_end_9 (t := 26) rfl (by omega) ?_
      refine w_lo dX9_end_26 rfl rfl rfl rfl ?_
      refine w_lo dX9_end_27 rfl rfl rfl rfl ?_
      refine w_pfi dX9_end_28 rfl hJ0 zs_386 (Nat.le_of_ble_eq_true rfl) zo_386_1 (by omega) (by omega) (zIR_k (by omega) (by omega)) rfl rfl rfl ?_
      intro M19 hJ20 f21 hn22
      refine w_ic dX9_end_31 zi_1 ?_
      refine w_en dX9_end_32 rfl ?_
      exact ⟨_, _, rfl, (by have := zt_1; omega), (by have := zt_1; omega), hJ20, ⟨a0, f21, (by have := zt_1; omega), trivial⟩⟩
set_option maxHeartbeats 20000000 in
set_option maxRecDepth 100000 in
theorem k_2310 {X : List Int32} {d N : Nat} {M0 : zM} (sz : Int32) (hfsz : zvl M0 (386) 2 = some (.int sz)) (hrsz0 : 0 ≤ sz.toInt) (hrsz1 : sz.toInt ≤ 1600) (sg : Int32) (hfsg : zvl M0 (386) 3 = some (.int sg)) (hrsg0 : 0 ≤ sg.toInt) (hrsg1 : sg.toInt ≤ 3) (se : Int32) (hfse : zvl M0 (386) 5 = some (.int se)) (hrse0 : 0 ≤ se.toInt) (hrse1 : se.toInt ≤ sz.toInt) (fk : Int32) (hffk : zvl M0 (386) 8 = some (.int fk)) (hrfk0 : 0 ≤ fk.toInt) (hrfk1 : fk.toInt ≤ 5) (hN : N ≤ 600) (hB0 : zB N M0) : ZV X (d + 2) 2310 [.ref 386] M0 (zRV N [(386, 387, 3), (386, 387, 4), (386, 387, 5), (386, 387, 6), (386, 387, 7), (386, 387, 8), (386, 387, 9)] M0 (fun M' => (∃ nz : Int32, zvl M' (386) 2 = some (.int nz) ∧ (nz.toInt = sz.toInt) ∧ (∃ ng : Int32, zvl M' (386) 3 = some (.int ng) ∧ (0 ≤ ng.toInt) ∧ (ng.toInt ≤ 3) ∧ (∃ na : Int32, zvl M' (386) 4 = some (.int na) ∧ (se.toInt ≤ na.toInt) ∧ (na.toInt ≤ sz.toInt) ∧ (∃ ne : Int32, zvl M' (386) 5 = some (.int ne) ∧ (na.toInt ≤ ne.toInt) ∧ (ne.toInt ≤ sz.toInt) ∧ (ng.toInt = 0 ∧ ne.toInt = sz.toInt ∨ 1 ≤ ng.toInt ∧ na.toInt < ne.toInt) ∧ (∃ nk : Int32, zvl M' (386) 8 = some (.int nk) ∧ (fk.toInt ≤ nk.toInt) ∧ (nk.toInt ≤ 5) ∧ True))))))) := by
  have hJ0 : zJ N [(386, 387, 3), (386, 387, 4), (386, 387, 5), (386, 387, 6), (386, 387, 7), (386, 387, 8), (386, 387, 9)] M0 M0 := zJ_refl hB0
  refine ZV.of (ini := false) rfl (Nat.le_of_ble_eq_true rfl) (by decide +kernel) ?_
  have main : ∀ n : Nat,
      (∀ (M : zM) (v5_1 : Int32) (o5_2 : Option Value) (o5_3 : Option Value) (o5_4 : Option Value) (o5_5 : Option Value) (z_5 : Int32) (k_5 : Int32), zJ N [(386, 387, 3), (386, 387, 4), (386, 387, 5), (386, 387, 6), (386, 387, 7), (386, 387, 8), (386, 387, 9)] M0 M → ((0 : Int) ≤ v5_1.toInt) → (v5_1.toInt ≤ 1600) → (zvl M (386) 2 = some (.int z_5)) → (z_5.toInt = sz.toInt) → (zvl M (386) 8 = some (.int k_5)) → (fk.toInt ≤ k_5.toInt) → (k_5.toInt ≤ 5) → (se.toInt ≤ v5_1.toInt) → (v5_1.toInt ≤ sz.toInt) → 11 * (1600 - v5_1.toInt) + 17631 < (n : Int) → ZW X (d + 1) 9 false none cX9_ahead (zRV N [(386, 387, 3), (386, 387, 4), (386, 387, 5), (386, 387, 6), (386, 387, 7), (386, 387, 8), (386, 387, 9)] M0 (fun M' => (∃ nz : Int32, zvl M' (386) 2 = some (.int nz) ∧ (nz.toInt = sz.toInt) ∧ (∃ ng : Int32, zvl M' (386) 3 = some (.int ng) ∧ (0 ≤ ng.toInt) ∧ (ng.toInt ≤ 3) ∧ (∃ na : Int32, zvl M' (386) 4 = some (.int na) ∧ (se.toInt ≤ na.toInt) ∧ (na.toInt ≤ sz.toInt) ∧ (∃ ne : Int32, zvl M' (386) 5 = some (.int ne) ∧ (na.toInt ≤ ne.toInt) ∧ (ne.toInt ≤ sz.toInt) ∧ (ng.toInt = 0 ∧ ne.toInt = sz.toInt ∨ 1 ≤ ng.toInt ∧ na.toInt < ne.toInt) ∧ (∃ nk : Int32, zvl M' (386) 8 = some (.int nk) ∧ (fk.toInt ≤ nk.toInt) ∧ (nk.toInt ≤ 5) ∧ True))))))) (5, [some (.ref 386), some (.int v5_1), o5_2, o5_3, o5_4, o5_5], [], M)) ∧
      (∀ (M : zM) (v41_1 : Int32) (o41_2 : Option Value) (o41_3 : Option Value) (o41_4 : Option Value) (o41_5 : Option Value) (z_41 : Int32) (k_41 : Int32), zJ N [(386, 387, 3), (386, 387, 4), (386, 387, 5), (386, 387, 6), (386, 387, 7), (386, 387, 8), (386, 387, 9)] M0 M → ((0 : Int) ≤ v41_1.toInt) → (v41_1.toInt ≤ 1600) → (zvl M (386) 2 = some (.int z_41)) → (z_41.toInt = sz.toInt) → (zvl M (386) 8 = some (.int k_41)) → (fk.toInt ≤ k_41.toInt) → (k_41.toInt ≤ 5) → (se.toInt ≤ v41_1.toInt) → (v41_1.toInt ≤ sz.toInt) → 17630 < (n : Int) → ZW X (d + 1) 9 false none cX9_ahead (zRV N [(386, 387, 3), (386, 387, 4), (386, 387, 5), (386, 387, 6), (386, 387, 7), (386, 387, 8), (386, 387, 9)] M0 (fun M' => (∃ nz : Int32, zvl M' (386) 2 = some (.int nz) ∧ (nz.toInt = sz.toInt) ∧ (∃ ng : Int32, zvl M' (386) 3 = some (.int ng) ∧ (0 ≤ ng.toInt) ∧ (ng.toInt ≤ 3) ∧ (∃ na : Int32, zvl M' (386) 4 = some (.int na) ∧ (se.toInt ≤ na.toInt) ∧ (na.toInt ≤ sz.toInt) ∧ (∃ ne : Int32, zvl M' (386) 5 = some (.int ne) ∧ (na.toInt ≤ ne.toInt) ∧ (ne.toInt ≤ sz.toInt) ∧ (ng.toInt = 0 ∧ ne.toInt = sz.toInt ∨ 1 ≤ ng.toInt ∧ na.toInt < ne.toInt) ∧ (∃ nk : Int32, zvl M' (386) 8 = some (.int nk) ∧ (fk.toInt ≤ nk.toInt) ∧ (nk.toInt ≤ 5) ∧ True))))))) (41, [some (.ref 386), some (.int v41_1), o41_2, o41_3, o41_4, o41_5], [], M)) ∧
      (∀ (M : zM) (v93_1 : Int32) (v93_2 : Int32) (v93_3 : Int32) (o93_4 : Option Value) (o93_5 : Option Value) (z_93 : Int32) (k_93 : Int32) (s_93 : Int32) (c_93 : Int32), zJ N [(386, 387, 3), (386, 387, 4), (386, 387, 5), (386, 387, 6), (386, 387, 7), (386, 387, 8), (386, 387, 9)] M0 M → ((0 : Int) ≤ v93_1.toInt) → (v93_1.toInt ≤ 1599) → ((0 : Int) ≤ v93_2.toInt) → (v93_2.toInt ≤ 1) → ((0 : Int) ≤ v93_3.toInt) → (v93_3.toInt ≤ 1) → (zvl M (386) 2 = some (.int z_93)) → (z_93.toInt = sz.toInt) → (zvl M (386) 8 = some (.int k_93)) → (fk.toInt ≤ k_93.toInt) → (k_93.toInt ≤ 5) → (zvl M (386) 4 = some (.int s_93)) → (s_93.toInt = v93_1.toInt) → (zvl M (387) (v93_1 : Int32).toInt.toNat = some (.int c_93)) → (v93_2.toInt = 1 ∧ 97 ≤ c_93.toInt ∧ c_93.toInt ≤ 122 ∨ v93_2.toInt = 0 ∧ v93_3.toInt = 1 ∧ 48 ≤ c_93.toInt ∧ c_93.toInt ≤ 57 ∨ v93_2.toInt = 0 ∧ v93_3.toInt = 0) → (se.toInt ≤ v93_1.toInt) → (v93_1.toInt < sz.toInt) → 17629 < (n : Int) → ZW X (d + 1) 9 false none cX9_ahead (zRV N [(386, 387, 3), (386, 387, 4), (386, 387, 5), (386, 387, 6), (386, 387, 7), (386, 387, 8), (386, 387, 9)] M0 (fun M' => (∃ nz : Int32, zvl M' (386) 2 = some (.int nz) ∧ (nz.toInt = sz.toInt) ∧ (∃ ng : Int32, zvl M' (386) 3 = some (.int ng) ∧ (0 ≤ ng.toInt) ∧ (ng.toInt ≤ 3) ∧ (∃ na : Int32, zvl M' (386) 4 = some (.int na) ∧ (se.toInt ≤ na.toInt) ∧ (na.toInt ≤ sz.toInt) ∧ (∃ ne : Int32, zvl M' (386) 5 = some (.int ne) ∧ (na.toInt ≤ ne.toInt) ∧ (ne.toInt ≤ sz.toInt) ∧ (ng.toInt = 0 ∧ ne.toInt = sz.toInt ∨ 1 ≤ ng.toInt ∧ na.toInt < ne.toInt) ∧ (∃ nk : Int32, zvl M' (386) 8 = some (.int nk) ∧ (fk.toInt ≤ nk.toInt) ∧ (nk.toInt ≤ 5) ∧ True))))))) (93, [some (.ref 386), some (.int v93_1), some (.int v93_2), some (.int v93_3), o93_4, o93_5], [], M)) ∧
      (∀ (M : zM) (v125_1 : Int32) (v125_2 : Int32) (v125_3 : Int32) (o125_4 : Option Value) (o125_5 : Option Value) (z_125 : Int32) (k_125 : Int32) (s_125 : Int32) (c_125 : Int32), zJ N [(386, 387, 3), (386, 387, 4), (386, 387, 5), (386, 387, 6), (386, 387, 7), (386, 387, 8), (386, 387, 9)] M0 M → ((1 : Int) ≤ v125_1.toInt) → (v125_1.toInt ≤ 1599) → ((0 : Int) ≤ v125_2.toInt) → (v125_2.toInt ≤ 1) → ((0 : Int) ≤ v125_3.toInt) → (v125_3.toInt ≤ 1) → (zvl M (386) 2 = some (.int z_125)) → (z_125.toInt = sz.toInt) → (zvl M (386) 8 = some (.int k_125)) → (fk.toInt ≤ k_125.toInt) → (k_125.toInt ≤ 5) → (zvl M (386) 4 = some (.int s_125)) → (s_125.toInt = v125_1.toInt) → (zvl M (387) (v125_1 : Int32).toInt.toNat = some (.int c_125)) → (v125_2.toInt = 1 ∧ 97 ≤ c_125.toInt ∧ c_125.toInt ≤ 122 ∨ v125_2.toInt = 0 ∧ v125_3.toInt = 1 ∧ 48 ≤ c_125.toInt ∧ c_125.toInt ≤ 57 ∨ v125_2.toInt = 0 ∧ v125_3.toInt = 0) → (se.toInt ≤ v125_1.toInt) → (v125_1.toInt < sz.toInt) → 17628 < (n : Int) → ZW X (d + 1) 9 false none cX9_ahead (zRV N [(386, 387, 3), (386, 387, 4), (386, 387, 5), (386, 387, 6), (386, 387, 7), (386, 387, 8), (386, 387, 9)] M0 (fun M' => (∃ nz : Int32, zvl M' (386) 2 = some (.int nz) ∧ (nz.toInt = sz.toInt) ∧ (∃ ng : Int32, zvl M' (386) 3 = some (.int ng) ∧ (0 ≤ ng.toInt) ∧ (ng.toInt ≤ 3) ∧ (∃ na : Int32, zvl M' (386) 4 = some (.int na) ∧ (se.toInt ≤ na.toInt) ∧ (na.toInt ≤ sz.toInt) ∧ (∃ ne : Int32, zvl M' (386) 5 = some (.int ne) ∧ (na.toInt ≤ ne.toInt) ∧ (ne.toInt ≤ sz.toInt) ∧ (ng.toInt = 0 ∧ ne.toInt = sz.toInt ∨ 1 ≤ ng.toInt ∧ na.toInt < ne.toInt) ∧ (∃ nk : Int32, zvl M' (386) 8 = some (.int nk) ∧ (fk.toInt ≤ nk.toInt) ∧ (nk.toInt ≤ 5) ∧ True))))))) (125, [some (.ref 386), some (.int v125_1), some (.int v125_2), some (.int v125_3), o125_4, o125_5], [], M)) ∧
      (∀ (M : zM) (v131_1 : Int32) (v131_2 : Int32) (v131_3 : Int32) (o131_4 : Option Value) (o131_5 : Option Value) (z_131 : Int32) (k_131 : Int32) (s_131 : Int32) (c_131 : Int32), zJ N [(386, 387, 3), (386, 387, 4), (386, 387, 5), (386, 387, 6), (386, 387, 7), (386, 387, 8), (386, 387, 9)] M0 M → ((0 : Int) ≤ v131_1.toInt) → (v131_1.toInt ≤ 1599) → ((0 : Int) ≤ v131_2.toInt) → (v131_2.toInt ≤ 1) → ((0 : Int) ≤ v131_3.toInt) → (v131_3.toInt ≤ 1) → (zvl M (386) 2 = some (.int z_131)) → (z_131.toInt = sz.toInt) → (zvl M (386) 8 = some (.int k_131)) → (fk.toInt ≤ k_131.toInt) → (k_131.toInt ≤ 5) → (zvl M (386) 4 = some (.int s_131)) → (s_131.toInt = v131_1.toInt) → (zvl M (387) (v131_1 : Int32).toInt.toNat = some (.int c_131)) → (v131_2.toInt = 1 ∧ 97 ≤ c_131.toInt ∧ c_131.toInt ≤ 122 ∨ v131_2.toInt = 0 ∧ v131_3.toInt = 1 ∧ 48 ≤ c_131.toInt ∧ c_131.toInt ≤ 57 ∨ v131_2.toInt = 0 ∧ v131_3.toInt = 0) → (se.toInt ≤ v131_1.toInt) → (v131_1.toInt < sz.toInt) → 17627 < (n : Int) → ZW X (d + 1) 9 false none cX9_ahead (zRV N [(386, 387, 3), (386, 387, 4), (386, 387, 5), (386, 387, 6), (386, 387, 7), (386, 387, 8), (386, 387, 9)] M0 (fun M' => (∃ nz : Int32, zvl M' (386) 2 = some (.int nz) ∧ (nz.toInt = sz.toInt) ∧ (∃ ng : Int32, zvl M' (386) 3 = some (.int ng) ∧ (0 ≤ ng.toInt) ∧ (ng.toInt ≤ 3) ∧ (∃ na : Int32, zvl M' (386) 4 = some (.int na) ∧ (se.toInt ≤ na.toInt) ∧ (na.toInt ≤ sz.toInt) ∧ (∃ ne : Int32, zvl M' (386) 5 = some (.int ne) ∧ (na.toInt ≤ ne.toInt) ∧ (ne.toInt ≤ sz.toInt) ∧ (ng.toInt = 0 ∧ ne.toInt = sz.toInt ∨ 1 ≤ ng.toInt ∧ na.toInt < ne.toInt) ∧ (∃ nk : Int32, zvl M' (386) 8 = some (.int nk) ∧ (fk.toInt ≤ nk.toInt) ∧ (nk.toInt ≤ 5) ∧ True))))))) (131, [some (.ref 386), some (.int v131_1), some (.int v131_2), some (.int v131_3), o131_4, o131_5], [], M)) ∧
      (∀ (M : zM) (v200_1 : Int32) (v200_2 : Int32) (v200_3 : Int32) (v200_4 : Int32) (v200_5 : Int32) (z_200 : Int32) (k_200 : Int32) (g_200 : Int32) (s_200 : Int32) (c_200 : Int32), zJ N [(386, 387, 3), (386, 387, 4), (386, 387, 5), (386, 387, 6), (386, 387, 7), (386, 387, 8), (386, 387, 9)] M0 M → ((0 : Int) ≤ v200_1.toInt) → (v200_1.toInt ≤ 1600) → ((0 : Int) ≤ v200_2.toInt) → (v200_2.toInt ≤ 1) → ((0 : Int) ≤ v200_3.toInt) → (v200_3.toInt ≤ 1) → ((4 : Int) ≤ v200_4.toInt) → (v200_4.toInt ≤ 6) → ((-2147483648 : Int) ≤ v200_5.toInt) → (v200_5.toInt ≤ 2147483647) → (zvl M (386) 2 = some (.int z_200)) → (z_200.toInt = sz.toInt) → (zvl M (386) 8 = some (.int k_200)) → (fk.toInt ≤ k_200.toInt) → (k_200.toInt ≤ 5) → (zvl M (386) 3 = some (.int g_200)) → (1 ≤ g_200.toInt) → (g_200.toInt ≤ 3) → (zvl M (386) 4 = some (.int s_200)) → (se.toInt ≤ s_200.toInt) → (s_200.toInt ≤ v200_1.toInt) → (zvl M (387) (v200_1 : Int32).toInt.toNat = some (.int c_200)) → (s_200.toInt < v200_1.toInt ∨ v200_1.toInt < sz.toInt ∧ v200_2.toInt = 1 ∧ 97 ≤ c_200.toInt ∧ c_200.toInt ≤ 122 ∨ v200_1.toInt < sz.toInt ∧ v200_2.toInt = 0 ∧ v200_3.toInt = 1 ∧ 48 ≤ c_200.toInt ∧ c_200.toInt ≤ 57) → (v200_1.toInt ≤ sz.toInt) → 11 * (1600 - v200_1.toInt) + 4 < (n : Int) → ZW X (d + 1) 9 false none cX9_ahead (zRV N [(386, 387, 3), (386, 387, 4), (386, 387, 5), (386, 387, 6), (386, 387, 7), (386, 387, 8), (386, 387, 9)] M0 (fun M' => (∃ nz : Int32, zvl M' (386) 2 = some (.int nz) ∧ (nz.toInt = sz.toInt) ∧ (∃ ng : Int32, zvl M' (386) 3 = some (.int ng) ∧ (0 ≤ ng.toInt) ∧ (ng.toInt ≤ 3) ∧ (∃ na : Int32, zvl M' (386) 4 = some (.int na) ∧ (se.toInt ≤ na.toInt) ∧ (na.toInt ≤ sz.toInt) ∧ (∃ ne : Int32, zvl M' (386) 5 = some (.int ne) ∧ (na.toInt ≤ ne.toInt) ∧ (ne.toInt ≤ sz.toInt) ∧ (ng.toInt = 0 ∧ ne.toInt = sz.toInt ∨ 1 ≤ ng.toInt ∧ na.toInt < ne.toInt) ∧ (∃ nk : Int32, zvl M' (386) 8 = some (.int nk) ∧ (fk.toInt ≤ nk.toInt) ∧ (nk.toInt ≤ 5) ∧ True))))))) (200, [some (.ref 386), some (.int v200_1), some (.int v200_2), some (.int v200_3), some (.int v200_4), some (.int v200_5)], [], M)) ∧
      (∀ (M : zM) (v239_1 : Int32) (v239_2 : Int32) (v239_3 : Int32) (v239_4 : Int32) (v239_5 : Int32) (z_239 : Int32) (k_239 : Int32) (g_239 : Int32) (s_239 : Int32), zJ N [(386, 387, 3), (386, 387, 4), (386, 387, 5), (386, 387, 6), (386, 387, 7), (386, 387, 8), (386, 387, 9)] M0 M → ((0 : Int) ≤ v239_1.toInt) → (v239_1.toInt ≤ 1599) → ((0 : Int) ≤ v239_2.toInt) → (v239_2.toInt ≤ 1) → ((0 : Int) ≤ v239_3.toInt) → (v239_3.toInt ≤ 1) → ((4 : Int) ≤ v239_4.toInt) → (v239_4.toInt ≤ 6) → ((-2147483648 : Int) ≤ v239_5.toInt) → (v239_5.toInt ≤ 2147483647) → (zvl M (386) 2 = some (.int z_239)) → (z_239.toInt = sz.toInt) → (zvl M (386) 8 = some (.int k_239)) → (fk.toInt ≤ k_239.toInt) → (k_239.toInt ≤ 5) → (zvl M (386) 3 = some (.int g_239)) → (1 ≤ g_239.toInt) → (g_239.toInt ≤ 3) → (zvl M (386) 4 = some (.int s_239)) → (se.toInt ≤ s_239.toInt) → (s_239.toInt ≤ v239_1.toInt) → (v239_1.toInt < sz.toInt) → 11 * (1600 - v239_1.toInt) + 3 < (n : Int) → ZW X (d + 1) 9 false none cX9_ahead (zRV N [(386, 387, 3), (386, 387, 4), (386, 387, 5), (386, 387, 6), (386, 387, 7), (386, 387, 8), (386, 387, 9)] M0 (fun M' => (∃ nz : Int32, zvl M' (386) 2 = some (.int nz) ∧ (nz.toInt = sz.toInt) ∧ (∃ ng : Int32, zvl M' (386) 3 = some (.int ng) ∧ (0 ≤ ng.toInt) ∧ (ng.toInt ≤ 3) ∧ (∃ na : Int32, zvl M' (386) 4 = some (.int na) ∧ (se.toInt ≤ na.toInt) ∧ (na.toInt ≤ sz.toInt) ∧ (∃ ne : Int32, zvl M' (386) 5 = some (.int ne) ∧ (na.toInt ≤ ne.toInt) ∧ (ne.toInt ≤ sz.toInt) ∧ (ng.toInt = 0 ∧ ne.toInt = sz.toInt ∨ 1 ≤ ng.toInt ∧ na.toInt < ne.toInt) ∧ (∃ nk : Int32, zvl M' (386) 8 = some (.int nk) ∧ (fk.toInt ≤ nk.toInt) ∧ (nk.toInt ≤ 5) ∧ True))))))) (239, [some (.ref 386), some (.int v239_1), some (.int v239_2), some (.int v239_3), some (.int v239_4), some (.int v239_5)], [], M)) ∧
      (∀ (M : zM) (v252_1 : Int32) (v252_2 : Int32) (v252_3 : Int32) (v252_4 : Int32) (v252_5 : Int32) (z_252 : Int32) (k_252 : Int32) (g_252 : Int32) (s_252 : Int32), zJ N [(386, 387, 3), (386, 387, 4), (386, 387, 5), (386, 387, 6), (386, 387, 7), (386, 387, 8), (386, 387, 9)] M0 M → ((0 : Int) ≤ v252_1.toInt) → (v252_1.toInt ≤ 1599) → ((0 : Int) ≤ v252_2.toInt) → (v252_2.toInt ≤ 1) → ((0 : Int) ≤ v252_3.toInt) → (v252_3.toInt ≤ 1) → ((4 : Int) ≤ v252_4.toInt) → (v252_4.toInt ≤ 6) → ((-2147483648 : Int) ≤ v252_5.toInt) → (v252_5.toInt ≤ 2147483647) → (zvl M (386) 2 = some (.int z_252)) → (z_252.toInt = sz.toInt) → (zvl M (386) 8 = some (.int k_252)) → (fk.toInt ≤ k_252.toInt) → (k_252.toInt ≤ 5) → (zvl M (386) 3 = some (.int g_252)) → (1 ≤ g_252.toInt) → (g_252.toInt ≤ 3) → (zvl M (386) 4 = some (.int s_252)) → (se.toInt ≤ s_252.toInt) → (s_252.toInt ≤ v252_1.toInt) → (v252_1.toInt < sz.toInt) → 11 * (1600 - v252_1.toInt) + 2 < (n : Int) → ZW X (d + 1) 9 false none cX9_ahead (zRV N [(386, 387, 3), (386, 387, 4), (386, 387, 5), (386, 387, 6), (386, 387, 7), (386, 387, 8), (386, 387, 9)] M0 (fun M' => (∃ nz : Int32, zvl M' (386) 2 = some (.int nz) ∧ (nz.toInt = sz.toInt) ∧ (∃ ng : Int32, zvl M' (386) 3 = some (.int ng) ∧ (0 ≤ ng.toInt) ∧ (ng.toInt ≤ 3) ∧ (∃ na : Int32, zvl M' (386) 4 = some (.int na) ∧ (se.toInt ≤ na.toInt) ∧ (na.toInt ≤ sz.toInt) ∧ (∃ ne : Int32, zvl M' (386) 5 = some (.int ne) ∧ (na.toInt ≤ ne.toInt) ∧ (ne.toInt ≤ sz.toInt) ∧ (ng.toInt = 0 ∧ ne.toInt = sz.toInt ∨ 1 ≤ ng.toInt ∧ na.toInt < ne.toInt) ∧ (∃ nk : Int32, zvl M' (386) 8 = some (.int nk) ∧ (fk.toInt ≤ nk.toInt) ∧ (nk.toInt ≤ 5) ∧ True))))))) (252, [some (.ref 386), some (.int v252_1), some (.int v252_2), some (.int v252_3), some (.int v252_4), some (.int v252_5)], [], M)) ∧
      (∀ (M : zM) (v282_1 : Int32) (v282_2 : Int32) (v282_3 : Int32) (v282_4 : Int32) (v282_5 : Int32) (z_282 : Int32) (k_282 : Int32) (g_282 : Int32) (s_282 : Int32), zJ N [(386, 387, 3), (386, 387, 4), (386, 387, 5), (386, 387, 6), (386, 387, 7), (386, 387, 8), (386, 387, 9)] M0 M → ((0 : Int) ≤ v282_1.toInt) → (v282_1.toInt ≤ 1599) → ((0 : Int) ≤ v282_2.toInt) → (v282_2.toInt ≤ 1) → ((0 : Int) ≤ v282_3.toInt) → (v282_3.toInt ≤ 1) → ((4 : Int) ≤ v282_4.toInt) → (v282_4.toInt ≤ 6) → ((-2147483648 : Int) ≤ v282_5.toInt) → (v282_5.toInt ≤ 2147483647) → (zvl M (386) 2 = some (.int z_282)) → (z_282.toInt = sz.toInt) → (zvl M (386) 8 = some (.int k_282)) → (fk.toInt ≤ k_282.toInt) → (k_282.toInt ≤ 5) → (zvl M (386) 3 = some (.int g_282)) → (1 ≤ g_282.toInt) → (g_282.toInt ≤ 3) → (zvl M (386) 4 = some (.int s_282)) → (se.toInt ≤ s_282.toInt) → (s_282.toInt ≤ v282_1.toInt) → (v282_1.toInt < sz.toInt) → 11 * (1600 - v282_1.toInt) + 1 < (n : Int) → ZW X (d + 1) 9 false none cX9_ahead (zRV N [(386, 387, 3), (386, 387, 4), (386, 387, 5), (386, 387, 6), (386, 387, 7), (386, 387, 8), (386, 387, 9)] M0 (fun M' => (∃ nz : Int32, zvl M' (386) 2 = some (.int nz) ∧ (nz.toInt = sz.toInt) ∧ (∃ ng : Int32, zvl M' (386) 3 = some (.int ng) ∧ (0 ≤ ng.toInt) ∧ (ng.toInt ≤ 3) ∧ (∃ na : Int32, zvl M' (386) 4 = some (.int na) ∧ (se.toInt ≤ na.toInt) ∧ (na.toInt ≤ sz.toInt) ∧ (∃ ne : Int32, zvl M' (386) 5 = some (.int ne) ∧ (na.toInt ≤ ne.toInt) ∧ (ne.toInt ≤ sz.toInt) ∧ (ng.toInt = 0 ∧ ne.toInt = sz.toInt ∨ 1 ≤ ng.toInt ∧ na.toInt < ne.toInt) ∧ (∃ nk : Int32, zvl M' (386) 8 = some (.int nk) ∧ (fk.toInt ≤ nk.toInt) ∧ (nk.toInt ≤ 5) ∧ True))))))) (282, [some (.ref 386), some (.int v282_1), some (.int v282_2), some (.int v282_3), some (.int v282_4), some (.int v282_5)], [], M)) := by
    intro n
    induction n with
    | zero =>
      exact ⟨(fun M v5_1 o5_2 o5_3 o5_4 o5_5 z_5 k_5 hJ v5_10 v5_11 hfz_5 hrz_50 hfk_5 hrk_50 hrk_51 ann0 ann1 hn => absurd hn (by omega)), (fun M v41_1 o41_2 o41_3 o41_4 o41_5 z_41 k_41 hJ v41_10 v41_11 hfz_41 hrz_410 hfk_41 hrk_410 hrk_411 ann0 ann1 hn => absurd hn (by omega)), (fun M v93_1 v93_2 v93_3 o93_4 o93_5 z_93 k_93 s_93 c_93 hJ v93_10 v93_11 v93_20 v93_21 v93_30 v93_31 hfz_93 hrz_930 hfk_93 hrk_930 hrk_931 hfs_93 hrs_930 hfc_93 hrc_930 ann0 ann1 hn => absurd hn (by omega)), (fun M v125_1 v125_2 v125_3 o125_4 o125_5 z_125 k_125 s_125 c_125 hJ v125_10 v125_11 v125_20 v125_21 v125_30 v125_31 hfz_125 hrz_1250 hfk_125 hrk_1250 hrk_1251 hfs_125 hrs_1250 hfc_125 hrc_1250 ann0 ann1 hn => absurd hn (by omega)), (fun M v131_1 v131_2 v131_3 o131_4 o131_5 z_131 k_131 s_131 c_131 hJ v131_10 v131_11 v131_20 v131_21 v131_30 v131_31 hfz_131 hrz_1310 hfk_131 hrk_1310 hrk_1311 hfs_131 hrs_1310 hfc_131 hrc_1310 ann0 ann1 hn => absurd hn (by omega)), (fun M v200_1 v200_2 v200_3 v200_4 v200_5 z_200 k_200 g_200 s_200 c_200 hJ v200_10 v200_11 v200_20 v200_21 v200_30 v200_31 v200_40 v200_41 v200_50 v200_51 hfz_200 hrz_2000 hfk_200 hrk_2000 hrk_2001 hfg_200 hrg_2000 hrg_2001 hfs_200 hrs_2000 hrs_2001 hfc_200 hrc_2000 ann0 hn => absurd hn (by omega)), (fun M v239_1 v239_2 v239_3 v239_4 v239_5 z_239 k_239 g_239 s_239 hJ v239_10 v239_11 v239_20 v239_21 v239_30 v239_31 v239_40 v239_41 v239_50 v239_51 hfz_239 hrz_2390 hfk_239 hrk_2390 hrk_2391 hfg_239 hrg_2390 hrg_2391 hfs_239 hrs_2390 hrs_2391 ann0 hn => absurd hn (by omega)), (fun M v252_1 v252_2 v252_3 v252_4 v252_5 z_252 k_252 g_252 s_252 hJ v252_10 v252_11 v252_20 v252_21 v252_30 v252_31 v252_40 v252_41 v252_50 v252_51 hfz_252 hrz_2520 hfk_252 hrk_2520 hrk_2521 hfg_252 hrg_2520 hrg_2521 hfs_252 hrs_2520 hrs_2521 ann0 hn => absurd hn (by omega)), (fun M v282_1 v282_2 v282_3 v282_4 v282_5 z_282 k_282 g_282 s_282 hJ v282_10 v282_11 v282_20 v282_21 v282_30 v282_31 v282_40 v282_41 v282_50 v282_51 hfz_282 hrz_2820 hfk_282 hrk_2820 hrk_2821 hfg_282 hrg_2820 hrg_2821 hfs_282 hrs_2820 hrs_2821 ann0 hn => absurd hn (by omega))⟩
    | succ n ih =>
      obtain ⟨ih5, ih41, ih93, ih125, ih131, ih200, ih239, ih252, ih282⟩ := ih
      refine ⟨?_, ?_, ?_, ?_, ?_, ?_, ?_, ?_, ?_⟩
      · intro M v5_1 o5_2 o5_3 o5_4 o5_5 z_5 k_5 hJ v5_10 v5_11 hfz_5 hrz_50 hfk_5 hrk_50 hrk_51 ann0 ann1 hn
        refine w_lo dX9_ahead_5 rfl rfl rfl rfl ?_
        refine w_lo dX9_ahead_6 rfl rfl rfl rfl ?_
        refine w_gf dX9_ahead_7 rfl hJ.1.1 zs_386 hfz_5 ?_
        rcases zcut v5_1.toInt z_5.toInt with h1 | h1
        · skip
          refine w_cge_f dX9_ahead_10 (t := 41) rfl (by omega) ?_
          refine w_lo dX9_ahead_13 rfl rfl rfl rfl ?_
          refine w_gf dX9_ahead_14 rfl hJ.1.1 zs_386 (zr_386_0 hJ.1) ?_
          refine w_lo dX9_ahead_17 rfl rfl rfl rfl ?_
          refine w_iai dX9_ahead_18 hJ.1 zs_387 (by omega) (by omega) zu_387 ?_
          intro x5 f2 h3 h4
          refine w_bi dX9_ahead_19 (c := 32) (by decide) ?_
          rcases Int.decEq x5.toInt (32 : Int) with h6 | h6
          · skip
            refine w_ceq_f dX9_ahead_21 (t := 35) rfl (by have := zt_32; omega) ?_
            refine w_lo dX9_ahead_24 rfl rfl rfl rfl ?_
            refine w_gf dX9_ahead_25 rfl hJ.1.1 zs_386 (zr_386_0 hJ.1) ?_
            refine w_lo dX9_ahead_28 rfl rfl rfl rfl ?_
            refine w_ia dX9_ahead_29 hJ.1.1 zs_387 (znat (by omega)) f2 ?_
            refine w_bi dX9_ahead_30 (c := 10) (by decide) ?_
            rcases Int.decEq x5.toInt (10 : Int) with h10 | h10
            · skip
              refine w_cne_t dX9_ahead_32 (t := 41) rfl (by have := zt_10; omega) ?_
              exact ih41 M v5_1 o5_2 o5_3 o5_4 o5_5 z_5 k_5 hJ (by omega) (by omega) hfz_5 (by omega) hfk_5 (by omega) (by omega) (by omega) (by omega) (by omega)
            · skip
              refine w_cne_f dX9_ahead_32 (t := 41) rfl (by have := zt_10; omega) ?_
              refine w_inc (kk := 1) dX9_ahead_35 rfl (m := 1) (by decide) (by omega) ?_
              intro x11 h12
              refine ⟨_, rfl, ?_⟩
              show ZW _ _ _ _ _ _ _ (38, [some (.ref 386), some (.int x11), o5_2, o5_3, o5_4, o5_5], [], M)
              refine w_gt dX9_ahead_38 (t := 5) rfl ?_
              exact ih5 M x11 o5_2 o5_3 o5_4 o5_5 z_5 k_5 hJ (by omega) (by omega) hfz_5 (by omega) hfk_5 (by omega) (by omega) (by omega) (by omega) (by omega)
          · skip
            refine w_ceq_t dX9_ahead_21 (t := 35) rfl (by have := zt_32; omega) ?_
            refine w_inc (kk := 1) dX9_ahead_35 rfl (m := 1) (by decide) (by omega) ?_
            intro x13 h14
            refine ⟨_, rfl, ?_⟩
            show ZW _ _ _ _ _ _ _ (38, [some (.ref 386), some (.int x13), o5_2, o5_3, o5_4, o5_5], [], M)
            refine w_gt dX9_ahead_38 (t := 5) rfl ?_
            exact ih5 M x13 o5_2 o5_3 o5_4 o5_5 z_5 k_5 hJ (by omega) (by omega) hfz_5 (by omega) hfk_5 (by omega) (by omega) (by omega) (by omega) (by omega)
        · skip
          refine w_cge_t dX9_ahead_10 (t := 41) rfl (by omega) ?_
          exact ih41 M v5_1 o5_2 o5_3 o5_4 o5_5 z_5 k_5 hJ (by omega) (by omega) hfz_5 (by omega) hfk_5 (by omega) (by omega) (by omega) (by omega) (by omega)
      · intro M v41_1 o41_2 o41_3 o41_4 o41_5 z_41 k_41 hJ v41_10 v41_11 hfz_41 hrz_410 hfk_41 hrk_410 hrk_411 ann0 ann1 hn
        refine w_lo dX9_ahead_41 rfl rfl rfl rfl ?_
        refine w_lo dX9_ahead_42 rfl rfl rfl rfl ?_
        refine w_pfi dX9_ahead_43 rfl hJ zs_386 (Nat.le_of_ble_eq_true rfl) zo_386_4 (by omega) (by omega) (zIR_s (zIR_k (by omega) (by omega))) rfl rfl rfl ?_
        intro M15 hJ16 f17 hn18
        refine w_lo dX9_ahead_46 rfl rfl rfl rfl ?_
        refine w_lo dX9_ahead_47 rfl rfl rfl rfl ?_
        refine w_pfi dX9_ahead_48 rfl hJ16 zs_386 (Nat.le_of_ble_eq_true rfl) zo_386_5 (by omega) (by omega) (zIR_s (zIR_s (zIR_k (by omega) (by omega)))) rfl rfl rfl ?_
        intro M19 hJ20 f21 hn22
        refine w_lo dX9_ahead_51 rfl rfl rfl rfl ?_
        refine w_ic dX9_ahead_52 zi_0 ?_
        refine w_pfi dX9_ahead_53 rfl hJ20 zs_386 (Nat.le_of_ble_eq_true rfl) zo_386_3 (by have := zt_0; omega) (by have := zt_0; omega) (zIR_k (by omega) (by omega)) rfl rfl rfl ?_
        intro M23 hJ24 f25 hn26
        refine w_lo dX9_ahead_56 rfl rfl rfl rfl ?_
        refine w_lo dX9_ahead_57 rfl rfl rfl rfl ?_
        have f27 := (hn26 (386) 2 (Or.inr (by decide))).trans ((hn22 (386) 2 (Or.inr (by decide))).trans ((hn18 (386) 2 (Or.inr (by decide))).trans (hfz_41)))
        refine w_gf dX9_ahead_58 rfl hJ24.1.1 zs_386 f27 ?_
        rcases zcut v41_1.toInt z_41.toInt with h28 | h28
        · skip
          refine w_clt_t dX9_ahead_61 (t := 65) rfl (by omega) ?_
          refine w_lo dX9_ahead_65 rfl rfl rfl rfl ?_
          refine w_gf dX9_ahead_66 rfl hJ24.1.1 zs_386 (zr_386_0 hJ24.1) ?_
          refine w_lo dX9_ahead_69 rfl rfl rfl rfl ?_
          refine w_iai dX9_ahead_70 hJ24.1 zs_387 (by omega) (by omega) zu_387 ?_
          intro x32 f29 h30 h31
          refine w_ss dX9_ahead_71 rfl rfl (As := [.int x32]) rfl rfl (Nat.le_of_ble_eq_true rfl) ?_
          refine ZV.of (ini := false) rfl (Nat.le_of_ble_eq_true rfl) (by decide +kernel) ?_
          show ZW _ _ _ _ _ _ _ (0, [some (.int x32)], [], M23)
          refine w_lo dX9_isLetter_0 rfl rfl rfl rfl ?_
          refine w_bi dX9_isLetter_1 (c := 97) (by decide) ?_
          rcases zcut x32.toInt (97 : Int) with h33 | h33
          · skip
            refine w_clt_t dX9_isLetter_3 (t := 16) rfl (by have := zt_97; omega) ?_
            refine w_ic dX9_isLetter_16 zi_0 ?_
            refine w_en dX9_isLetter_17 rfl ?_
            show ZW _ _ _ _ _ _ _ (74, [some (.ref 386), some (.int v41_1), o41_2, o41_3, o41_4, o41_5], [.int 0], M23)
            refine w_lo (ml' := [some (.ref 386), some (.int v41_1), some (.int 0), o41_3, o41_4, o41_5]) dX9_ahead_74 rfl rfl rfl rfl ?_
            refine w_lo dX9_ahead_75 rfl rfl rfl rfl ?_
            refine w_gf dX9_ahead_76 rfl hJ24.1.1 zs_386 (zr_386_0 hJ24.1) ?_
            refine w_lo dX9_ahead_79 rfl rfl rfl rfl ?_
            refine w_ia dX9_ahead_80 hJ24.1.1 zs_387 (znat (by omega)) f29 ?_
            refine w_ss dX9_ahead_81 rfl rfl (As := [.int x32]) rfl rfl (Nat.le_of_ble_eq_true rfl) ?_
            refine ZV.of (ini := false) rfl (Nat.le_of_ble_eq_true rfl) (by decide +kernel) ?_
            show ZW _ _ _ _ _ _ _ (0, [some (.int x32)], [], M23)
            refine w_lo dX9_isDigit_0 rfl rfl rfl rfl ?_
            refine w_bi dX9_isDigit_1 (c := 48) (by decide) ?_
            rcases zcut x32.toInt (48 : Int) with h37 | h37
            · skip
              refine w_clt_t dX9_isDigit_3 (t := 16) rfl (by have := zt_48; omega) ?_
              refine w_ic dX9_isDigit_16 zi_0 ?_
              refine w_en dX9_isDigit_17 rfl ?_
              show ZW _ _ _ _ _ _ _ (84, [some (.ref 386), some (.int v41_1), some (.int 0), o41_3, o41_4, o41_5], [.int 0], M23)
              refine w_lo (ml' := [some (.ref 386), some (.int v41_1), some (.int 0), some (.int 0), o41_4, o41_5]) dX9_ahead_84 rfl rfl rfl rfl ?_
              refine w_lo dX9_ahead_85 rfl rfl rfl rfl ?_
              refine w_ine_f dX9_ahead_86 (t := 93) rfl (by have := zt_0; omega) ?_
              refine w_lo dX9_ahead_89 rfl rfl rfl rfl ?_
              refine w_ieq_t dX9_ahead_90 (t := 131) rfl (by have := zt_0; omega) ?_
              have f38 := (hn26 (386) 8 (Or.inr (by decide))).trans ((hn22 (386) 8 (Or.inr (by decide))).trans ((hn18 (386) 8 (Or.inr (by decide))).trans (hfk_41)))
              have f39 := (hn26 (386) 4 (Or.inr (by decide))).trans ((hn22 (386) 4 (Or.inr (by decide))).trans (f17))
              exact ih131 M23 v41_1 0 0 o41_4 o41_5 z_41 k_41 v41_1 x32 hJ24 (by omega) (by omega) (by have := zt_0; omega) (by have := zt_0; omega) (by have := zt_0; omega) (by have := zt_0; omega) f27 (by have := zt_0; omega) f38 (by have := zt_0; omega) (by have := zt_0; omega) f39 (by have := zt_0; omega) f29 (by have := zt_0; omega) (by have := zt_0; omega) (by have := zt_0; omega) (by have := zt_0; omega)
            · skip
              refine w_clt_f dX9_isDigit_3 (t := 16) rfl (by have := zt_48; omega) ?_
              refine w_lo dX9_isDigit_6 rfl rfl rfl rfl ?_
              refine w_bi dX9_isDigit_7 (c := 57) (by decide) ?_
              rcases zcut (57 : Int) x32.toInt with h40 | h40
              · skip
                refine w_cgt_t dX9_isDigit_9 (t := 16) rfl (by have := zt_57; omega) ?_
                refine w_ic dX9_isDigit_16 zi_0 ?_
                refine w_en dX9_isDigit_17 rfl ?_
                show ZW _ _ _ _ _ _ _ (84, [some (.ref 386), some (.int v41_1), some (.int 0), o41_3, o41_4, o41_5], [.int 0], M23)
                refine w_lo (ml' := [some (.ref 386), some (.int v41_1), some (.int 0), some (.int 0), o41_4, o41_5]) dX9_ahead_84 rfl rfl rfl rfl ?_
                refine w_lo dX9_ahead_85 rfl rfl rfl rfl ?_
                refine w_ine_f dX9_ahead_86 (t := 93) rfl (by have := zt_0; omega) ?_
                refine w_lo dX9_ahead_89 rfl rfl rfl rfl ?_
                refine w_ieq_t dX9_ahead_90 (t := 131) rfl (by have := zt_0; omega) ?_
                have f41 := (hn26 (386) 8 (Or.inr (by decide))).trans ((hn22 (386) 8 (Or.inr (by decide))).trans ((hn18 (386) 8 (Or.inr (by decide))).trans (hfk_41)))
                have f42 := (hn26 (386) 4 (Or.inr (by decide))).trans ((hn22 (386) 4 (Or.inr (by decide))).trans (f17))
                exact ih131 M23 v41_1 0 0 o41_4 o41_5 z_41 k_41 v41_1 x32 hJ24 (by omega) (by omega) (by have := zt_0; omega) (by have := zt_0; omega) (by have := zt_0; omega) (by have := zt_0; omega) f27 (by have := zt_0; omega) f41 (by have := zt_0; omega) (by have := zt_0; omega) f42 (by have := zt_0; omega) f29 (by have := zt_0; omega) (by have := zt_0; omega) (by have := zt_0; omega) (by have := zt_0; omega)
              · skip
                refine w_cgt_f dX9_isDigit_9 (t := 16) rfl (by have := zt_57; omega) ?_
                refine w_ic dX9_isDigit_12 zi_1 ?_
                refine w_gt dX9_isDigit_13 (t := 17) rfl ?_
                refine w_en dX9_isDigit_17 rfl ?_
                show ZW _ _ _ _ _ _ _ (84, [some (.ref 386), some (.int v41_1), some (.int 0), o41_3, o41_4, o41_5], [.int 1], M23)
                refine w_lo (ml' := [some (.ref 386), some (.int v41_1), some (.int 0), some (.int 1), o41_4, o41_5]) dX9_ahead_84 rfl rfl rfl rfl ?_
                refine w_lo dX9_ahead_85 rfl rfl rfl rfl ?_
                refine w_ine_f dX9_ahead_86 (t := 93) rfl (by have := zt_0; omega) ?_
                refine w_lo dX9_ahead_89 rfl rfl rfl rfl ?_
                refine w_ieq_f dX9_ahead_90 (t := 131) rfl (by have := zt_1; omega) ?_
                have f43 := (hn26 (386) 8 (Or.inr (by decide))).trans ((hn22 (386) 8 (Or.inr (by decide))).trans ((hn18 (386) 8 (Or.inr (by decide))).trans (hfk_41)))
                have f44 := (hn26 (386) 4 (Or.inr (by decide))).trans ((hn22 (386) 4 (Or.inr (by decide))).trans (f17))
                exact ih93 M23 v41_1 0 1 o41_4 o41_5 z_41 k_41 v41_1 x32 hJ24 (by omega) (by omega) (by have := zt_0; omega) (by have := zt_0; omega) (by have := zt_1; omega) (by have := zt_1; omega) f27 (by have := zt_0; have := zt_1; omega) f43 (by have := zt_0; have := zt_1; omega) (by have := zt_0; have := zt_1; omega) f44 (by have := zt_0; have := zt_1; omega) f29 (by have := zt_0; have := zt_1; omega) (by have := zt_0; have := zt_1; omega) (by have := zt_0; have := zt_1; omega) (by have := zt_0; have := zt_1; omega)
          · skip
            refine w_clt_f dX9_isLetter_3 (t := 16) rfl (by have := zt_97; omega) ?_
            refine w_lo dX9_isLetter_6 rfl rfl rfl rfl ?_
            refine w_bi dX9_isLetter_7 (c := 122) (by decide) ?_
            rcases zcut (122 : Int) x32.toInt with h45 | h45
            · skip
              refine w_cgt_t dX9_isLetter_9 (t := 16) rfl (by have := zt_122; omega) ?_
              refine w_ic dX9_isLetter_16 zi_0 ?_
              refine w_en dX9_isLetter_17 rfl ?_
              show ZW _ _ _ _ _ _ _ (74, [some (.ref 386), some (.int v41_1), o41_2, o41_3, o41_4, o41_5], [.int 0], M23)
              refine w_lo (ml' := [some (.ref 386), some (.int v41_1), some (.int 0), o41_3, o41_4, o41_5]) dX9_ahead_74 rfl rfl rfl rfl ?_
              refine w_lo dX9_ahead_75 rfl rfl rfl rfl ?_
              refine w_gf dX9_ahead_76 rfl hJ24.1.1 zs_386 (zr_386_0 hJ24.1) ?_
              refine w_lo dX9_ahead_79 rfl rfl rfl rfl ?_
              refine w_ia dX9_ahead_80 hJ24.1.1 zs_387 (znat (by omega)) f29 ?_
              refine w_ss dX9_ahead_81 rfl rfl (As := [.int x32]) rfl rfl (Nat.le_of_ble_eq_true rfl) ?_
              refine ZV.of (ini := false) rfl (Nat.le_of_ble_eq_true rfl) (by decide +kernel) ?_
              show ZW _ _ _ _ _ _ _ (0, [some (.int x32)], [], M23)
              refine w_lo dX9_isDigit_0 rfl rfl rfl rfl ?_
              refine w_bi dX9_isDigit_1 (c := 48) (by decide) ?_
              refine w_clt_f dX9_isDigit_3 (t := 16) rfl (by have := zt_48; omega) ?_
              refine w_lo dX9_isDigit_6 rfl rfl rfl rfl ?_
              refine w_bi dX9_isDigit_7 (c := 57) (by decide) ?_
              refine w_cgt_t dX9_isDigit_9 (t := 16) rfl (by have := zt_57; omega) ?_
              refine w_ic dX9_isDigit_16 zi_0 ?_
              refine w_en dX9_isDigit_17 rfl ?_
              show ZW _ _ _ _ _ _ _ (84, [some (.ref 386), some (.int v41_1), some (.int 0), o41_3, o41_4, o41_5], [.int 0], M23)
              refine w_lo (ml' := [some (.ref 386), some (.int v41_1), some (.int 0), some (.int 0), o41_4, o41_5]) dX9_ahead_84 rfl rfl rfl rfl ?_
              refine w_lo dX9_ahead_85 rfl rfl rfl rfl ?_
              refine w_ine_f dX9_ahead_86 (t := 93) rfl (by have := zt_0; omega) ?_
              refine w_lo dX9_ahead_89 rfl rfl rfl rfl ?_
              refine w_ieq_t dX9_ahead_90 (t := 131) rfl (by have := zt_0; omega) ?_
              have f49 := (hn26 (386) 8 (Or.inr (by decide))).trans ((hn22 (386) 8 (Or.inr (by decide))).trans ((hn18 (386) 8 (Or.inr (by decide))).trans (hfk_41)))
              have f50 := (hn26 (386) 4 (Or.inr (by decide))).trans ((hn22 (386) 4 (Or.inr (by decide))).trans (f17))
              exact ih131 M23 v41_1 0 0 o41_4 o41_5 z_41 k_41 v41_1 x32 hJ24 (by omega) (by omega) (by have := zt_0; omega) (by have := zt_0; omega) (by have := zt_0; omega) (by have := zt_0; omega) f27 (by have := zt_0; omega) f49 (by have := zt_0; omega) (by have := zt_0; omega) f50 (by have := zt_0; omega) f29 (by have := zt_0; omega) (by have := zt_0; omega) (by have := zt_0; omega) (by have := zt_0; omega)
            · skip
              refine w_cgt_f dX9_isLetter_9 (t := 16) rfl (by have := zt_122; omega) ?_
              refine w_ic dX9_isLetter_12 zi_1 ?_
              refine w_gt dX9_isLetter_13 (t := 17) rfl ?_
              refine w_en dX9_isLetter_17 rfl ?_
              show ZW _ _ _ _ _ _ _ (74, [some (.ref 386), some (.int v41_1), o41_2, o41_3, o41_4, o41_5], [.int 1], M23)
              refine w_lo (ml' := [some (.ref 386), some (.int v41_1), some (.int 1), o41_3, o41_4, o41_5]) dX9_ahead_74 rfl rfl rfl rfl ?_
              refine w_lo dX9_ahead_75 rfl rfl rfl rfl ?_
              refine w_gf dX9_ahead_76 rfl hJ24.1.1 zs_386 (zr_386_0 hJ24.1) ?_
              refine w_lo dX9_ahead_79 rfl rfl rfl rfl ?_
              refine w_ia dX9_ahead_80 hJ24.1.1 zs_387 (znat (by omega)) f29 ?_
              refine w_ss dX9_ahead_81 rfl rfl (As := [.int x32]) rfl rfl (Nat.le_of_ble_eq_true rfl) ?_
              refine ZV.of (ini := false) rfl (Nat.le_of_ble_eq_true rfl) (by decide +kernel) ?_
              show ZW _ _ _ _ _ _ _ (0, [some (.int x32)], [], M23)
              refine w_lo dX9_isDigit_0 rfl rfl rfl rfl ?_
              refine w_bi dX9_isDigit_1 (c := 48) (by decide) ?_
              refine w_clt_f dX9_isDigit_3 (t := 16) rfl (by have := zt_48; omega) ?_
              refine w_lo dX9_isDigit_6 rfl rfl rfl rfl ?_
              refine w_bi dX9_isDigit_7 (c := 57) (by decide) ?_
              refine w_cgt_t dX9_isDigit_9 (t := 16) rfl (by have := zt_57; omega) ?_
              refine w_ic dX9_isDigit_16 zi_0 ?_
              refine w_en dX9_isDigit_17 rfl ?_
              show ZW _ _ _ _ _ _ _ (84, [some (.ref 386), some (.int v41_1), some (.int 1), o41_3, o41_4, o41_5], [.int 0], M23)
              refine w_lo (ml' := [some (.ref 386), some (.int v41_1), some (.int 1), some (.int 0), o41_4, o41_5]) dX9_ahead_84 rfl rfl rfl rfl ?_
              refine w_lo dX9_ahead_85 rfl rfl rfl rfl ?_
              refine w_ine_t dX9_ahead_86 (t := 93) rfl (by have := zt_1; omega) ?_
              have f54 := (hn26 (386) 8 (Or.inr (by decide))).trans ((hn22 (386) 8 (Or.inr (by decide))).trans ((hn18 (386) 8 (Or.inr (by decide))).trans (hfk_41)))
              have f55 := (hn26 (386) 4 (Or.inr (by decide))).trans ((hn22 (386) 4 (Or.inr (by decide))).trans (f17))
              exact ih93 M23 v41_1 1 0 o41_4 o41_5 z_41 k_41 v41_1 x32 hJ24 (by omega) (by omega) (by have := zt_1; omega) (by have := zt_1; omega) (by have := zt_0; omega) (by have := zt_0; omega) f27 (by have := zt_1; have := zt_0; omega) f54 (by have := zt_1; have := zt_0; omega) (by have := zt_1; have := zt_0; omega) f55 (by have := zt_1; have := zt_0; omega) f29 (by have := zt_1; have := zt_0; omega) (by have := zt_1; have := zt_0; omega) (by have := zt_1; have := zt_0; omega) (by have := zt_1; have := zt_0; omega)
        · skip
          refine w_clt_f dX9_ahead_61 (t := 65) rfl (by omega) ?_
          refine w_en dX9_ahead_64 rfl ?_
          have f56 := (hn26 (386) 4 (Or.inr (by decide))).trans ((hn22 (386) 4 (Or.inr (by decide))).trans (f17))
          have f57 := (hn26 (386) 5 (Or.inr (by decide))).trans (f21)
          have f58 := (hn26 (386) 8 (Or.inr (by decide))).trans ((hn22 (386) 8 (Or.inr (by decide))).trans ((hn18 (386) 8 (Or.inr (by decide))).trans (hfk_41)))
          exact ⟨_, rfl, hJ24, ⟨z_41, f27, (by omega), 0, f25, (by have := zt_0; omega), (by have := zt_0; omega), v41_1, f56, (by have := zt_0; omega), (by have := zt_0; omega), v41_1, f57, (by have := zt_0; omega), (by have := zt_0; omega), (by have := zt_0; omega), k_41, f58, (by have := zt_0; omega), (by have := zt_0; omega), trivial⟩⟩
      · intro M v93_1 v93_2 v93_3 o93_4 o93_5 z_93 k_93 s_93 c_93 hJ v93_10 v93_11 v93_20 v93_21 v93_30 v93_31 hfz_93 hrz_930 hfk_93 hrk_930 hrk_931 hfs_93 hrs_930 hfc_93 hrc_930 ann0 ann1 hn
        refine w_lo dX9_ahead_93 rfl rfl rfl rfl ?_
        rcases zcut (0 : Int) v93_1.toInt with h59 | h59
        · skip
          refine w_ile_f dX9_ahead_94 (t := 131) rfl (by omega) ?_
          refine w_lo dX9_ahead_97 rfl rfl rfl rfl ?_
          refine w_gf dX9_ahead_98 rfl hJ.1.1 zs_386 (zr_386_0 hJ.1) ?_
          refine w_lo dX9_ahead_101 rfl rfl rfl rfl ?_
          refine w_ic dX9_ahead_102 zi_1 ?_
          refine w_sub dX9_ahead_103 (by have := zt_1; omega) ?_
          intro x60 h61
          have := zt_1
          refine w_iai dX9_ahead_104 hJ.1 zs_387 (by omega) (by omega) zu_387 ?_
          intro x65 f62 h63 h64
          refine w_ss dX9_ahead_105 rfl rfl (As := [.int x65]) rfl rfl (Nat.le_of_ble_eq_true rfl) ?_
          refine ZV.of (ini := false) rfl (Nat.le_of_ble_eq_true rfl) (by decide +kernel) ?_
          show ZW _ _ _ _ _ _ _ (0, [some (.int x65)], [], M)
          refine w_lo dX9_isLetter_0 rfl rfl rfl rfl ?_
          refine w_bi dX9_isLetter_1 (c := 97) (by decide) ?_
          rcases zcut x65.toInt (97 : Int) with h66 | h66
          · skip
            refine w_clt_t dX9_isLetter_3 (t := 16) rfl (by have := zt_97; omega) ?_
            refine w_ic dX9_isLetter_16 zi_0 ?_
            refine w_en dX9_isLetter_17 rfl ?_
            show ZW _ _ _ _ _ _ _ (108, [some (.ref 386), some (.int v93_1), some (.int v93_2), some (.int v93_3), o93_4, o93_5], [.int 0], M)
            refine w_ine_f dX9_ahead_108 (t := 125) rfl (by have := zt_0; omega) ?_
            refine w_lo dX9_ahead_111 rfl rfl rfl rfl ?_
            refine w_gf dX9_ahead_112 rfl hJ.1.1 zs_386 (zr_386_0 hJ.1) ?_
            refine w_lo dX9_ahead_115 rfl rfl rfl rfl ?_
            refine w_ic dX9_ahead_116 zi_1 ?_
            refine w_sub dX9_ahead_117 (by have := zt_1; omega) ?_
            intro x67 h68
            have := zt_1
            refine w_iai dX9_ahead_118 hJ.1 zs_387 (by omega) (by omega) zu_387 ?_
            intro x72 f69 h70 h71
            refine w_ss dX9_ahead_119 rfl rfl (As := [.int x72]) rfl rfl (Nat.le_of_ble_eq_true rfl) ?_
            refine ZV.of (ini := false) rfl (Nat.le_of_ble_eq_true rfl) (by decide +kernel) ?_
            show ZW _ _ _ _ _ _ _ (0, [some (.int x72)], [], M)
            refine w_lo dX9_isDigit_0 rfl rfl rfl rfl ?_
            refine w_bi dX9_isDigit_1 (c := 48) (by decide) ?_
            rcases zcut x72.toInt (48 : Int) with h73 | h73
            · skip
              refine w_clt_t dX9_isDigit_3 (t := 16) rfl (by have := zt_48; omega) ?_
              refine w_ic dX9_isDigit_16 zi_0 ?_
              refine w_en dX9_isDigit_17 rfl ?_
              show ZW _ _ _ _ _ _ _ (122, [some (.ref 386), some (.int v93_1), some (.int v93_2), some (.int v93_3), o93_4, o93_5], [.int 0], M)
              refine w_ieq_t dX9_ahead_122 (t := 131) rfl (by have := zt_0; omega) ?_
              exact ih131 M v93_1 v93_2 v93_3 o93_4 o93_5 z_93 k_93 s_93 c_93 hJ (by omega) (by omega) (by omega) (by omega) (by omega) (by omega) hfz_93 (by omega) hfk_93 (by omega) (by omega) hfs_93 (by omega) hfc_93 (by omega) (by omega) (by omega) (by omega)
            · skip
              refine w_clt_f dX9_isDigit_3 (t := 16) rfl (by have := zt_48; omega) ?_
              refine w_lo dX9_isDigit_6 rfl rfl rfl rfl ?_
              refine w_bi dX9_isDigit_7 (c := 57) (by decide) ?_
              rcases zcut (57 : Int) x72.toInt with h74 | h74
              · skip
                refine w_cgt_t dX9_isDigit_9 (t := 16) rfl (by have := zt_57; omega) ?_
                refine w_ic dX9_isDigit_16 zi_0 ?_
                refine w_en dX9_isDigit_17 rfl ?_
                show ZW _ _ _ _ _ _ _ (122, [some (.ref 386), some (.int v93_1), some (.int v93_2), some (.int v93_3), o93_4, o93_5], [.int 0], M)
                refine w_ieq_t dX9_ahead_122 (t := 131) rfl (by have := zt_0; omega) ?_
                exact ih131 M v93_1 v93_2 v93_3 o93_4 o93_5 z_93 k_93 s_93 c_93 hJ (by omega) (by omega) (by omega) (by omega) (by omega) (by omega) hfz_93 (by omega) hfk_93 (by omega) (by omega) hfs_93 (by omega) hfc_93 (by omega) (by omega) (by omega) (by omega)
              · skip
                refine w_cgt_f dX9_isDigit_9 (t := 16) rfl (by have := zt_57; omega) ?_
                refine w_ic dX9_isDigit_12 zi_1 ?_
                refine w_gt dX9_isDigit_13 (t := 17) rfl ?_
                refine w_en dX9_isDigit_17 rfl ?_
                show ZW _ _ _ _ _ _ _ (122, [some (.ref 386), some (.int v93_1), some (.int v93_2), some (.int v93_3), o93_4, o93_5], [.int 1], M)
                refine w_ieq_f dX9_ahead_122 (t := 131) rfl (by have := zt_1; omega) ?_
                exact ih125 M v93_1 v93_2 v93_3 o93_4 o93_5 z_93 k_93 s_93 c_93 hJ (by omega) (by omega) (by omega) (by omega) (by omega) (by omega) hfz_93 (by omega) hfk_93 (by omega) (by omega) hfs_93 (by omega) hfc_93 (by omega) (by omega) (by omega) (by omega)
          · skip
            refine w_clt_f dX9_isLetter_3 (t := 16) rfl (by have := zt_97; omega) ?_
            refine w_lo dX9_isLetter_6 rfl rfl rfl rfl ?_
            refine w_bi dX9_isLetter_7 (c := 122) (by decide) ?_
            rcases zcut (122 : Int) x65.toInt with h75 | h75
            · skip
              refine w_cgt_t dX9_isLetter_9 (t := 16) rfl (by have := zt_122; omega) ?_
              refine w_ic dX9_isLetter_16 zi_0 ?_
              refine w_en dX9_isLetter_17 rfl ?_
              show ZW _ _ _ _ _ _ _ (108, [some (.ref 386), some (.int v93_1), some (.int v93_2), some (.int v93_3), o93_4, o93_5], [.int 0], M)
              refine w_ine_f dX9_ahead_108 (t := 125) rfl (by have := zt_0; omega) ?_
              refine w_lo dX9_ahead_111 rfl rfl rfl rfl ?_
              refine w_gf dX9_ahead_112 rfl hJ.1.1 zs_386 (zr_386_0 hJ.1) ?_
              refine w_lo dX9_ahead_115 rfl rfl rfl rfl ?_
              refine w_ic dX9_ahead_116 zi_1 ?_
              refine w_sub dX9_ahead_117 (by have := zt_1; omega) ?_
              intro x76 h77
              have := zt_1
              refine w_iai dX9_ahead_118 hJ.1 zs_387 (by omega) (by omega) zu_387 ?_
              intro x81 f78 h79 h80
              refine w_ss dX9_ahead_119 rfl rfl (As := [.int x81]) rfl rfl (Nat.le_of_ble_eq_true rfl) ?_
              refine ZV.of (ini := false) rfl (Nat.le_of_ble_eq_true rfl) (by decide +kernel) ?_
              show ZW _ _ _ _ _ _ _ (0, [some (.int x81)], [], M)
              refine w_lo dX9_isDigit_0 rfl rfl rfl rfl ?_
              refine w_bi dX9_isDigit_1 (c := 48) (by decide) ?_
              rcases zcut x81.toInt (48 : Int) with h82 | h82
              · skip
                refine w_clt_t dX9_isDigit_3 (t := 16) rfl (by have := zt_48; omega) ?_
                refine w_ic dX9_isDigit_16 zi_0 ?_
                refine w_en dX9_isDigit_17 rfl ?_
                show ZW _ _ _ _ _ _ _ (122, [some (.ref 386), some (.int v93_1), some (.int v93_2), some (.int v93_3), o93_4, o93_5], [.int 0], M)
                refine w_ieq_t dX9_ahead_122 (t := 131) rfl (by have := zt_0; omega) ?_
                exact ih131 M v93_1 v93_2 v93_3 o93_4 o93_5 z_93 k_93 s_93 c_93 hJ (by omega) (by omega) (by omega) (by omega) (by omega) (by omega) hfz_93 (by omega) hfk_93 (by omega) (by omega) hfs_93 (by omega) hfc_93 (by omega) (by omega) (by omega) (by omega)
              · skip
                refine w_clt_f dX9_isDigit_3 (t := 16) rfl (by have := zt_48; omega) ?_
                refine w_lo dX9_isDigit_6 rfl rfl rfl rfl ?_
                refine w_bi dX9_isDigit_7 (c := 57) (by decide) ?_
                rcases zcut (57 : Int) x81.toInt with h83 | h83
                · skip
                  refine w_cgt_t dX9_isDigit_9 (t := 16) rfl (by have := zt_57; omega) ?_
                  refine w_ic dX9_isDigit_16 zi_0 ?_
                  refine w_en dX9_isDigit_17 rfl ?_
                  show ZW _ _ _ _ _ _ _ (122, [some (.ref 386), some (.int v93_1), some (.int v93_2), some (.int v93_3), o93_4, o93_5], [.int 0], M)
                  refine w_ieq_t dX9_ahead_122 (t := 131) rfl (by have := zt_0; omega) ?_
                  exact ih131 M v93_1 v93_2 v93_3 o93_4 o93_5 z_93 k_93 s_93 c_93 hJ (by omega) (by omega) (by omega) (by omega) (by omega) (by omega) hfz_93 (by omega) hfk_93 (by omega) (by omega) hfs_93 (by omega) hfc_93 (by omega) (by omega) (by omega) (by omega)
                · skip
                  refine w_cgt_f dX9_isDigit_9 (t := 16) rfl (by have := zt_57; omega) ?_
                  refine w_ic dX9_isDigit_12 zi_1 ?_
                  refine w_gt dX9_isDigit_13 (t := 17) rfl ?_
                  refine w_en dX9_isDigit_17 rfl ?_
                  show ZW _ _ _ _ _ _ _ (122, [some (.ref 386), some (.int v93_1), some (.int v93_2), some (.int v93_3), o93_4, o93_5], [.int 1], M)
                  refine w_ieq_f dX9_ahead_122 (t := 131) rfl (by have := zt_1; omega) ?_
                  exact ih125 M v93_1 v93_2 v93_3 o93_4 o93_5 z_93 k_93 s_93 c_93 hJ (by omega) (by omega) (by omega) (by omega) (by omega) (by omega) hfz_93 (by omega) hfk_93 (by omega) (by omega) hfs_93 (by omega) hfc_93 (by omega) (by omega) (by omega) (by omega)
            · skip
              refine w_cgt_f dX9_isLetter_9 (t := 16) rfl (by have := zt_122; omega) ?_
              refine w_ic dX9_isLetter_12 zi_1 ?_
              refine w_gt dX9_isLetter_13 (t := 17) rfl ?_
              refine w_en dX9_isLetter_17 rfl ?_
              show ZW _ _ _ _ _ _ _ (108, [some (.ref 386), some (.int v93_1), some (.int v93_2), some (.int v93_3), o93_4, o93_5], [.int 1], M)
              refine w_ine_t dX9_ahead_108 (t := 125) rfl (by have := zt_1; omega) ?_
              exact ih125 M v93_1 v93_2 v93_3 o93_4 o93_5 z_93 k_93 s_93 c_93 hJ (by omega) (by omega) (by omega) (by omega) (by omega) (by omega) hfz_93 (by omega) hfk_93 (by omega) (by omega) hfs_93 (by omega) hfc_93 (by omega) (by omega) (by omega) (by omega)
        · skip
          refine w_ile_t dX9_ahead_94 (t := 131) rfl (by omega) ?_
          exact ih131 M v93_1 v93_2 v93_3 o93_4 o93_5 z_93 k_93 s_93 c_93 hJ (by omega) (by omega) (by omega) (by omega) (by omega) (by omega) hfz_93 (by omega) hfk_93 (by omega) (by omega) hfs_93 (by omega) hfc_93 (by omega) (by omega) (by omega) (by omega)
      · intro M v125_1 v125_2 v125_3 o125_4 o125_5 z_125 k_125 s_125 c_125 hJ v125_10 v125_11 v125_20 v125_21 v125_30 v125_31 hfz_125 hrz_1250 hfk_125 hrk_1250 hrk_1251 hfs_125 hrs_1250 hfc_125 hrc_1250 ann0 ann1 hn
        refine w_lo dX9_ahead_125 rfl rfl rfl rfl ?_
        refine w_ic dX9_ahead_126 zi_1 ?_
        refine w_lo dX9_ahead_127 rfl rfl rfl rfl ?_
        refine w_iv dX9_ahead_128 rfl rfl (As := [.int 1, .int v125_1]) rfl rfl hJ.1.1 zs_386 (Nat.le_of_ble_eq_true rfl) ?_
        refine ZV.of (ini := false) rfl (Nat.le_of_ble_eq_true rfl) (by decide +kernel) ?_
        show ZW _ _ _ _ _ _ _ (0, [some (.ref 386), some (.int 1), some (.int v125_1)], [], M)
        refine w_lo dX9_blame_0 rfl rfl rfl rfl ?_
        refine w_gf dX9_blame_1 rfl hJ.1.1 zs_386 hfk_125 ?_
        rcases zcut (0 : Int) k_125.toInt with h84 | h84
        · skip
          refine w_ile_f dX9_blame_4 (t := 8) rfl (by omega) ?_
          refine w_en dX9_blame_7 rfl ?_
          show ZW _ _ _ _ _ _ _ (131, [some (.ref 386), some (.int v125_1), some (.int v125_2), some (.int v125_3), o125_4, o125_5], [], M)
          exact ih131 M v125_1 v125_2 v125_3 o125_4 o125_5 z_125 k_125 s_125 c_125 hJ (by omega) (by omega) (by omega) (by omega) (by omega) (by omega) hfz_125 (by omega) hfk_125 (by omega) (by omega) hfs_125 (by omega) hfc_125 (by omega) (by omega) (by omega) (by omega)
        · skip
          refine w_ile_t dX9_blame_4 (t := 8) rfl (by omega) ?_
          refine w_lo dX9_blame_8 rfl rfl rfl rfl ?_
          refine w_lo dX9_blame_9 rfl rfl rfl rfl ?_
          refine w_pfi dX9_blame_10 rfl hJ zs_386 (Nat.le_of_ble_eq_true rfl) zo_386_8 (by have := zt_1; omega) (by have := zt_1; omega) (zIR_s (zIR_s (zIR_s (zIR_s (zIR_s (zIR_k (by omega) (by omega))))))) rfl rfl rfl ?_
          intro M85 hJ86 f87 hn88
          refine w_lo dX9_blame_13 rfl rfl rfl rfl ?_
          refine w_lo dX9_blame_14 rfl rfl rfl rfl ?_
          refine w_pfi dX9_blame_15 rfl hJ86 zs_386 (Nat.le_of_ble_eq_true rfl) zo_386_9 (by omega) (by omega) (zIR_s (zIR_s (zIR_s (zIR_s (zIR_s (zIR_s (zIR_k (by omega) (by omega)))))))) rfl rfl rfl ?_
          intro M89 hJ90 f91 hn92
          refine w_en dX9_blame_18 rfl ?_
          show ZW _ _ _ _ _ _ _ (131, [some (.ref 386), some (.int v125_1), some (.int v125_2), some (.int v125_3), o125_4, o125_5], [], M89)
          have f93 := (hn92 (386) 2 (Or.inr (by decide))).trans ((hn88 (386) 2 (Or.inr (by decide))).trans (hfz_125))
          have f94 := (hn92 (386) 8 (Or.inr (by decide))).trans (f87)
          have f95 := (hn92 (386) 4 (Or.inr (by decide))).trans ((hn88 (386) 4 (Or.inr (by decide))).trans (hfs_125))
          have f96 := (hn92 (387) (v125_1 : Int32).toInt.toNat (Or.inl (by omega))).trans ((hn88 (387) (v125_1 : Int32).toInt.toNat (Or.inl (by omega))).trans (hfc_125))
          exact ih131 M89 v125_1 v125_2 v125_3 o125_4 o125_5 z_125 1 s_125 c_125 hJ90 (by omega) (by omega) (by omega) (by omega) (by omega) (by omega) f93 (by have := zt_1; omega) f94 (by have := zt_1; omega) (by have := zt_1; omega) f95 (by have := zt_1; omega) f96 (by have := zt_1; omega) (by have := zt_1; omega) (by have := zt_1; omega) (by have := zt_1; omega)
      · intro M v131_1 v131_2 v131_3 o131_4 o131_5 z_131 k_131 s_131 c_131 hJ v131_10 v131_11 v131_20 v131_21 v131_30 v131_31 hfz_131 hrz_1310 hfk_131 hrk_1310 hrk_1311 hfs_131 hrs_1310 hfc_131 hrc_1310 ann0 ann1 hn
        refine w_lo dX9_ahead_131 rfl rfl rfl rfl ?_
        refine w_ic dX9_ahead_132 zi_0 ?_
        refine w_pfi dX9_ahead_133 rfl hJ zs_386 (Nat.le_of_ble_eq_true rfl) zo_386_6 (zbot _) (ztop _) (zIR_s (zIR_s (zIR_s (zIR_k (by omega) (by omega))))) rfl rfl rfl ?_
        intro M97 hJ98 f99 hn100
        refine w_lo dX9_ahead_136 rfl rfl rfl rfl ?_
        refine w_lc dX9_ahead_137 (c := (0 : Int64)) (by decide) ?_
        refine w_pfl dX9_ahead_138 rfl hJ98 zs_386 (Nat.le_of_ble_eq_true rfl) zo_386_7 (zlbot _) (zltop _) (zIR_s (zIR_s (zIR_s (zIR_s (zIR_k (by omega) (by omega)))))) rfl rfl rfl ?_
        intro M101 hJ102 f103 hn104
        refine w_lo dX9_ahead_141 rfl rfl rfl rfl ?_
        refine w_ic dX9_ahead_142 zi_3 ?_
        refine w_pfi dX9_ahead_143 rfl hJ102 zs_386 (Nat.le_of_ble_eq_true rfl) zo_386_3 (by have := zt_3; omega) (by have := zt_3; omega) (zIR_k (by omega) (by omega)) rfl rfl rfl ?_
        intro M105 hJ106 f107 hn108
        refine w_lo dX9_ahead_146 rfl rfl rfl rfl ?_
        refine w_lo dX9_ahead_147 rfl rfl rfl rfl ?_
        refine w_ic dX9_ahead_148 zi_1 ?_
        refine w_add dX9_ahead_149 (by have := zt_1; omega) ?_
        intro x109 h110
        have := zt_1
        refine w_pfi dX9_ahead_150 rfl hJ106 zs_386 (Nat.le_of_ble_eq_true rfl) zo_386_5 (by omega) (by omega) (zIR_s (zIR_s (zIR_k (by omega) (by omega)))) rfl rfl rfl ?_
        intro M111 hJ112 f113 hn114
        refine w_lo dX9_ahead_153 rfl rfl rfl rfl ?_
        rcases Int.decEq v131_2.toInt (0 : Int) with h115 | h115
        · skip
          refine w_ine_t dX9_ahead_154 (t := 172) rfl (by omega) ?_
          refine w_lo dX9_ahead_172 rfl rfl rfl rfl ?_
          refine w_lo dX9_ahead_173 rfl rfl rfl rfl ?_
          refine w_ieq_f dX9_ahead_174 (t := 181) rfl (by omega) ?_
          refine w_ic dX9_ahead_177 zi_1 ?_
          refine w_gt dX9_ahead_178 (t := 182) rfl ?_
          refine w_pfi dX9_ahead_182 rfl hJ112 zs_386 (Nat.le_of_ble_eq_true rfl) zo_386_3 (by have := zt_1; omega) (by have := zt_1; omega) (zIR_k (by omega) (by omega)) rfl rfl rfl ?_
          intro M116 hJ117 f118 hn119
          refine w_lo dX9_ahead_185 rfl rfl rfl rfl ?_
          refine w_ieq_f dX9_ahead_186 (t := 194) rfl (by omega) ?_
          refine w_bi dX9_ahead_189 (c := 6) (by decide) ?_
          refine w_gt dX9_ahead_191 (t := 195) rfl ?_
          refine w_lo (ml' := [some (.ref 386), some (.int v131_1), some (.int v131_2), some (.int v131_3), some (.int 6), o131_5]) dX9_ahead_195 rfl rfl rfl rfl ?_
          refine w_ic dX9_ahead_197 zi_0 ?_
          refine w_lo (ml' := [some (.ref 386), some (.int v131_1), some (.int v131_2), some (.int v131_3), some (.int 6), some (.int 0)]) dX9_ahead_198 rfl rfl rfl rfl ?_
          have f120 := (hn119 (386) 2 (Or.inr (by decide))).trans ((hn114 (386) 2 (Or.inr (by decide))).trans ((hn108 (386) 2 (Or.inr (by decide))).trans ((hn104 (386) 2 (Or.inr (by decide))).trans ((hn100 (386) 2 (Or.inr (by decide))).trans (hfz_131)))))
          have f121 := (hn119 (386) 8 (Or.inr (by decide))).trans ((hn114 (386) 8 (Or.inr (by decide))).trans ((hn108 (386) 8 (Or.inr (by decide))).trans ((hn104 (386) 8 (Or.inr (by decide))).trans ((hn100 (386) 8 (Or.inr (by decide))).trans (hfk_131)))))
          have f122 := (hn119 (386) 4 (Or.inr (by decide))).trans ((hn114 (386) 4 (Or.inr (by decide))).trans ((hn108 (386) 4 (Or.inr (by decide))).trans ((hn104 (386) 4 (Or.inr (by decide))).trans ((hn100 (386) 4 (Or.inr (by decide))).trans (hfs_131)))))
          have f123 := (hn119 (387) (v131_1 : Int32).toInt.toNat (Or.inl (by omega))).trans ((hn114 (387) (v131_1 : Int32).toInt.toNat (Or.inl (by omega))).trans ((hn108 (387) (v131_1 : Int32).toInt.toNat (Or.inl (by omega))).trans ((hn104 (387) (v131_1 : Int32).toInt.toNat (Or.inl (by omega))).trans ((hn100 (387) (v131_1 : Int32).toInt.toNat (Or.inl (by omega))).trans (hfc_131)))))
          exact ih200 M116 v131_1 v131_2 v131_3 6 0 z_131 k_131 1 s_131 c_131 hJ117 (by omega) (by omega) (by omega) (by omega) (by omega) (by omega) (by have := zt_6; omega) (by have := zt_6; omega) (zbot _) (ztop _) f120 (by have := zt_6; have := zt_0; have := zt_1; omega) f121 (by have := zt_6; have := zt_0; have := zt_1; omega) (by have := zt_6; have := zt_0; have := zt_1; omega) f118 (by have := zt_6; have := zt_0; have := zt_1; omega) (by have := zt_6; have := zt_0; have := zt_1; omega) f122 (by have := zt_6; have := zt_0; have := zt_1; omega) (by have := zt_6; have := zt_0; have := zt_1; omega) f123 (by have := zt_6; have := zt_0; have := zt_1; omega) (by have := zt_6; have := zt_0; have := zt_1; omega) (by have := zt_6; have := zt_0; have := zt_1; omega)
        · skip
          refine w_ine_f dX9_ahead_154 (t := 172) rfl (by omega) ?_
          refine w_lo dX9_ahead_157 rfl rfl rfl rfl ?_
          rcases Int.decEq v131_3.toInt (0 : Int) with h124 | h124
          · skip
            refine w_ine_t dX9_ahead_158 (t := 172) rfl (by omega) ?_
            refine w_lo dX9_ahead_172 rfl rfl rfl rfl ?_
            refine w_lo dX9_ahead_173 rfl rfl rfl rfl ?_
            refine w_ieq_t dX9_ahead_174 (t := 181) rfl (by omega) ?_
            refine w_ic dX9_ahead_181 zi_2 ?_
            refine w_pfi dX9_ahead_182 rfl hJ112 zs_386 (Nat.le_of_ble_eq_true rfl) zo_386_3 (by have := zt_2; omega) (by have := zt_2; omega) (zIR_k (by omega) (by omega)) rfl rfl rfl ?_
            intro M125 hJ126 f127 hn128
            refine w_lo dX9_ahead_185 rfl rfl rfl rfl ?_
            refine w_ieq_t dX9_ahead_186 (t := 194) rfl (by omega) ?_
            refine w_ic dX9_ahead_194 zi_4 ?_
            refine w_lo (ml' := [some (.ref 386), some (.int v131_1), some (.int v131_2), some (.int v131_3), some (.int 4), o131_5]) dX9_ahead_195 rfl rfl rfl rfl ?_
            refine w_ic dX9_ahead_197 zi_0 ?_
            refine w_lo (ml' := [some (.ref 386), some (.int v131_1), some (.int v131_2), some (.int v131_3), some (.int 4), some (.int 0)]) dX9_ahead_198 rfl rfl rfl rfl ?_
            have f129 := (hn128 (386) 2 (Or.inr (by decide))).trans ((hn114 (386) 2 (Or.inr (by decide))).trans ((hn108 (386) 2 (Or.inr (by decide))).trans ((hn104 (386) 2 (Or.inr (by decide))).trans ((hn100 (386) 2 (Or.inr (by decide))).trans (hfz_131)))))
            have f130 := (hn128 (386) 8 (Or.inr (by decide))).trans ((hn114 (386) 8 (Or.inr (by decide))).trans ((hn108 (386) 8 (Or.inr (by decide))).trans ((hn104 (386) 8 (Or.inr (by decide))).trans ((hn100 (386) 8 (Or.inr (by decide))).trans (hfk_131)))))
            have f131 := (hn128 (386) 4 (Or.inr (by decide))).trans ((hn114 (386) 4 (Or.inr (by decide))).trans ((hn108 (386) 4 (Or.inr (by decide))).trans ((hn104 (386) 4 (Or.inr (by decide))).trans ((hn100 (386) 4 (Or.inr (by decide))).trans (hfs_131)))))
            have f132 := (hn128 (387) (v131_1 : Int32).toInt.toNat (Or.inl (by omega))).trans ((hn114 (387) (v131_1 : Int32).toInt.toNat (Or.inl (by omega))).trans ((hn108 (387) (v131_1 : Int32).toInt.toNat (Or.inl (by omega))).trans ((hn104 (387) (v131_1 : Int32).toInt.toNat (Or.inl (by omega))).trans ((hn100 (387) (v131_1 : Int32).toInt.toNat (Or.inl (by omega))).trans (hfc_131)))))
            exact ih200 M125 v131_1 v131_2 v131_3 4 0 z_131 k_131 2 s_131 c_131 hJ126 (by omega) (by omega) (by omega) (by omega) (by omega) (by omega) (by have := zt_4; omega) (by have := zt_4; omega) (zbot _) (ztop _) f129 (by have := zt_4; have := zt_0; have := zt_2; omega) f130 (by have := zt_4; have := zt_0; have := zt_2; omega) (by have := zt_4; have := zt_0; have := zt_2; omega) f127 (by have := zt_4; have := zt_0; have := zt_2; omega) (by have := zt_4; have := zt_0; have := zt_2; omega) f131 (by have := zt_4; have := zt_0; have := zt_2; omega) (by have := zt_4; have := zt_0; have := zt_2; omega) f132 (by have := zt_4; have := zt_0; have := zt_2; omega) (by have := zt_4; have := zt_0; have := zt_2; omega) (by have := zt_4; have := zt_0; have := zt_2; omega)
          · skip
            refine w_ine_f dX9_ahead_158 (t := 172) rfl (by omega) ?_
            refine w_lo dX9_ahead_161 rfl rfl rfl rfl ?_
            refine w_lo dX9_ahead_162 rfl rfl rfl rfl ?_
            refine w_gf dX9_ahead_163 rfl hJ112.1.1 zs_386 (zr_386_0 hJ112.1) ?_
            refine w_lo dX9_ahead_166 rfl rfl rfl rfl ?_
            have f136 := (hn114 (387) (v131_1 : Int32).toInt.toNat (Or.inl (by omega))).trans ((hn108 (387) (v131_1 : Int32).toInt.toNat (Or.inl (by omega))).trans ((hn104 (387) (v131_1 : Int32).toInt.toNat (Or.inl (by omega))).trans ((hn100 (387) (v131_1 : Int32).toInt.toNat (Or.inl (by omega))).trans (hfc_131))))
            refine w_ia dX9_ahead_167 hJ112.1.1 zs_387 (znat (by omega)) f136 ?_
            refine w_pfi dX9_ahead_168 rfl hJ112 zs_386 (Nat.le_of_ble_eq_true rfl) zo_386_6 (zbot _) (ztop _) (zIR_s (zIR_s (zIR_s (zIR_k (by omega) (by omega))))) rfl rfl rfl ?_
            intro M137 hJ138 f139 hn140
            refine w_en dX9_ahead_171 rfl ?_
            have f141 := (hn140 (386) 2 (Or.inr (by decide))).trans ((hn114 (386) 2 (Or.inr (by decide))).trans ((hn108 (386) 2 (Or.inr (by decide))).trans ((hn104 (386) 2 (Or.inr (by decide))).trans ((hn100 (386) 2 (Or.inr (by decide))).trans (hfz_131)))))
            have f142 := (hn140 (386) 3 (Or.inr (by decide))).trans ((hn114 (386) 3 (Or.inr (by decide))).trans (f107))
            have f143 := (hn140 (386) 4 (Or.inr (by decide))).trans ((hn114 (386) 4 (Or.inr (by decide))).trans ((hn108 (386) 4 (Or.inr (by decide))).trans ((hn104 (386) 4 (Or.inr (by decide))).trans ((hn100 (386) 4 (Or.inr (by decide))).trans (hfs_131)))))
            have f144 := (hn140 (386) 5 (Or.inr (by decide))).trans (f113)
            have f145 := (hn140 (386) 8 (Or.inr (by decide))).trans ((hn114 (386) 8 (Or.inr (by decide))).trans ((hn108 (386) 8 (Or.inr (by decide))).trans ((hn104 (386) 8 (Or.inr (by decide))).trans ((hn100 (386) 8 (Or.inr (by decide))).trans (hfk_131)))))
            exact ⟨_, rfl, hJ138, ⟨z_131, f141, (by omega), 3, f142, (by have := zt_3; omega), (by have := zt_3; omega), s_131, f143, (by have := zt_3; omega), (by have := zt_3; omega), x109, f144, (by have := zt_3; omega), (by have := zt_3; omega), (by have := zt_3; omega), k_131, f145, (by have := zt_3; omega), (by have := zt_3; omega), trivial⟩⟩
      · intro M v200_1 v200_2 v200_3 v200_4 v200_5 z_200 k_200 g_200 s_200 c_200 hJ v200_10 v200_11 v200_20 v200_21 v200_30 v200_31 v200_40 v200_41 v200_50 v200_51 hfz_200 hrz_2000 hfk_200 hrk_2000 hrk_2001 hfg_200 hrg_2000 hrg_2001 hfs_200 hrs_2000 hrs_2001 hfc_200 hrc_2000 ann0 hn
        refine w_lo dX9_ahead_200 rfl rfl rfl rfl ?_
        refine w_lo dX9_ahead_201 rfl rfl rfl rfl ?_
        refine w_gf dX9_ahead_202 rfl hJ.1.1 zs_386 hfz_200 ?_
        rcases zcut v200_1.toInt z_200.toInt with h146 | h146
        · skip
          refine w_cge_f dX9_ahead_205 (t := 323) rfl (by omega) ?_
          refine w_lo dX9_ahead_208 rfl rfl rfl rfl ?_
          rcases Int.decEq v200_2.toInt (0 : Int) with h147 | h147
          · skip
            refine w_ieq_f dX9_ahead_209 (t := 227) rfl (by omega) ?_
            refine w_lo dX9_ahead_212 rfl rfl rfl rfl ?_
            refine w_gf dX9_ahead_213 rfl hJ.1.1 zs_386 (zr_386_0 hJ.1) ?_
            refine w_lo dX9_ahead_216 rfl rfl rfl rfl ?_
            refine w_ia dX9_ahead_217 hJ.1.1 zs_387 (znat (by omega)) hfc_200 ?_
            refine w_ss dX9_ahead_218 rfl rfl (As := [.int c_200]) rfl rfl (Nat.le_of_ble_eq_true rfl) ?_
            refine ZV.of (ini := false) rfl (Nat.le_of_ble_eq_true rfl) (by decide +kernel) ?_
            show ZW _ _ _ _ _ _ _ (0, [some (.int c_200)], [], M)
            refine w_lo dX9_isLetter_0 rfl rfl rfl rfl ?_
            refine w_bi dX9_isLetter_1 (c := 97) (by decide) ?_
            rcases zcut c_200.toInt (97 : Int) with h151 | h151
            · skip
              refine w_clt_t dX9_isLetter_3 (t := 16) rfl (by have := zt_97; omega) ?_
              refine w_ic dX9_isLetter_16 zi_0 ?_
              refine w_en dX9_isLetter_17 rfl ?_
              show ZW _ _ _ _ _ _ _ (221, [some (.ref 386), some (.int v200_1), some (.int v200_2), some (.int v200_3), some (.int v200_4), some (.int v200_5)], [.int 0], M)
              refine w_ieq_t dX9_ahead_221 (t := 323) rfl (by have := zt_0; omega) ?_
              refine w_lo dX9_ahead_323 rfl rfl rfl rfl ?_
              refine w_lo dX9_ahead_324 rfl rfl rfl rfl ?_
              refine w_pfi dX9_ahead_325 rfl hJ zs_386 (Nat.le_of_ble_eq_true rfl) zo_386_5 (by omega) (by omega) (zIR_s (zIR_s (zIR_k (by omega) (by omega)))) rfl rfl rfl ?_
              intro M152 hJ153 f154 hn155
              refine w_en dX9_ahead_328 rfl ?_
              have f156 := (hn155 (386) 2 (Or.inr (by decide))).trans (hfz_200)
              have f157 := (hn155 (386) 3 (Or.inr (by decide))).trans (hfg_200)
              have f158 := (hn155 (386) 4 (Or.inr (by decide))).trans (hfs_200)
              have f159 := (hn155 (386) 8 (Or.inr (by decide))).trans (hfk_200)
              exact ⟨_, rfl, hJ153, ⟨z_200, f156, (by omega), g_200, f157, (by omega), (by omega), s_200, f158, (by omega), (by omega), v200_1, f154, (by omega), (by omega), (by omega), k_200, f159, (by omega), (by omega), trivial⟩⟩
            · skip
              refine w_clt_f dX9_isLetter_3 (t := 16) rfl (by have := zt_97; omega) ?_
              refine w_lo dX9_isLetter_6 rfl rfl rfl rfl ?_
              refine w_bi dX9_isLetter_7 (c := 122) (by decide) ?_
              rcases zcut (122 : Int) c_200.toInt with h160 | h160
              · skip
                refine w_cgt_t dX9_isLetter_9 (t := 16) rfl (by have := zt_122; omega) ?_
                refine w_ic dX9_isLetter_16 zi_0 ?_
                refine w_en dX9_isLetter_17 rfl ?_
                show ZW _ _ _ _ _ _ _ (221, [some (.ref 386), some (.int v200_1), some (.int v200_2), some (.int v200_3), some (.int v200_4), some (.int v200_5)], [.int 0], M)
                refine w_ieq_t dX9_ahead_221 (t := 323) rfl (by have := zt_0; omega) ?_
                refine w_lo dX9_ahead_323 rfl rfl rfl rfl ?_
                refine w_lo dX9_ahead_324 rfl rfl rfl rfl ?_
                refine w_pfi dX9_ahead_325 rfl hJ zs_386 (Nat.le_of_ble_eq_true rfl) zo_386_5 (by omega) (by omega) (zIR_s (zIR_s (zIR_k (by omega) (by omega)))) rfl rfl rfl ?_
                intro M161 hJ162 f163 hn164
                refine w_en dX9_ahead_328 rfl ?_
                have f165 := (hn164 (386) 2 (Or.inr (by decide))).trans (hfz_200)
                have f166 := (hn164 (386) 3 (Or.inr (by decide))).trans (hfg_200)
                have f167 := (hn164 (386) 4 (Or.inr (by decide))).trans (hfs_200)
                have f168 := (hn164 (386) 8 (Or.inr (by decide))).trans (hfk_200)
                exact ⟨_, rfl, hJ162, ⟨z_200, f165, (by omega), g_200, f166, (by omega), (by omega), s_200, f167, (by omega), (by omega), v200_1, f163, (by omega), (by omega), (by omega), k_200, f168, (by omega), (by omega), trivial⟩⟩
              · skip
                refine w_cgt_f dX9_isLetter_9 (t := 16) rfl (by have := zt_122; omega) ?_
                refine w_ic dX9_isLetter_12 zi_1 ?_
                refine w_gt dX9_isLetter_13 (t := 17) rfl ?_
                refine w_en dX9_isLetter_17 rfl ?_
                show ZW _ _ _ _ _ _ _ (221, [some (.ref 386), some (.int v200_1), some (.int v200_2), some (.int v200_3), some (.int v200_4), some (.int v200_5)], [.int 1], M)
                refine w_ieq_f dX9_ahead_221 (t := 323) rfl (by have := zt_1; omega) ?_
                refine w_gt dX9_ahead_224 (t := 239) rfl ?_
                exact ih239 M v200_1 v200_2 v200_3 v200_4 v200_5 z_200 k_200 g_200 s_200 hJ (by omega) (by omega) (by omega) (by omega) (by omega) (by omega) (by omega) (by omega) (zbot _) (ztop _) hfz_200 (by omega) hfk_200 (by omega) (by omega) hfg_200 (by omega) (by omega) hfs_200 (by omega) (by omega) (by omega) (by omega)
          · skip
            refine w_ieq_t dX9_ahead_209 (t := 227) rfl (by omega) ?_
            refine w_lo dX9_ahead_227 rfl rfl rfl rfl ?_
            refine w_gf dX9_ahead_228 rfl hJ.1.1 zs_386 (zr_386_0 hJ.1) ?_
            refine w_lo dX9_ahead_231 rfl rfl rfl rfl ?_
            refine w_ia dX9_ahead_232 hJ.1.1 zs_387 (znat (by omega)) hfc_200 ?_
            refine w_ss dX9_ahead_233 rfl rfl (As := [.int c_200]) rfl rfl (Nat.le_of_ble_eq_true rfl) ?_
            refine ZV.of (ini := false) rfl (Nat.le_of_ble_eq_true rfl) (by decide +kernel) ?_
            show ZW _ _ _ _ _ _ _ (0, [some (.int c_200)], [], M)
            refine w_lo dX9_isDigit_0 rfl rfl rfl rfl ?_
            refine w_bi dX9_isDigit_1 (c := 48) (by decide) ?_
            rcases zcut c_200.toInt (48 : Int) with h172 | h172
            · skip
              refine w_clt_t dX9_isDigit_3 (t := 16) rfl (by have := zt_48; omega) ?_
              refine w_ic dX9_isDigit_16 zi_0 ?_
              refine w_en dX9_isDigit_17 rfl ?_
              show ZW _ _ _ _ _ _ _ (236, [some (.ref 386), some (.int v200_1), some (.int v200_2), some (.int v200_3), some (.int v200_4), some (.int v200_5)], [.int 0], M)
              refine w_ieq_t dX9_ahead_236 (t := 323) rfl (by have := zt_0; omega) ?_
              refine w_lo dX9_ahead_323 rfl rfl rfl rfl ?_
              refine w_lo dX9_ahead_324 rfl rfl rfl rfl ?_
              refine w_pfi dX9_ahead_325 rfl hJ zs_386 (Nat.le_of_ble_eq_true rfl) zo_386_5 (by omega) (by omega) (zIR_s (zIR_s (zIR_k (by omega) (by omega)))) rfl rfl rfl ?_
              intro M173 hJ174 f175 hn176
              refine w_en dX9_ahead_328 rfl ?_
              have f177 := (hn176 (386) 2 (Or.inr (by decide))).trans (hfz_200)
              have f178 := (hn176 (386) 3 (Or.inr (by decide))).trans (hfg_200)
              have f179 := (hn176 (386) 4 (Or.inr (by decide))).trans (hfs_200)
              have f180 := (hn176 (386) 8 (Or.inr (by decide))).trans (hfk_200)
              exact ⟨_, rfl, hJ174, ⟨z_200, f177, (by omega), g_200, f178, (by omega), (by omega), s_200, f179, (by omega), (by omega), v200_1, f175, (by omega), (by omega), (by omega), k_200, f180, (by omega), (by omega), trivial⟩⟩
            · skip
              refine w_clt_f dX9_isDigit_3 (t := 16) rfl (by have := zt_48; omega) ?_
              refine w_lo dX9_isDigit_6 rfl rfl rfl rfl ?_
              refine w_bi dX9_isDigit_7 (c := 57) (by decide) ?_
              rcases zcut (57 : Int) c_200.toInt with h181 | h181
              · skip
                refine w_cgt_t dX9_isDigit_9 (t := 16) rfl (by have := zt_57; omega) ?_
                refine w_ic dX9_isDigit_16 zi_0 ?_
                refine w_en dX9_isDigit_17 rfl ?_
                show ZW _ _ _ _ _ _ _ (236, [some (.ref 386), some (.int v200_1), some (.int v200_2), some (.int v200_3), some (.int v200_4), some (.int v200_5)], [.int 0], M)
                refine w_ieq_t dX9_ahead_236 (t := 323) rfl (by have := zt_0; omega) ?_
                refine w_lo dX9_ahead_323 rfl rfl rfl rfl ?_
                refine w_lo dX9_ahead_324 rfl rfl rfl rfl ?_
                refine w_pfi dX9_ahead_325 rfl hJ zs_386 (Nat.le_of_ble_eq_true rfl) zo_386_5 (by omega) (by omega) (zIR_s (zIR_s (zIR_k (by omega) (by omega)))) rfl rfl rfl ?_
                intro M182 hJ183 f184 hn185
                refine w_en dX9_ahead_328 rfl ?_
                have f186 := (hn185 (386) 2 (Or.inr (by decide))).trans (hfz_200)
                have f187 := (hn185 (386) 3 (Or.inr (by decide))).trans (hfg_200)
                have f188 := (hn185 (386) 4 (Or.inr (by decide))).trans (hfs_200)
                have f189 := (hn185 (386) 8 (Or.inr (by decide))).trans (hfk_200)
                exact ⟨_, rfl, hJ183, ⟨z_200, f186, (by omega), g_200, f187, (by omega), (by omega), s_200, f188, (by omega), (by omega), v200_1, f184, (by omega), (by omega), (by omega), k_200, f189, (by omega), (by omega), trivial⟩⟩
              · skip
                refine w_cgt_f dX9_isDigit_9 (t := 16) rfl (by have := zt_57; omega) ?_
                refine w_ic dX9_isDigit_12 zi_1 ?_
                refine w_gt dX9_isDigit_13 (t := 17) rfl ?_
                refine w_en dX9_isDigit_17 rfl ?_
                show ZW _ _ _ _ _ _ _ (236, [some (.ref 386), some (.int v200_1), some (.int v200_2), some (.int v200_3), some (.int v200_4), some (.int v200_5)], [.int 1], M)
                refine w_ieq_f dX9_ahead_236 (t := 323) rfl (by have := zt_1; omega) ?_
                exact ih239 M v200_1 v200_2 v200_3 v200_4 v200_5 z_200 k_200 g_200 s_200 hJ (by omega) (by omega) (by omega) (by omega) (by omega) (by omega) (by omega) (by omega) (zbot _) (ztop _) hfz_200 (by omega) hfk_200 (by omega) (by omega) hfg_200 (by omega) (by omega) hfs_200 (by omega) (by omega) (by omega) (by omega)
        · skip
          refine w_cge_t dX9_ahead_205 (t := 323) rfl (by omega) ?_
          refine w_lo dX9_ahead_323 rfl rfl rfl rfl ?_
          refine w_lo dX9_ahead_324 rfl rfl rfl rfl ?_
          refine w_pfi dX9_ahead_325 rfl hJ zs_386 (Nat.le_of_ble_eq_true rfl) zo_386_5 (by omega) (by omega) (zIR_s (zIR_s (zIR_k (by omega) (by omega)))) rfl rfl rfl ?_
          intro M190 hJ191 f192 hn193
          refine w_en dX9_ahead_328 rfl ?_
          have f194 := (hn193 (386) 2 (Or.inr (by decide))).trans (hfz_200)
          have f195 := (hn193 (386) 3 (Or.inr (by decide))).trans (hfg_200)
          have f196 := (hn193 (386) 4 (Or.inr (by decide))).trans (hfs_200)
          have f197 := (hn193 (386) 8 (Or.inr (by decide))).trans (hfk_200)
          exact ⟨_, rfl, hJ191, ⟨z_200, f194, (by omega), g_200, f195, (by omega), (by omega), s_200, f196, (by omega), (by omega), v200_1, f192, (by omega), (by omega), (by omega), k_200, f197, (by omega), (by omega), trivial⟩⟩
      · intro M v239_1 v239_2 v239_3 v239_4 v239_5 z_239 k_239 g_239 s_239 hJ v239_10 v239_11 v239_20 v239_21 v239_30 v239_31 v239_40 v239_41 v239_50 v239_51 hfz_239 hrz_2390 hfk_239 hrk_2390 hrk_2391 hfg_239 hrg_2390 hrg_2391 hfs_239 hrs_2390 hrs_2391 ann0 hn
        refine w_lo dX9_ahead_239 rfl rfl rfl rfl ?_
        refine w_lo dX9_ahead_241 rfl rfl rfl rfl ?_
        rcases Int.decEq v239_5.toInt v239_4.toInt with h198 | h198
        · skip
          refine w_cne_t dX9_ahead_243 (t := 252) rfl (by omega) ?_
          exact ih252 M v239_1 v239_2 v239_3 v239_4 v239_5 z_239 k_239 g_239 s_239 hJ (by omega) (by omega) (by omega) (by omega) (by omega) (by omega) (by omega) (by omega) (zbot _) (ztop _) hfz_239 (by omega) hfk_239 (by omega) (by omega) hfg_239 (by omega) (by omega) hfs_239 (by omega) (by omega) (by omega) (by omega)
        · skip
          refine w_cne_f dX9_ahead_243 (t := 252) rfl (by omega) ?_
          refine w_lo dX9_ahead_246 rfl rfl rfl rfl ?_
          refine w_ic dX9_ahead_247 zi_1 ?_
          refine w_lo dX9_ahead_248 rfl rfl rfl rfl ?_
          refine w_iv dX9_ahead_249 rfl rfl (As := [.int 1, .int v239_1]) rfl rfl hJ.1.1 zs_386 (Nat.le_of_ble_eq_true rfl) ?_
          refine ZV.of (ini := false) rfl (Nat.le_of_ble_eq_true rfl) (by decide +kernel) ?_
          show ZW _ _ _ _ _ _ _ (0, [some (.ref 386), some (.int 1), some (.int v239_1)], [], M)
          refine w_lo dX9_blame_0 rfl rfl rfl rfl ?_
          refine w_gf dX9_blame_1 rfl hJ.1.1 zs_386 hfk_239 ?_
          rcases zcut (0 : Int) k_239.toInt with h199 | h199
          · skip
            refine w_ile_f dX9_blame_4 (t := 8) rfl (by omega) ?_
            refine w_en dX9_blame_7 rfl ?_
            show ZW _ _ _ _ _ _ _ (252, [some (.ref 386), some (.int v239_1), some (.int v239_2), some (.int v239_3), some (.int v239_4), some (.int v239_5)], [], M)
            exact ih252 M v239_1 v239_2 v239_3 v239_4 v239_5 z_239 k_239 g_239 s_239 hJ (by omega) (by omega) (by omega) (by omega) (by omega) (by omega) (by omega) (by omega) (zbot _) (ztop _) hfz_239 (by omega) hfk_239 (by omega) (by omega) hfg_239 (by omega) (by omega) hfs_239 (by omega) (by omega) (by omega) (by omega)
          · skip
            refine w_ile_t dX9_blame_4 (t := 8) rfl (by omega) ?_
            refine w_lo dX9_blame_8 rfl rfl rfl rfl ?_
            refine w_lo dX9_blame_9 rfl rfl rfl rfl ?_
            refine w_pfi dX9_blame_10 rfl hJ zs_386 (Nat.le_of_ble_eq_true rfl) zo_386_8 (by have := zt_1; omega) (by have := zt_1; omega) (zIR_s (zIR_s (zIR_s (zIR_s (zIR_s (zIR_k (by omega) (by omega))))))) rfl rfl rfl ?_
            intro M200 hJ201 f202 hn203
            refine w_lo dX9_blame_13 rfl rfl rfl rfl ?_
            refine w_lo dX9_blame_14 rfl rfl rfl rfl ?_
            refine w_pfi dX9_blame_15 rfl hJ201 zs_386 (Nat.le_of_ble_eq_true rfl) zo_386_9 (by omega) (by omega) (zIR_s (zIR_s (zIR_s (zIR_s (zIR_s (zIR_s (zIR_k (by omega) (by omega)))))))) rfl rfl rfl ?_
            intro M204 hJ205 f206 hn207
            refine w_en dX9_blame_18 rfl ?_
            show ZW _ _ _ _ _ _ _ (252, [some (.ref 386), some (.int v239_1), some (.int v239_2), some (.int v239_3), some (.int v239_4), some (.int v239_5)], [], M204)
            have f208 := (hn207 (386) 2 (Or.inr (by decide))).trans ((hn203 (386) 2 (Or.inr (by decide))).trans (hfz_239))
            have f209 := (hn207 (386) 8 (Or.inr (by decide))).trans (f202)
            have f210 := (hn207 (386) 3 (Or.inr (by decide))).trans ((hn203 (386) 3 (Or.inr (by decide))).trans (hfg_239))
            have f211 := (hn207 (386) 4 (Or.inr (by decide))).trans ((hn203 (386) 4 (Or.inr (by decide))).trans (hfs_239))
            exact ih252 M204 v239_1 v239_2 v239_3 v239_4 v239_5 z_239 1 g_239 s_239 hJ205 (by omega) (by omega) (by omega) (by omega) (by omega) (by omega) (by omega) (by omega) (zbot _) (ztop _) f208 (by have := zt_1; omega) f209 (by have := zt_1; omega) (by have := zt_1; omega) f210 (by have := zt_1; omega) (by have := zt_1; omega) f211 (by have := zt_1; omega) (by have := zt_1; omega) (by have := zt_1; omega) (by have := zt_1; omega)
      · intro M v252_1 v252_2 v252_3 v252_4 v252_5 z_252 k_252 g_252 s_252 hJ v252_10 v252_11 v252_20 v252_21 v252_30 v252_31 v252_40 v252_41 v252_50 v252_51 hfz_252 hrz_2520 hfk_252 hrk_2520 hrk_2521 hfg_252 hrg_2520 hrg_2521 hfs_252 hrs_2520 hrs_2521 ann0 hn
        refine w_lo dX9_ahead_252 rfl rfl rfl rfl ?_
        refine w_lo dX9_ahead_254 rfl rfl rfl rfl ?_
        rcases zcut v252_5.toInt v252_4.toInt with h212 | h212
        · skip
          refine w_cge_f dX9_ahead_256 (t := 282) rfl (by omega) ?_
          refine w_lo dX9_ahead_259 rfl rfl rfl rfl ?_
          rcases Int.decEq v252_2.toInt (0 : Int) with h213 | h213
          · skip
            refine w_ieq_f dX9_ahead_260 (t := 282) rfl (by omega) ?_
            refine w_lo dX9_ahead_263 rfl rfl rfl rfl ?_
            refine w_lo dX9_ahead_264 rfl rfl rfl rfl ?_
            refine w_gfl dX9_ahead_265 rfl hJ.1 zs_386 (Nat.le_of_ble_eq_true rfl) zo_386_7 ?_
            intro y217 f214 h215 h216
            refine w_bi dX9_ahead_268 (c := 8) (by decide) ?_
            refine w_puL dX9_ahead_270 rfl rfl ?_
            intro y218
            refine w_lo dX9_ahead_271 rfl rfl rfl rfl ?_
            refine w_gf dX9_ahead_272 rfl hJ.1.1 zs_386 (zr_386_0 hJ.1) ?_
            refine w_lo dX9_ahead_275 rfl rfl rfl rfl ?_
            refine w_iai dX9_ahead_276 hJ.1 zs_387 (by omega) (by omega) zu_387 ?_
            intro x222 f219 h220 h221
            refine w_i2l dX9_ahead_277 ?_
            intro y223 h224
            have := ztop x222; have := zbot x222
            refine w_puL dX9_ahead_278 rfl rfl ?_
            intro y225
            refine w_pfl dX9_ahead_279 rfl hJ zs_386 (Nat.le_of_ble_eq_true rfl) zo_386_7 (zlbot _) (zltop _) (zIR_s (zIR_s (zIR_s (zIR_s (zIR_k (by omega) (by omega)))))) rfl rfl rfl ?_
            intro M226 hJ227 f228 hn229
            have f230 := (hn229 (386) 2 (Or.inr (by decide))).trans (hfz_252)
            have f231 := (hn229 (386) 8 (Or.inr (by decide))).trans (hfk_252)
            have f232 := (hn229 (386) 3 (Or.inr (by decide))).trans (hfg_252)
            have f233 := (hn229 (386) 4 (Or.inr (by decide))).trans (hfs_252)
            exact ih282 M226 v252_1 v252_2 v252_3 v252_4 v252_5 z_252 k_252 g_252 s_252 hJ227 (by omega) (by omega) (by omega) (by omega) (by omega) (by omega) (by omega) (by omega) (zbot _) (ztop _) f230 (by omega) f231 (by omega) (by omega) f232 (by omega) (by omega) f233 (by omega) (by omega) (by omega) (by omega)
          · skip
            refine w_ieq_t dX9_ahead_260 (t := 282) rfl (by omega) ?_
            exact ih282 M v252_1 v252_2 v252_3 v252_4 v252_5 z_252 k_252 g_252 s_252 hJ (by omega) (by omega) (by omega) (by omega) (by omega) (by omega) (by omega) (by omega) (zbot _) (ztop _) hfz_252 (by omega) hfk_252 (by omega) (by omega) hfg_252 (by omega) (by omega) hfs_252 (by omega) (by omega) (by omega) (by omega)
        · skip
          refine w_cge_t dX9_ahead_256 (t := 282) rfl (by omega) ?_
          exact ih282 M v252_1 v252_2 v252_3 v252_4 v252_5 z_252 k_252 g_252 s_252 hJ (by omega) (by omega) (by omega) (by omega) (by omega) (by omega) (by omega) (by omega) (zbot _) (ztop _) hfz_252 (by omega) hfk_252 (by omega) (by omega) hfg_252 (by omega) (by omega) hfs_252 (by omega) (by omega) (by omega) (by omega)
      · intro M v282_1 v282_2 v282_3 v282_4 v282_5 z_282 k_282 g_282 s_282 hJ v282_10 v282_11 v282_20 v282_21 v282_30 v282_31 v282_40 v282_41 v282_50 v282_51 hfz_282 hrz_2820 hfk_282 hrk_2820 hrk_2821 hfg_282 hrg_2820 hrg_2821 hfs_282 hrs_2820 hrs_2821 ann0 hn
        refine w_lo dX9_ahead_282 rfl rfl rfl rfl ?_
        refine w_lo dX9_ahead_284 rfl rfl rfl rfl ?_
        rcases zcut v282_5.toInt v282_4.toInt with h234 | h234
        · skip
          refine w_cge_f dX9_ahead_286 (t := 314) rfl (by omega) ?_
          refine w_lo dX9_ahead_289 rfl rfl rfl rfl ?_
          rcases Int.decEq v282_3.toInt (0 : Int) with h235 | h235
          · skip
            refine w_ieq_f dX9_ahead_290 (t := 314) rfl (by omega) ?_
            refine w_lo dX9_ahead_293 rfl rfl rfl rfl ?_
            refine w_bi dX9_ahead_294 (c := 10) (by decide) ?_
            refine w_lo dX9_ahead_296 rfl rfl rfl rfl ?_
            refine w_gfi dX9_ahead_297 rfl hJ.1 zs_386 (Nat.le_of_ble_eq_true rfl) zo_386_6 ?_
            intro x236 f237 h238 h239
            refine w_puI dX9_ahead_300 rfl rfl ?_
            intro x240
            refine w_lo dX9_ahead_301 rfl rfl rfl rfl ?_
            refine w_gf dX9_ahead_302 rfl hJ.1.1 zs_386 (zr_386_0 hJ.1) ?_
            refine w_lo dX9_ahead_305 rfl rfl rfl rfl ?_
            refine w_iai dX9_ahead_306 hJ.1 zs_387 (by omega) (by omega) zu_387 ?_
            intro x244 f241 h242 h243
            refine w_puI dX9_ahead_307 rfl rfl ?_
            intro x245
            refine w_bi dX9_ahead_308 (c := 48) (by decide) ?_
            refine w_puI dX9_ahead_310 rfl rfl ?_
            intro x246
            refine w_pfi dX9_ahead_311 rfl hJ zs_386 (Nat.le_of_ble_eq_true rfl) zo_386_6 (zbot _) (ztop _) (zIR_s (zIR_s (zIR_s (zIR_k (by omega) (by omega))))) rfl rfl rfl ?_
            intro M247 hJ248 f249 hn250
            refine w_inc (kk := 5) dX9_ahead_314 rfl (m := 1) (by decide) (by omega) ?_
            intro x251 h252
            refine ⟨_, rfl, ?_⟩
            show ZW _ _ _ _ _ _ _ (317, [some (.ref 386), some (.int v282_1), some (.int v282_2), some (.int v282_3), some (.int v282_4), some (.int x251)], [], M247)
            refine w_inc (kk := 1) dX9_ahead_317 rfl (m := 1) (by decide) (by omega) ?_
            intro x253 h254
            refine ⟨_, rfl, ?_⟩
            show ZW _ _ _ _ _ _ _ (320, [some (.ref 386), some (.int x253), some (.int v282_2), some (.int v282_3), some (.int v282_4), some (.int x251)], [], M247)
            refine w_gt dX9_ahead_320 (t := 200) rfl ?_
            have f255 := (hn250 (386) 2 (Or.inr (by decide))).trans (hfz_282)
            have f256 := (hn250 (386) 8 (Or.inr (by decide))).trans (hfk_282)
            have f257 := (hn250 (386) 3 (Or.inr (by decide))).trans (hfg_282)
            have f258 := (hn250 (386) 4 (Or.inr (by decide))).trans (hfs_282)
            obtain ⟨x259, f260, h261, h262⟩ := zB_int hJ248.1 zs_387 (k := (x253 : Int32).toInt.toNat) (by omega) (zu_387 _)
            exact ih200 M247 x253 v282_2 v282_3 v282_4 x251 z_282 k_282 g_282 s_282 x259 hJ248 (by omega) (by omega) (by omega) (by omega) (by omega) (by omega) (by omega) (by omega) (zbot _) (ztop _) f255 (by omega) f256 (by omega) (by omega) f257 (by omega) (by omega) f258 (by omega) (by omega) f260 (by omega) (by omega) (by omega)
          · skip
            refine w_ieq_t dX9_ahead_290 (t := 314) rfl (by omega) ?_
            refine w_inc (kk := 5) dX9_ahead_314 rfl (m := 1) (by decide) (by omega) ?_
            intro x263 h264
            refine ⟨_, rfl, ?_⟩
            show ZW _ _ _ _ _ _ _ (317, [some (.ref 386), some (.int v282_1), some (.int v282_2), some (.int v282_3), some (.int v282_4), some (.int x263)], [], M)
            refine w_inc (kk := 1) dX9_ahead_317 rfl (m := 1) (by decide) (by omega) ?_
            intro x265 h266
            refine ⟨_, rfl, ?_⟩
            show ZW _ _ _ _ _ _ _ (320, [some (.ref 386), some (.int x265), some (.int v282_2), some (.int v282_3), some (.int v282_4), some (.int x263)], [], M)
            refine w_gt dX9_ahead_320 (t := 200) rfl ?_
            obtain ⟨x267, f268, h269, h270⟩ := zB_int hJ.1 zs_387 (k := (x265 : Int32).toInt.toNat) (by omega) (zu_387 _)
            exact ih200 M x265 v282_2 v282_3 v282_4 x263 z_282 k_282 g_282 s_282 x267 hJ (by omega) (by omega) (by omega) (by omega) (by omega) (by omega) (by omega) (by omega) (zbot _) (ztop _) hfz_282 (by omega) hfk_282 (by omega) (by omega) hfg_282 (by omega) (by omega) hfs_282 (by omega) (by omega) f268 (by omega) (by omega) (by omega)
        · skip
          refine w_cge_t dX9_ahead_286 (t := 314) rfl (by omega) ?_
          refine w_incT (kk := 5) dX9_ahead_314 rfl ?_
          intro x271
          refine ⟨_, rfl, ?_⟩
          show ZW _ _ _ _ _ _ _ (317, [some (.ref 386), some (.int v282_1), some (.int v282_2), some (.int v282_3), some (.int v282_4), some (.int x271)], [], M)
          refine w_inc (kk := 1) dX9_ahead_317 rfl (m := 1) (by decide) (by omega) ?_
          intro x273 h274
          refine ⟨_, rfl, ?_⟩
          show ZW _ _ _ _ _ _ _ (320, [some (.ref 386), some (.int x273), some (.int v282_2), some (.int v282_3), some (.int v282_4), some (.int x271)], [], M)
          refine w_gt dX9_ahead_320 (t := 200) rfl ?_
          obtain ⟨x275, f276, h277, h278⟩ := zB_int hJ.1 zs_387 (k := (x273 : Int32).toInt.toNat) (by omega) (zu_387 _)
          exact ih200 M x273 v282_2 v282_3 v282_4 x271 z_282 k_282 g_282 s_282 x275 hJ (by omega) (by omega) (by omega) (by omega) (by omega) (by omega) (by omega) (by omega) (zbot _) (ztop _) hfz_282 (by omega) hfk_282 (by omega) (by omega) hfg_282 (by omega) (by omega) hfs_282 (by omega) (by omega) f276 (by omega) (by omega) (by omega)
  obtain ⟨ih5, ih41, ih93, ih125, ih131, ih200, ih239, ih252, ih282⟩ := main 35258
  show ZW _ _ _ _ _ _ _ (0, [some (.ref 386), none, none, none, none, none], [], M0)
  refine w_lo dX9_ahead_0 rfl rfl rfl rfl ?_
  refine w_gf dX9_ahead_1 rfl hJ0.1.1 zs_386 hfse ?_
  refine w_lo (ml' := [some (.ref 386), some (.int se), none, none, none, none]) dX9_ahead_4 rfl rfl rfl rfl ?_
  exact ih5 M0 se none none none none sz fk hJ0 (by omega) (by omega) hfsz (by omega) hffk (by omega) (by omega) (by omega) (by omega) (by omega)
set_option maxRecDepth 100000 in
theorem k_2319 {X : List Int32} {d N : Nat} {M0 : zM} (a0 : Int64) (hN : N ≤ 600) (hB0 : zB N M0) : ZV X (d + 1) 2319 [.ref 386, .long a0] M0 (zRI N [] M0 (0) (1) (fun _ _ => True)) := by
  have hJ0 : zJ N [] M0 M0 := zJ_refl hB0
  refine ZV.of (ini := false) rfl (Nat.le_of_ble_eq_true rfl) (by decide +kernel) ?_
  show ZW _ _ _ _ _ _ _ (0, [some (.ref 386), some (.long a0), none], [], M0)
  refine w_lo dX9_isOwn_0 rfl rfl rfl rfl ?_
  refine w_me (st' := [.long (6451065 : Int64), .long a0]) dX9_isOwn_1 rfl rfl rfl rfl rfl ?_
  refine w_lcm dX9_isOwn_4 ?_
  intro x1 h2
  have := ztl_6451065
  rcases Int.decEq x1.toInt (0 : Int) with h3 | h3
  · skip
    refine w_ieq_f dX9_isOwn_5 (t := 40) rfl (by omega) ?_
    refine w_lo dX9_isOwn_8 rfl rfl rfl rfl ?_
    refine w_me (st' := [.long (131277443786868 : Int64), .long a0]) dX9_isOwn_9 rfl rfl rfl rfl rfl ?_
    refine w_lcm dX9_isOwn_12 ?_
    intro x4 h5
    have := ztl_131277443786868
    rcases Int.decEq x4.toInt (0 : Int) with h6 | h6
    · skip
      refine w_ieq_f dX9_isOwn_13 (t := 40) rfl (by omega) ?_
      refine w_lo dX9_isOwn_16 rfl rfl rfl rfl ?_
      refine w_me (st' := [.long (431198598248 : Int64), .long a0]) dX9_isOwn_17 rfl rfl rfl rfl rfl ?_
      refine w_lcm dX9_isOwn_20 ?_
      intro x7 h8
      have := ztl_431198598248
      rcases Int.decEq x7.toInt (0 : Int) with h9 | h9
      · skip
        refine w_ieq_f dX9_isOwn_21 (t := 40) rfl (by omega) ?_
        refine w_lo dX9_isOwn_24 rfl rfl rfl rfl ?_
        refine w_me (st' := [.long (1868850291 : Int64), .long a0]) dX9_isOwn_25 rfl rfl rfl rfl rfl ?_
        refine w_lcm dX9_isOwn_28 ?_
        intro x10 h11
        have := ztl_1868850291
        rcases Int.decEq x10.toInt (0 : Int) with h12 | h12
        · skip
          refine w_ieq_f dX9_isOwn_29 (t := 40) rfl (by omega) ?_
          refine w_lo dX9_isOwn_32 rfl rfl rfl rfl ?_
          refine w_me (st' := [.long (483006377075 : Int64), .long a0]) dX9_isOwn_33 rfl rfl rfl rfl rfl ?_
          refine w_lcm dX9_isOwn_36 ?_
          intro x13 h14
          have := ztl_483006377075
          rcases Int.decEq x13.toInt (0 : Int) with h15 | h15
          · skip
            refine w_ine_t dX9_isOwn_37 (t := 42) rfl (by omega) ?_
            refine w_lo dX9_isOwn_42 rfl rfl rfl rfl ?_
            refine w_me (st' := [.long (126918153364851 : Int64), .long a0]) dX9_isOwn_43 rfl rfl rfl rfl rfl ?_
            refine w_lcm dX9_isOwn_46 ?_
            intro x16 h17
            have := ztl_126918153364851
            rcases Int.decEq x16.toInt (0 : Int) with h18 | h18
            · skip
              refine w_ieq_f dX9_isOwn_47 (t := 82) rfl (by omega) ?_
              refine w_lo dX9_isOwn_50 rfl rfl rfl rfl ?_
              refine w_me (st' := [.long (444133766004 : Int64), .long a0]) dX9_isOwn_51 rfl rfl rfl rfl rfl ?_
              refine w_lcm dX9_isOwn_54 ?_
              intro x19 h20
              have := ztl_444133766004
              rcases Int.decEq x19.toInt (0 : Int) with h21 | h21
              · skip
                refine w_ieq_f dX9_isOwn_55 (t := 82) rfl (by omega) ?_
                refine w_lo dX9_isOwn_58 rfl rfl rfl rfl ?_
                refine w_me (st' := [.long (495739560811 : Int64), .long a0]) dX9_isOwn_59 rfl rfl rfl rfl rfl ?_
                refine w_lcm dX9_isOwn_62 ?_
                intro x22 h23
                have := ztl_495739560811
                rcases Int.decEq x22.toInt (0 : Int) with h24 | h24
                · skip
                  refine w_ieq_f dX9_isOwn_63 (t := 82) rfl (by omega) ?_
                  refine w_lo dX9_isOwn_66 rfl rfl rfl rfl ?_
                  refine w_me (st' := [.long (24948 : Int64), .long a0]) dX9_isOwn_67 rfl rfl rfl rfl rfl ?_
                  refine w_lcm dX9_isOwn_70 ?_
                  intro x25 h26
                  have := ztl_24948
                  rcases Int.decEq x25.toInt (0 : Int) with h27 | h27
                  · skip
                    refine w_ieq_f dX9_isOwn_71 (t := 82) rfl (by omega) ?_
                    refine w_lo dX9_isOwn_74 rfl rfl rfl rfl ?_
                    refine w_me (st' := [.long (431415976301 : Int64), .long a0]) dX9_isOwn_75 rfl rfl rfl rfl rfl ?_
                    refine w_lcm dX9_isOwn_78 ?_
                    intro x28 h29
                    have := ztl_431415976301
                    rcases Int.decEq x28.toInt (0 : Int) with h30 | h30
                    · skip
                      refine w_ine_t dX9_isOwn_79 (t := 84) rfl (by omega) ?_
                      refine w_lo dX9_isOwn_84 rfl rfl rfl rfl ?_
                      refine w_me (st' := [.long (7632231 : Int64), .long a0]) dX9_isOwn_85 rfl rfl rfl rfl rfl ?_
                      refine w_lcm dX9_isOwn_88 ?_
                      intro x31 h32
                      have := ztl_7632231
                      rcases Int.decEq x31.toInt (0 : Int) with h33 | h33
                      · skip
                        refine w_ieq_f dX9_isOwn_89 (t := 124) rfl (by omega) ?_
                        refine w_lo dX9_isOwn_92 rfl rfl rfl rfl ?_
                        refine w_me (st' := [.long (465491424371 : Int64), .long a0]) dX9_isOwn_93 rfl rfl rfl rfl rfl ?_
                        refine w_lcm dX9_isOwn_96 ?_
                        intro x34 h35
                        have := ztl_465491424371
                        rcases Int.decEq x34.toInt (0 : Int) with h36 | h36
                        · skip
                          refine w_ieq_f dX9_isOwn_97 (t := 124) rfl (by omega) ?_
                          refine w_lo dX9_isOwn_100 rfl rfl rfl rfl ?_
                          refine w_me (st' := [.long (123563851081075 : Int64), .long a0]) dX9_isOwn_101 rfl rfl rfl rfl rfl ?_
                          refine w_lcm dX9_isOwn_104 ?_
                          intro x37 h38
                          have := ztl_123563851081075
                          rcases Int.decEq x37.toInt (0 : Int) with h39 | h39
                          · skip
                            refine w_ieq_f dX9_isOwn_105 (t := 124) rfl (by omega) ?_
                            refine w_lo dX9_isOwn_108 rfl rfl rfl rfl ?_
                            refine w_me (st' := [.long (1885434739 : Int64), .long a0]) dX9_isOwn_109 rfl rfl rfl rfl rfl ?_
                            refine w_lcm dX9_isOwn_112 ?_
                            intro x40 h41
                            have := ztl_1885434739
                            rcases Int.decEq x40.toInt (0 : Int) with h42 | h42
                            · skip
                              refine w_ieq_f dX9_isOwn_113 (t := 124) rfl (by omega) ?_
                              refine w_lo dX9_isOwn_116 rfl rfl rfl rfl ?_
                              refine w_me (st' := [.long (1684366704 : Int64), .long a0]) dX9_isOwn_117 rfl rfl rfl rfl rfl ?_
                              refine w_lcm dX9_isOwn_120 ?_
                              intro x43 h44
                              have := ztl_1684366704
                              rcases Int.decEq x43.toInt (0 : Int) with h45 | h45
                              · skip
                                refine w_ine_t dX9_isOwn_121 (t := 126) rfl (by omega) ?_
                                refine w_lo dX9_isOwn_126 rfl rfl rfl rfl ?_
                                refine w_me (st' := [.long (2003330414 : Int64), .long a0]) dX9_isOwn_127 rfl rfl rfl rfl rfl ?_
                                refine w_lcm dX9_isOwn_130 ?_
                                intro x46 h47
                                have := ztl_2003330414
                                rcases Int.decEq x46.toInt (0 : Int) with h48 | h48
                                · skip
                                  refine w_ieq_f dX9_isOwn_131 (t := 166) rfl (by omega) ?_
                                  refine w_lo dX9_isOwn_134 rfl rfl rfl rfl ?_
                                  refine w_me (st' := [.long (28530 : Int64), .long a0]) dX9_isOwn_135 rfl rfl rfl rfl rfl ?_
                                  refine w_lcm dX9_isOwn_138 ?_
                                  intro x49 h50
                                  have := ztl_28530
                                  rcases Int.decEq x49.toInt (0 : Int) with h51 | h51
                                  · skip
                                    refine w_ieq_f dX9_isOwn_139 (t := 166) rfl (by omega) ?_
                                    refine w_lo dX9_isOwn_142 rfl rfl rfl rfl ?_
                                    refine w_me (st' := [.long (6385252 : Int64), .long a0]) dX9_isOwn_143 rfl rfl rfl rfl rfl ?_
                                    refine w_lcm dX9_isOwn_146 ?_
                                    intro x52 h53
                                    have := ztl_6385252
                                    rcases Int.decEq x52.toInt (0 : Int) with h54 | h54
                                    · skip
                                      refine w_ieq_f dX9_isOwn_147 (t := 166) rfl (by omega) ?_
                                      refine w_lo dX9_isOwn_150 rfl rfl rfl rfl ?_
                                      refine w_me (st' := [.long (7237492 : Int64), .long a0]) dX9_isOwn_151 rfl rfl rfl rfl rfl ?_
                                      refine w_lcm dX9_isOwn_154 ?_
                                      intro x55 h56
                                      have := ztl_7237492
                                      rcases Int.decEq x55.toInt (0 : Int) with h57 | h57
                                      · skip
                                        refine w_ieq_f dX9_isOwn_155 (t := 166) rfl (by omega) ?_
                                        refine w_lo dX9_isOwn_158 rfl rfl rfl rfl ?_
                                        refine w_me (st' := [.long (6384748 : Int64), .long a0]) dX9_isOwn_159 rfl rfl rfl rfl rfl ?_
                                        refine w_lcm dX9_isOwn_162 ?_
                                        intro x58 h59
                                        have := ztl_6384748
                                        rcases Int.decEq x58.toInt (0 : Int) with h60 | h60
                                        · skip
                                          refine w_ine_t dX9_isOwn_163 (t := 168) rfl (by omega) ?_
                                          refine w_lo dX9_isOwn_168 rfl rfl rfl rfl ?_
                                          refine w_me (st' := [.long (439956431717 : Int64), .long a0]) dX9_isOwn_169 rfl rfl rfl rfl rfl ?_
                                          refine w_lcm dX9_isOwn_172 ?_
                                          intro x61 h62
                                          have := ztl_439956431717
                                          rcases Int.decEq x61.toInt (0 : Int) with h63 | h63
                                          · skip
                                            refine w_ieq_f dX9_isOwn_173 (t := 208) rfl (by omega) ?_
                                            refine w_lo dX9_isOwn_176 rfl rfl rfl rfl ?_
                                            refine w_me (st' := [.long (482854658917 : Int64), .long a0]) dX9_isOwn_177 rfl rfl rfl rfl rfl ?_
                                            refine w_lcm dX9_isOwn_180 ?_
                                            intro x64 h65
                                            have := ztl_482854658917
                                            rcases Int.decEq x64.toInt (0 : Int) with h66 | h66
                                            · skip
                                              refine w_ieq_f dX9_isOwn_181 (t := 208) rfl (by omega) ?_
                                              refine w_lo dX9_isOwn_184 rfl rfl rfl rfl ?_
                                              refine w_me (st' := [.long (120299592184933 : Int64), .long a0]) dX9_isOwn_185 rfl rfl rfl rfl rfl ?_
                                              refine w_lcm dX9_isOwn_188 ?_
                                              intro x67 h68
                                              have := ztl_120299592184933
                                              rcases Int.decEq x67.toInt (0 : Int) with h69 | h69
                                              · skip
                                                refine w_ieq_f dX9_isOwn_189 (t := 208) rfl (by omega) ?_
                                                refine w_lo dX9_isOwn_192 rfl rfl rfl rfl ?_
                                                refine w_me (st' := [.long (108187867505765 : Int64), .long a0]) dX9_isOwn_193 rfl rfl rfl rfl rfl ?_
                                                refine w_lcm dX9_isOwn_196 ?_
                                                intro x70 h71
                                                have := ztl_108187867505765
                                                rcases Int.decEq x70.toInt (0 : Int) with h72 | h72
                                                · skip
                                                  refine w_ieq_f dX9_isOwn_197 (t := 208) rfl (by omega) ?_
                                                  refine w_lo dX9_isOwn_200 rfl rfl rfl rfl ?_
                                                  refine w_me (st' := [.long (1717922932 : Int64), .long a0]) dX9_isOwn_201 rfl rfl rfl rfl rfl ?_
                                                  refine w_lcm dX9_isOwn_204 ?_
                                                  intro x73 h74
                                                  have := ztl_1717922932
                                                  rcases Int.decEq x73.toInt (0 : Int) with h75 | h75
                                                  · skip
                                                    refine w_ine_t dX9_isOwn_205 (t := 210) rfl (by omega) ?_
                                                    refine w_lo dX9_isOwn_210 rfl rfl rfl rfl ?_
                                                    refine w_me (st' := [.long (7170414 : Int64), .long a0]) dX9_isOwn_211 rfl rfl rfl rfl rfl ?_
                                                    refine w_lcm dX9_isOwn_214 ?_
                                                    intro x76 h77
                                                    have := ztl_7170414
                                                    rcases Int.decEq x76.toInt (0 : Int) with h78 | h78
                                                    · skip
                                                      refine w_ieq_f dX9_isOwn_215 (t := 226) rfl (by omega) ?_
                                                      refine w_lo dX9_isOwn_218 rfl rfl rfl rfl ?_
                                                      refine w_me (st' := [.long (7168376 : Int64), .long a0]) dX9_isOwn_219 rfl rfl rfl rfl rfl ?_
                                                      refine w_lcm dX9_isOwn_222 ?_
                                                      intro x79 h80
                                                      have := ztl_7168376
                                                      rcases Int.decEq x79.toInt (0 : Int) with h81 | h81
                                                      · skip
                                                        refine w_ine_t dX9_isOwn_223 (t := 228) rfl (by omega) ?_
                                                        refine w_ic dX9_isOwn_228 zi_0 ?_
                                                        refine w_en dX9_isOwn_229 rfl ?_
                                                        exact ⟨_, _, rfl, (by have := zt_0; omega), (by have := zt_0; omega), hJ0, trivial⟩
                                                      · skip
                                                        refine w_ine_f dX9_isOwn_223 (t := 228) rfl (by omega) ?_
                                                        refine w_ic dX9_isOwn_226 zi_1 ?_
                                                        refine w_en dX9_isOwn_227 rfl ?_
                                                        exact ⟨_, _, rfl, (by have := zt_1; omega), (by have := zt_1; omega), hJ0, trivial⟩
                                                    · skip
                                                      refine w_ieq_t dX9_isOwn_215 (t := 226) rfl (by omega) ?_
                                                      refine w_ic dX9_isOwn_226 zi_1 ?_
                                                      refine w_en dX9_isOwn_227 rfl ?_
                                                      exact ⟨_, _, rfl, (by have := zt_1; omega), (by have := zt_1; omega), hJ0, trivial⟩
                                                  · skip
                                                    refine w_ine_f dX9_isOwn_205 (t := 210) rfl (by omega) ?_
                                                    refine w_ic dX9_isOwn_208 zi_1 ?_
                                                    refine w_en dX9_isOwn_209 rfl ?_
                                                    exact ⟨_, _, rfl, (by have := zt_1; omega), (by have := zt_1; omega), hJ0, trivial⟩
                                                · skip
                                                  refine w_ieq_t dX9_isOwn_197 (t := 208) rfl (by omega) ?_
                                                  refine w_ic dX9_isOwn_208 zi_1 ?_
                                                  refine w_en dX9_isOwn_209 rfl ?_
                                                  exact ⟨_, _, rfl, (by have := zt_1; omega), (by have := zt_1; omega), hJ0, trivial⟩
                                              · skip
                                                refine w_ieq_t dX9_isOwn_189 (t := 208) rfl (by omega) ?_
                                                refine w_ic dX9_isOwn_208 zi_1 ?_
                                                refine w_en dX9_isOwn_209 rfl ?_
                                                exact ⟨_, _, rfl, (by have := zt_1; omega), (by have := zt_1; omega), hJ0, trivial⟩
                                            · skip
                                              refine w_ieq_t dX9_isOwn_181 (t := 208) rfl (by omega) ?_
                                              refine w_ic dX9_isOwn_208 zi_1 ?_
                                              refine w_en dX9_isOwn_209 rfl ?_
                                              exact ⟨_, _, rfl, (by have := zt_1; omega), (by have := zt_1; omega), hJ0, trivial⟩
                                          · skip
                                            refine w_ieq_t dX9_isOwn_173 (t := 208) rfl (by omega) ?_
                                            refine w_ic dX9_isOwn_208 zi_1 ?_
                                            refine w_en dX9_isOwn_209 rfl ?_
                                            exact ⟨_, _, rfl, (by have := zt_1; omega), (by have := zt_1; omega), hJ0, trivial⟩
                                        · skip
                                          refine w_ine_f dX9_isOwn_163 (t := 168) rfl (by omega) ?_
                                          refine w_ic dX9_isOwn_166 zi_1 ?_
                                          refine w_en dX9_isOwn_167 rfl ?_
                                          exact ⟨_, _, rfl, (by have := zt_1; omega), (by have := zt_1; omega), hJ0, trivial⟩
                                      · skip
                                        refine w_ieq_t dX9_isOwn_155 (t := 166) rfl (by omega) ?_
                                        refine w_ic dX9_isOwn_166 zi_1 ?_
                                        refine w_en dX9_isOwn_167 rfl ?_
                                        exact ⟨_, _, rfl, (by have := zt_1; omega), (by have := zt_1; omega), hJ0, trivial⟩
                                    · skip
                                      refine w_ieq_t dX9_isOwn_147 (t := 166) rfl (by omega) ?_
                                      refine w_ic dX9_isOwn_166 zi_1 ?_
                                      refine w_en dX9_isOwn_167 rfl ?_
                                      exact ⟨_, _, rfl, (by have := zt_1; omega), (by have := zt_1; omega), hJ0, trivial⟩
                                  · skip
                                    refine w_ieq_t dX9_isOwn_139 (t := 166) rfl (by omega) ?_
                                    refine w_ic dX9_isOwn_166 zi_1 ?_
                                    refine w_en dX9_isOwn_167 rfl ?_
                                    exact ⟨_, _, rfl, (by have := zt_1; omega), (by have := zt_1; omega), hJ0, trivial⟩
                                · skip
                                  refine w_ieq_t dX9_isOwn_131 (t := 166) rfl (by omega) ?_
                                  refine w_ic dX9_isOwn_166 zi_1 ?_
                                  refine w_en dX9_isOwn_167 rfl ?_
                                  exact ⟨_, _, rfl, (by have := zt_1; omega), (by have := zt_1; omega), hJ0, trivial⟩
                              · skip
                                refine w_ine_f dX9_isOwn_121 (t := 126) rfl (by omega) ?_
                                refine w_ic dX9_isOwn_124 zi_1 ?_
                                refine w_en dX9_isOwn_125 rfl ?_
                                exact ⟨_, _, rfl, (by have := zt_1; omega), (by have := zt_1; omega), hJ0, trivial⟩
                            · skip
                              refine w_ieq_t dX9_isOwn_113 (t := 124) rfl (by omega) ?_
                              refine w_ic dX9_isOwn_124 zi_1 ?_
                              refine w_en dX9_isOwn_125 rfl ?_
                              exact ⟨_, _, rfl, (by have := zt_1; omega), (by have := zt_1; omega), hJ0, trivial⟩
                          · skip
                            refine w_ieq_t dX9_isOwn_105 (t := 124) rfl (by omega) ?_
                            refine w_ic dX9_isOwn_124 zi_1 ?_
                            refine w_en dX9_isOwn_125 rfl ?_
                            exact ⟨_, _, rfl, (by have := zt_1; omega), (by have := zt_1; omega), hJ0, trivial⟩
                        · skip
                          refine w_ieq_t dX9_isOwn_97 (t := 124) rfl (by omega) ?_
                          refine w_ic dX9_isOwn_124 zi_1 ?_
                          refine w_en dX9_isOwn_125 rfl ?_
                          exact ⟨_, _, rfl, (by have := zt_1; omega), (by have := zt_1; omega), hJ0, trivial⟩
                      · skip
                        refine w_ieq_t dX9_isOwn_89 (t := 124) rfl (by omega) ?_
                        refine w_ic dX9_isOwn_124 zi_1 ?_
                        refine w_en dX9_isOwn_125 rfl ?_
                        exact ⟨_, _, rfl, (by have := zt_1; omega), (by have := zt_1; omega), hJ0, trivial⟩
                    · skip
                      refine w_ine_f dX9_isOwn_79 (t := 84) rfl (by omega) ?_
                      refine w_ic dX9_isOwn_82 zi_1 ?_
                      refine w_en dX9_isOwn_83 rfl ?_
                      exact ⟨_, _, rfl, (by have := zt_1; omega), (by have := zt_1; omega), hJ0, trivial⟩
                  · skip
                    refine w_ieq_t dX9_isOwn_71 (t := 82) rfl (by omega) ?_
                    refine w_ic dX9_isOwn_82 zi_1 ?_
                    refine w_en dX9_isOwn_83 rfl ?_
                    exact ⟨_, _, rfl, (by have := zt_1; omega), (by have := zt_1; omega), hJ0, trivial⟩
                · skip
                  refine w_ieq_t dX9_isOwn_63 (t := 82) rfl (by omega) ?_
                  refine w_ic dX9_isOwn_82 zi_1 ?_
                  refine w_en dX9_isOwn_83 rfl ?_
                  exact ⟨_, _, rfl, (by have := zt_1; omega), (by have := zt_1; omega), hJ0, trivial⟩
              · skip
                refine w_ieq_t dX9_isOwn_55 (t := 82) rfl (by omega) ?_
                refine w_ic dX9_isOwn_82 zi_1 ?_
                refine w_en dX9_isOwn_83 rfl ?_
                exact ⟨_, _, rfl, (by have := zt_1; omega), (by have := zt_1; omega), hJ0, trivial⟩
            · skip
              refine w_ieq_t dX9_isOwn_47 (t := 82) rfl (by omega) ?_
              refine w_ic dX9_isOwn_82 zi_1 ?_
              refine w_en dX9_isOwn_83 rfl ?_
              exact ⟨_, _, rfl, (by have := zt_1; omega), (by have := zt_1; omega), hJ0, trivial⟩
          · skip
            refine w_ine_f dX9_isOwn_37 (t := 42) rfl (by omega) ?_
            refine w_ic dX9_isOwn_40 zi_1 ?_
            refine w_en dX9_isOwn_41 rfl ?_
            exact ⟨_, _, rfl, (by have := zt_1; omega), (by have := zt_1; omega), hJ0, trivial⟩
        · skip
          refine w_ieq_t dX9_isOwn_29 (t := 40) rfl (by omega) ?_
          refine w_ic dX9_isOwn_40 zi_1 ?_
          refine w_en dX9_isOwn_41 rfl ?_
          exact ⟨_, _, rfl, (by have := zt_1; omega), (by have := zt_1; omega), hJ0, trivial⟩
      · skip
        refine w_ieq_t dX9_isOwn_21 (t := 40) rfl (by omega) ?_
        refine w_ic dX9_isOwn_40 zi_1 ?_
        refine w_en dX9_isOwn_41 rfl ?_
        exact ⟨_, _, rfl, (by have := zt_1; omega), (by have := zt_1; omega), hJ0, trivial⟩
    · skip
      refine w_ieq_t dX9_isOwn_13 (t := 40) rfl (by omega) ?_
      refine w_ic dX9_isOwn_40 zi_1 ?_
      refine w_en dX9_isOwn_41 rfl ?_
      exact ⟨_, _, rfl, (by have := zt_1; omega), (by have := zt_1; omega), hJ0, trivial⟩
  · skip
    refine w_ieq_t dX9_isOwn_5 (t := 40) rfl (by omega) ?_
    refine w_ic dX9_isOwn_40 zi_1 ?_
    refine w_en dX9_isOwn_41 rfl ?_
    exact ⟨_, _, rfl, (by have := zt_1; omega), (by have := zt_1; omega), hJ0, trivial⟩
set_option maxRecDepth 100000 in
theorem k_2320 {X : List Int32} {d N : Nat} {M0 : zM} (a0 : Int64) (hN : N ≤ 600) (hB0 : zB N M0) : ZV X (d + 1) 2320 [.ref 386, .long a0] M0 (zRI N [] M0 (0) (1) (fun _ _ => True)) := by
  have hJ0 : zJ N [] M0 M0 := zJ_refl hB0
  refine ZV.of (ini := false) rfl (Nat.le_of_ble_eq_true rfl) (by decide +kernel) ?_
  have main : ∀ n : Nat,
      (∀ (M : zM) (y2_1 : Int64) (v2_3 : Int32), zJ N [] M0 M → ((-9223372036854775808 : Int) ≤ y2_1.toInt) → (y2_1.toInt ≤ 9223372036854775807) → ((0 : Int) ≤ v2_3.toInt) → (v2_3.toInt ≤ 12) → 4 * (12 - v2_3.toInt) + 34 < (n : Int) → ZW X (d + 0) 9 false (some .boolean) cX9_isThere (zRI N [] M0 (0) (1) (fun _ _ => True)) (2, [some (.ref 386), some (.long y2_1), none, some (.int v2_3)], [], M)) ∧
      (∀ (M : zM) (y44_1 : Int64) (v44_3 : Int32), zJ N [] M0 M → ((-9223372036854775808 : Int) ≤ y44_1.toInt) → (y44_1.toInt ≤ 9223372036854775807) → ((0 : Int) ≤ v44_3.toInt) → (v44_3.toInt ≤ 6) → 4 * (6 - v44_3.toInt) + 1 < (n : Int) → ZW X (d + 0) 9 false (some .boolean) cX9_isThere (zRI N [] M0 (0) (1) (fun _ _ => True)) (44, [some (.ref 386), some (.long y44_1), none, some (.int v44_3)], [], M)) := by
    intro n
    induction n with
    | zero =>
      exact ⟨(fun M y2_1 v2_3 hJ y2_10 y2_11 v2_30 v2_31 hn => absurd hn (by omega)), (fun M y44_1 v44_3 hJ y44_10 y44_11 v44_30 v44_31 hn => absurd hn (by omega))⟩
    | succ n ih =>
      obtain ⟨ih2, ih44⟩ := ih
      refine ⟨?_, ?_⟩
      · intro M y2_1 v2_3 hJ y2_10 y2_11 v2_30 v2_31 hn
        refine w_lo dX9_isThere_2 rfl rfl rfl rfl ?_
        refine w_lo dX9_isThere_3 rfl rfl rfl rfl ?_
        refine w_gf dX9_isThere_4 rfl hJ.1.1 zs_386 (zr_386_13 hJ.1) ?_
        refine w_lo dX9_isThere_7 rfl rfl rfl rfl ?_
        refine w_gfi dX9_isThere_8 rfl hJ.1 zs_386 (Nat.le_of_ble_eq_true rfl) zo_386_35 ?_
        intro x1 f2 h3 h4
        refine w_iai dX9_isThere_11 hJ.1 zs_388 (by omega) (by omega) zu_388 ?_
        intro x8 f5 h6 h7
        rcases zcut v2_3.toInt x8.toInt with h9 | h9
        · skip
          refine w_cge_f dX9_isThere_12 (t := 42) rfl (by omega) ?_
          refine w_lo dX9_isThere_15 rfl rfl rfl rfl ?_
          refine w_gf dX9_isThere_16 rfl hJ.1.1 zs_386 (zr_386_14 hJ.1) ?_
          refine w_bi dX9_isThere_19 (c := 12) (by decide) ?_
          refine w_lo dX9_isThere_21 rfl rfl rfl rfl ?_
          refine w_gf dX9_isThere_22 rfl hJ.1.1 zs_386 f2 ?_
          refine w_mulc dX9_isThere_25 zt_12 (by have := zt_12; omega) ?_
          intro x10 h11
          have := zt_12
          refine w_lo dX9_isThere_26 rfl rfl rfl rfl ?_
          refine w_add dX9_isThere_27 (by omega) ?_
          intro x12 h13
          refine w_lal dX9_isThere_28 hJ.1 zs_389 (by omega) (by omega) zu_389 ?_
          intro y17 f14
          refine w_lo dX9_isThere_29 rfl rfl rfl rfl ?_
          refine w_lcm dX9_isThere_30 ?_
          intro x18 h19
          skip
          rcases Int.decEq x18.toInt (0 : Int) with h20 | h20
          · skip
            refine w_ine_t dX9_isThere_31 (t := 36) rfl (by omega) ?_
            refine w_inc (kk := 3) dX9_isThere_36 rfl (m := 1) (by decide) (by omega) ?_
            intro x21 h22
            refine ⟨_, rfl, ?_⟩
            show ZW _ _ _ _ _ _ _ (39, [some (.ref 386), some (.long y2_1), none, some (.int x21)], [], M)
            refine w_gt dX9_isThere_39 (t := 2) rfl ?_
            exact ih2 M y2_1 x21 hJ (zlbot _) (zltop _) (by omega) (by omega) (by omega)
          · skip
            refine w_ine_f dX9_isThere_31 (t := 36) rfl (by omega) ?_
            refine w_ic dX9_isThere_34 zi_1 ?_
            refine w_en dX9_isThere_35 rfl ?_
            exact ⟨_, _, rfl, (by have := zt_1; omega), (by have := zt_1; omega), hJ, trivial⟩
        · skip
          refine w_cge_t dX9_isThere_12 (t := 42) rfl (by omega) ?_
          refine w_ic dX9_isThere_42 zi_0 ?_
          refine w_lo (ml' := [some (.ref 386), some (.long y2_1), none, some (.int 0)]) dX9_isThere_43 rfl rfl rfl rfl ?_
          exact ih44 M y2_1 0 hJ (zlbot _) (zltop _) (by have := zt_0; omega) (by have := zt_0; omega) (by have := zt_0; omega)
      · intro M y44_1 v44_3 hJ y44_10 y44_11 v44_30 v44_31 hn
        refine w_lo dX9_isThere_44 rfl rfl rfl rfl ?_
        refine w_lo dX9_isThere_45 rfl rfl rfl rfl ?_
        refine w_gf dX9_isThere_46 rfl hJ.1.1 zs_386 (zr_386_21 hJ.1) ?_
        refine w_lo dX9_isThere_49 rfl rfl rfl rfl ?_
        refine w_gfi dX9_isThere_50 rfl hJ.1 zs_386 (Nat.le_of_ble_eq_true rfl) zo_386_35 ?_
        intro x23 f24 h25 h26
        refine w_iai dX9_isThere_53 hJ.1 zs_396 (by omega) (by omega) zu_396 ?_
        intro x30 f27 h28 h29
        rcases zcut v44_3.toInt x30.toInt with h31 | h31
        · skip
          refine w_cge_f dX9_isThere_54 (t := 84) rfl (by omega) ?_
          refine w_lo dX9_isThere_57 rfl rfl rfl rfl ?_
          refine w_gf dX9_isThere_58 rfl hJ.1.1 zs_386 (zr_386_22 hJ.1) ?_
          refine w_bi dX9_isThere_61 (c := 6) (by decide) ?_
          refine w_lo dX9_isThere_63 rfl rfl rfl rfl ?_
          refine w_gf dX9_isThere_64 rfl hJ.1.1 zs_386 f24 ?_
          refine w_mulc dX9_isThere_67 zt_6 (by have := zt_6; omega) ?_
          intro x32 h33
          have := zt_6
          refine w_lo dX9_isThere_68 rfl rfl rfl rfl ?_
          refine w_add dX9_isThere_69 (by omega) ?_
          intro x34 h35
          refine w_lal dX9_isThere_70 hJ.1 zs_397 (by omega) (by omega) zu_397 ?_
          intro y39 f36
          refine w_lo dX9_isThere_71 rfl rfl rfl rfl ?_
          refine w_lcm dX9_isThere_72 ?_
          intro x40 h41
          skip
          rcases Int.decEq x40.toInt (0 : Int) with h42 | h42
          · skip
            refine w_ine_t dX9_isThere_73 (t := 78) rfl (by omega) ?_
            refine w_inc (kk := 3) dX9_isThere_78 rfl (m := 1) (by decide) (by omega) ?_
            intro x43 h44
            refine ⟨_, rfl, ?_⟩
            show ZW _ _ _ _ _ _ _ (81, [some (.ref 386), some (.long y44_1), none, some (.int x43)], [], M)
            refine w_gt dX9_isThere_81 (t := 44) rfl ?_
            exact ih44 M y44_1 x43 hJ (zlbot _) (zltop _) (by omega) (by omega) (by omega)
          · skip
            refine w_ine_f dX9_isThere_73 (t := 78) rfl (by omega) ?_
            refine w_ic dX9_isThere_76 zi_1 ?_
            refine w_en dX9_isThere_77 rfl ?_
            exact ⟨_, _, rfl, (by have := zt_1; omega), (by have := zt_1; omega), hJ, trivial⟩
        · skip
          refine w_cge_t dX9_isThere_54 (t := 84) rfl (by omega) ?_
          refine w_ic dX9_isThere_84 zi_0 ?_
          refine w_en dX9_isThere_85 rfl ?_
          exact ⟨_, _, rfl, (by have := zt_0; omega), (by have := zt_0; omega), hJ, trivial⟩
  obtain ⟨ih2, ih44⟩ := main 95
  show ZW _ _ _ _ _ _ _ (0, [some (.ref 386), some (.long a0), none, none], [], M0)
  refine w_ic dX9_isThere_0 zi_0 ?_
  refine w_lo (ml' := [some (.ref 386), some (.long a0), none, some (.int 0)]) dX9_isThere_1 rfl rfl rfl rfl ?_
  exact ih2 M0 a0 0 hJ0 (zlbot _) (zltop _) (by have := zt_0; omega) (by have := zt_0; omega) (by have := zt_0; omega)
set_option maxRecDepth 100000 in
theorem k_2318 {X : List Int32} {d N : Nat} {M0 : zM} (sz : Int32) (hfsz : zvl M0 (386) 2 = some (.int sz)) (hrsz0 : 0 ≤ sz.toInt) (hrsz1 : sz.toInt ≤ 1600) (sg : Int32) (hfsg : zvl M0 (386) 3 = some (.int sg)) (hrsg0 : 0 ≤ sg.toInt) (hrsg1 : sg.toInt ≤ 3) (se : Int32) (hfse : zvl M0 (386) 5 = some (.int se)) (hrse0 : 0 ≤ se.toInt) (hrse1 : se.toInt ≤ sz.toInt) (fk : Int32) (hffk : zvl M0 (386) 8 = some (.int fk)) (hrfk0 : 0 ≤ fk.toInt) (hrfk1 : fk.toInt ≤ 5) (hN : N ≤ 600) (hB0 : zB N M0) : ZV X (d + 3) 2318 [.ref 386] M0 (zRG N [(386, 387, 3), (386, 387, 4), (386, 387, 5), (386, 387, 6), (386, 387, 7), (386, 387, 8), (386, 387, 9)] M0 (fun v M' => (∃ nz : Int32, zvl M' (386) 2 = some (.int nz) ∧ (nz.toInt = sz.toInt) ∧ (∃ ng : Int32, zvl M' (386) 3 = some (.int ng) ∧ (0 ≤ ng.toInt) ∧ (ng.toInt ≤ 3) ∧ (∃ ne : Int32, zvl M' (386) 5 = some (.int ne) ∧ (se.toInt ≤ ne.toInt) ∧ (ne.toInt ≤ sz.toInt) ∧ (4 * (sz.toInt - ne.toInt) + ng.toInt ≤ 4 * (sz.toInt - se.toInt) + sg.toInt) ∧ (∃ nk : Int32, zvl M' (386) 8 = some (.int nk) ∧ (fk.toInt ≤ nk.toInt) ∧ (nk.toInt ≤ 5) ∧ (1 ≤ nk.toInt ∨ 4 * (sz.toInt - ne.toInt) + ng.toInt + 1 ≤ 4 * (sz.toInt - se.toInt) + sg.toInt) ∧ True)))))) := by
  have hJ0 : zJ N [(386, 387, 3), (386, 387, 4), (386, 387, 5), (386, 387, 6), (386, 387, 7), (386, 387, 8), (386, 387, 9)] M0 M0 := zJ_refl hB0
  refine ZV.of (ini := false) rfl (Nat.le_of_ble_eq_true rfl) (by decide +kernel) ?_
  have main : ∀ n : Nat,
      (∀ (M : zM) (o28_1 : Option Value) (o28_2 : Option Value) (z_28 : Int32) (g_28 : Int32) (e_28 : Int32) (k_28 : Int32), zJ N [(386, 387, 3), (386, 387, 4), (386, 387, 5), (386, 387, 6), (386, 387, 7), (386, 387, 8), (386, 387, 9)] M0 M → (zvl M (386) 2 = some (.int z_28)) → (z_28.toInt = sz.toInt) → (zvl M (386) 3 = some (.int g_28)) → (0 ≤ g_28.toInt) → (g_28.toInt ≤ 3) → (zvl M (386) 5 = some (.int e_28)) → (se.toInt ≤ e_28.toInt) → (e_28.toInt ≤ sz.toInt) → (4 * (sz.toInt - e_28.toInt) + g_28.toInt ≤ 4 * (sz.toInt - se.toInt) + sg.toInt) → (zvl M (386) 8 = some (.int k_28)) → (fk.toInt ≤ k_28.toInt) → (k_28.toInt ≤ 5) → 2 < (n : Int) → ZW X (d + 2) 9 false (some .long) cX9_fresh (zRG N [(386, 387, 3), (386, 387, 4), (386, 387, 5), (386, 387, 6), (386, 387, 7), (386, 387, 8), (386, 387, 9)] M0 (fun v M' => (∃ nz : Int32, zvl M' (386) 2 = some (.int nz) ∧ (nz.toInt = sz.toInt) ∧ (∃ ng : Int32, zvl M' (386) 3 = some (.int ng) ∧ (0 ≤ ng.toInt) ∧ (ng.toInt ≤ 3) ∧ (∃ ne : Int32, zvl M' (386) 5 = some (.int ne) ∧ (se.toInt ≤ ne.toInt) ∧ (ne.toInt ≤ sz.toInt) ∧ (4 * (sz.toInt - ne.toInt) + ng.toInt ≤ 4 * (sz.toInt - se.toInt) + sg.toInt) ∧ (∃ nk : Int32, zvl M' (386) 8 = some (.int nk) ∧ (fk.toInt ≤ nk.toInt) ∧ (nk.toInt ≤ 5) ∧ (1 ≤ nk.toInt ∨ 4 * (sz.toInt - ne.toInt) + ng.toInt + 1 ≤ 4 * (sz.toInt - se.toInt) + sg.toInt) ∧ True)))))) (28, [some (.ref 386), o28_1, o28_2], [], M)) ∧
      (∀ (M : zM) (o37_1 : Option Value) (o37_2 : Option Value) (z_37 : Int32) (g_37 : Int32) (e_37 : Int32) (k_37 : Int32), zJ N [(386, 387, 3), (386, 387, 4), (386, 387, 5), (386, 387, 6), (386, 387, 7), (386, 387, 8), (386, 387, 9)] M0 M → (zvl M (386) 2 = some (.int z_37)) → (z_37.toInt = sz.toInt) → (zvl M (386) 3 = some (.int g_37)) → (0 ≤ g_37.toInt) → (g_37.toInt ≤ 3) → (zvl M (386) 5 = some (.int e_37)) → (se.toInt ≤ e_37.toInt) → (e_37.toInt ≤ sz.toInt) → (4 * (sz.toInt - e_37.toInt) + g_37.toInt ≤ 4 * (sz.toInt - se.toInt) + sg.toInt) → (zvl M (386) 8 = some (.int k_37)) → (fk.toInt ≤ k_37.toInt) → (k_37.toInt ≤ 5) → (1 ≤ k_37.toInt ∨ 1 ≤ g_37.toInt) → 1 < (n : Int) → ZW X (d + 2) 9 false (some .long) cX9_fresh (zRG N [(386, 387, 3), (386, 387, 4), (386, 387, 5), (386, 387, 6), (386, 387, 7), (386, 387, 8), (386, 387, 9)] M0 (fun v M' => (∃ nz : Int32, zvl M' (386) 2 = some (.int nz) ∧ (nz.toInt = sz.toInt) ∧ (∃ ng : Int32, zvl M' (386) 3 = some (.int ng) ∧ (0 ≤ ng.toInt) ∧ (ng.toInt ≤ 3) ∧ (∃ ne : Int32, zvl M' (386) 5 = some (.int ne) ∧ (se.toInt ≤ ne.toInt) ∧ (ne.toInt ≤ sz.toInt) ∧ (4 * (sz.toInt - ne.toInt) + ng.toInt ≤ 4 * (sz.toInt - se.toInt) + sg.toInt) ∧ (∃ nk : Int32, zvl M' (386) 8 = some (.int nk) ∧ (fk.toInt ≤ nk.toInt) ∧ (nk.toInt ≤ 5) ∧ (1 ≤ nk.toInt ∨ 4 * (sz.toInt - ne.toInt) + ng.toInt + 1 ≤ 4 * (sz.toInt - se.toInt) + sg.toInt) ∧ True)))))) (37, [some (.ref 386), o37_1, o37_2], [], M)) := by
    intro n
    induction n with
    | zero =>
      exact ⟨(fun M o28_1 o28_2 z_28 g_28 e_28 k_28 hJ hfz_28 hrz_280 hfg_28 hrg_280 hrg_281 hfe_28 hre_280 hre_281 hre_282 hfk_28 hrk_280 hrk_281 hn => absurd hn (by omega)), (fun M o37_1 o37_2 z_37 g_37 e_37 k_37 hJ hfz_37 hrz_370 hfg_37 hrg_370 hrg_371 hfe_37 hre_370 hre_371 hre_372 hfk_37 hrk_370 hrk_371 hrk_372 hn => absurd hn (by omega))⟩
    | succ n ih =>
      obtain ⟨ih28, ih37⟩ := ih
      refine ⟨?_, ?_⟩
      · intro M o28_1 o28_2 z_28 g_28 e_28 k_28 hJ hfz_28 hrz_280 hfg_28 hrg_280 hrg_281 hfe_28 hre_280 hre_281 hre_282 hfk_28 hrk_280 hrk_281 hn
        refine w_lo dX9_fresh_28 rfl rfl rfl rfl ?_
        refine w_ic dX9_fresh_29 zi_1 ?_
        refine w_lo dX9_fresh_30 rfl rfl rfl rfl ?_
        refine w_gfi dX9_fresh_31 rfl hJ.1 zs_386 (Nat.le_of_ble_eq_true rfl) zo_386_4 ?_
        intro x1 f2 h3 h4
        refine w_iv dX9_fresh_34 rfl rfl (As := [.int 1, .int x1]) rfl rfl hJ.1.1 zs_386 (Nat.le_of_ble_eq_true rfl) ?_
        refine ZV.of (ini := false) rfl (Nat.le_of_ble_eq_true rfl) (by decide +kernel) ?_
        show ZW _ _ _ _ _ _ _ (0, [some (.ref 386), some (.int 1), some (.int x1)], [], M)
        refine w_lo dX9_blame_0 rfl rfl rfl rfl ?_
        refine w_gf dX9_blame_1 rfl hJ.1.1 zs_386 hfk_28 ?_
        rcases zcut (0 : Int) k_28.toInt with h5 | h5
        · skip
          refine w_ile_f dX9_blame_4 (t := 8) rfl (by omega) ?_
          refine w_en dX9_blame_7 rfl ?_
          show ZW _ _ _ _ _ _ _ (37, [some (.ref 386), o28_1, o28_2], [], M)
          exact ih37 M o28_1 o28_2 z_28 g_28 e_28 k_28 hJ hfz_28 (by omega) hfg_28 (by omega) (by omega) hfe_28 (by omega) (by omega) (by omega) hfk_28 (by omega) (by omega) (by omega) (by omega)
        · skip
          refine w_ile_t dX9_blame_4 (t := 8) rfl (by omega) ?_
          refine w_lo dX9_blame_8 rfl rfl rfl rfl ?_
          refine w_lo dX9_blame_9 rfl rfl rfl rfl ?_
          refine w_pfi dX9_blame_10 rfl hJ zs_386 (Nat.le_of_ble_eq_true rfl) zo_386_8 (by have := zt_1; omega) (by have := zt_1; omega) (zIR_s (zIR_s (zIR_s (zIR_s (zIR_s (zIR_k (by omega) (by omega))))))) rfl rfl rfl ?_
          intro M6 hJ7 f8 hn9
          refine w_lo dX9_blame_13 rfl rfl rfl rfl ?_
          refine w_lo dX9_blame_14 rfl rfl rfl rfl ?_
          refine w_pfi dX9_blame_15 rfl hJ7 zs_386 (Nat.le_of_ble_eq_true rfl) zo_386_9 (by omega) (by omega) (zIR_s (zIR_s (zIR_s (zIR_s (zIR_s (zIR_s (zIR_k (by omega) (by omega)))))))) rfl rfl rfl ?_
          intro M10 hJ11 f12 hn13
          refine w_en dX9_blame_18 rfl ?_
          show ZW _ _ _ _ _ _ _ (37, [some (.ref 386), o28_1, o28_2], [], M10)
          have f14 := (hn13 (386) 2 (Or.inr (by decide))).trans ((hn9 (386) 2 (Or.inr (by decide))).trans (hfz_28))
          have f15 := (hn13 (386) 3 (Or.inr (by decide))).trans ((hn9 (386) 3 (Or.inr (by decide))).trans (hfg_28))
          have f16 := (hn13 (386) 5 (Or.inr (by decide))).trans ((hn9 (386) 5 (Or.inr (by decide))).trans (hfe_28))
          have f17 := (hn13 (386) 8 (Or.inr (by decide))).trans (f8)
          exact ih37 M10 o28_1 o28_2 z_28 g_28 e_28 1 hJ11 f14 (by have := zt_1; omega) f15 (by have := zt_1; omega) (by have := zt_1; omega) f16 (by have := zt_1; omega) (by have := zt_1; omega) (by have := zt_1; omega) f17 (by have := zt_1; omega) (by have := zt_1; omega) (by have := zt_1; omega) (by have := zt_1; omega)
      · intro M o37_1 o37_2 z_37 g_37 e_37 k_37 hJ hfz_37 hrz_370 hfg_37 hrg_370 hrg_371 hfe_37 hre_370 hre_371 hre_372 hfk_37 hrk_370 hrk_371 hrk_372 hn
        refine w_lo dX9_fresh_37 rfl rfl rfl rfl ?_
        refine w_gf dX9_fresh_38 rfl hJ.1.1 zs_386 hfk_37 ?_
        rcases Int.decEq k_37.toInt (0 : Int) with h18 | h18
        · skip
          refine w_ine_t dX9_fresh_41 (t := 64) rfl (by omega) ?_
          refine w_lo dX9_fresh_64 rfl rfl rfl rfl ?_
          refine w_gfl dX9_fresh_65 rfl hJ.1 zs_386 (Nat.le_of_ble_eq_true rfl) zo_386_7 ?_
          intro y22 f19 h20 h21
          refine w_lo (ml' := [some (.ref 386), some (.long y22), none]) dX9_fresh_68 rfl rfl rfl rfl ?_
          refine w_lo dX9_fresh_69 rfl rfl rfl rfl ?_
          refine w_gf dX9_fresh_70 rfl hJ.1.1 zs_386 hfk_37 ?_
          refine w_ine_t dX9_fresh_73 (t := 80) rfl (by omega) ?_
          refine w_lo dX9_fresh_80 rfl rfl rfl rfl ?_
          refine w_en dX9_fresh_81 rfl ?_
          exact ⟨_, _, rfl, hJ, ⟨z_37, hfz_37, (by omega), g_37, hfg_37, (by omega), (by omega), e_37, hfe_37, (by omega), (by omega), (by omega), k_37, hfk_37, (by omega), (by omega), (by omega), trivial⟩⟩
        · skip
          refine w_ine_f dX9_fresh_41 (t := 64) rfl (by omega) ?_
          refine w_lo dX9_fresh_44 rfl rfl rfl rfl ?_
          refine w_lo dX9_fresh_45 rfl rfl rfl rfl ?_
          refine w_gfl dX9_fresh_46 rfl hJ.1 zs_386 (Nat.le_of_ble_eq_true rfl) zo_386_7 ?_
          intro y26 f23 h24 h25
          refine w_iv dX9_fresh_49 rfl rfl (As := [.long y26]) rfl rfl hJ.1.1 zs_386 (Nat.le_of_ble_eq_true rfl) ?_
          refine ZV.imp (k_2320 y26 hN hJ.1) ?_
          rintro _ ⟨x30, M27, rfl, h31, h32, hJ28, hq29⟩
          have hJ33 := zJ_trans hJ hJ28 zSub_nil
          show ZW _ _ _ _ _ _ _ (52, [some (.ref 386), o37_1, o37_2], [.int x30], M27)
          rcases Int.decEq x30.toInt (0 : Int) with h34 | h34
          · skip
            refine w_ieq_f dX9_fresh_52 (t := 64) rfl (by omega) ?_
            refine w_lo dX9_fresh_55 rfl rfl rfl rfl ?_
            refine w_ic dX9_fresh_56 zi_2 ?_
            refine w_lo dX9_fresh_57 rfl rfl rfl rfl ?_
            refine w_gfi dX9_fresh_58 rfl hJ33.1 zs_386 (Nat.le_of_ble_eq_true rfl) zo_386_4 ?_
            intro x35 f36 h37 h38
            refine w_iv dX9_fresh_61 rfl rfl (As := [.int 2, .int x35]) rfl rfl hJ33.1.1 zs_386 (Nat.le_of_ble_eq_true rfl) ?_
            refine ZV.of (ini := false) rfl (Nat.le_of_ble_eq_true rfl) (by decide +kernel) ?_
            show ZW _ _ _ _ _ _ _ (0, [some (.ref 386), some (.int 2), some (.int x35)], [], M27)
            refine w_lo dX9_blame_0 rfl rfl rfl rfl ?_
            have f39 := (hJ28.2 (386) 8 zNI_nil).trans (hfk_37)
            refine w_gf dX9_blame_1 rfl hJ33.1.1 zs_386 f39 ?_
            refine w_ile_t dX9_blame_4 (t := 8) rfl (by omega) ?_
            refine w_lo dX9_blame_8 rfl rfl rfl rfl ?_
            refine w_lo dX9_blame_9 rfl rfl rfl rfl ?_
            refine w_pfi dX9_blame_10 rfl hJ33 zs_386 (Nat.le_of_ble_eq_true rfl) zo_386_8 (by have := zt_2; omega) (by have := zt_2; omega) (zIR_s (zIR_s (zIR_s (zIR_s (zIR_s (zIR_k (by omega) (by omega))))))) rfl rfl rfl ?_
            intro M40 hJ41 f42 hn43
            refine w_lo dX9_blame_13 rfl rfl rfl rfl ?_
            refine w_lo dX9_blame_14 rfl rfl rfl rfl ?_
            refine w_pfi dX9_blame_15 rfl hJ41 zs_386 (Nat.le_of_ble_eq_true rfl) zo_386_9 (by omega) (by omega) (zIR_s (zIR_s (zIR_s (zIR_s (zIR_s (zIR_s (zIR_k (by omega) (by omega)))))))) rfl rfl rfl ?_
            intro M44 hJ45 f46 hn47
            refine w_en dX9_blame_18 rfl ?_
            show ZW _ _ _ _ _ _ _ (64, [some (.ref 386), o37_1, o37_2], [], M44)
            refine w_lo dX9_fresh_64 rfl rfl rfl rfl ?_
            have f48 := (hn47 (386) 7 (Or.inr (by decide))).trans ((hn43 (386) 7 (Or.inr (by decide))).trans ((hJ28.2 (386) 7 zNI_nil).trans (f23)))
            refine w_gf dX9_fresh_65 rfl hJ45.1.1 zs_386 f48 ?_
            refine w_lo (ml' := [some (.ref 386), some (.long y26), none]) dX9_fresh_68 rfl rfl rfl rfl ?_
            refine w_lo dX9_fresh_69 rfl rfl rfl rfl ?_
            have f49 := (hn47 (386) 8 (Or.inr (by decide))).trans (f42)
            refine w_gf dX9_fresh_70 rfl hJ45.1.1 zs_386 f49 ?_
            refine w_ine_t dX9_fresh_73 (t := 80) rfl (by have := zt_2; omega) ?_
            refine w_lo dX9_fresh_80 rfl rfl rfl rfl ?_
            refine w_en dX9_fresh_81 rfl ?_
            have f50 := (hn47 (386) 2 (Or.inr (by decide))).trans ((hn43 (386) 2 (Or.inr (by decide))).trans ((hJ28.2 (386) 2 zNI_nil).trans (hfz_37)))
            have f51 := (hn47 (386) 3 (Or.inr (by decide))).trans ((hn43 (386) 3 (Or.inr (by decide))).trans ((hJ28.2 (386) 3 zNI_nil).trans (hfg_37)))
            have f52 := (hn47 (386) 5 (Or.inr (by decide))).trans ((hn43 (386) 5 (Or.inr (by decide))).trans ((hJ28.2 (386) 5 zNI_nil).trans (hfe_37)))
            exact ⟨_, _, rfl, hJ45, ⟨z_37, f50, (by omega), g_37, f51, (by omega), (by omega), e_37, f52, (by omega), (by omega), (by omega), 2, f49, (by have := zt_2; omega), (by have := zt_2; omega), (by have := zt_2; omega), trivial⟩⟩
          · skip
            refine w_ieq_t dX9_fresh_52 (t := 64) rfl (by omega) ?_
            refine w_lo dX9_fresh_64 rfl rfl rfl rfl ?_
            have f53 := (hJ28.2 (386) 7 zNI_nil).trans (f23)
            refine w_gf dX9_fresh_65 rfl hJ33.1.1 zs_386 f53 ?_
            refine w_lo (ml' := [some (.ref 386), some (.long y26), none]) dX9_fresh_68 rfl rfl rfl rfl ?_
            refine w_lo dX9_fresh_69 rfl rfl rfl rfl ?_
            have f54 := (hJ28.2 (386) 8 zNI_nil).trans (hfk_37)
            refine w_gf dX9_fresh_70 rfl hJ33.1.1 zs_386 f54 ?_
            refine w_ine_f dX9_fresh_73 (t := 80) rfl (by omega) ?_
            refine w_lo dX9_fresh_76 rfl rfl rfl rfl ?_
            have f57 := (hJ28.2 (386) 2 zNI_nil).trans (hfz_37)
            have f58 := (hJ28.2 (386) 3 zNI_nil).trans (hfg_37)
            have f59 := (hJ28.2 (386) 5 zNI_nil).trans (hfe_37)
            refine w_iv dX9_fresh_77 rfl rfl (As := []) rfl rfl hJ33.1.1 zs_386 (Nat.le_of_ble_eq_true rfl) ?_
            refine ZV.imp (k_2310 z_37 f57 (by omega) (by omega) g_37 f58 (by omega) (by omega) e_37 f59 (by omega) (by omega) k_37 f54 (by omega) (by omega) hN hJ33.1) ?_
            rintro _ ⟨M55, rfl, hJ56, hq60⟩
            have hJ61 := zJ_trans hJ33 hJ56 (zSub_cons (fun _ _ h h' hk => zIR_e (by omega) (by omega) hk) (zSub_cons (fun _ _ h h' hk => zIR_s (zIR_e (by omega) (by omega) hk)) (zSub_cons (fun _ _ h h' hk => zIR_s (zIR_s (zIR_e (by omega) (by omega) hk))) (zSub_cons (fun _ _ h h' hk => zIR_s (zIR_s (zIR_s (zIR_e (by omega) (by omega) hk)))) (zSub_cons (fun _ _ h h' hk => zIR_s (zIR_s (zIR_s (zIR_s (zIR_e (by omega) (by omega) hk))))) (zSub_cons (fun _ _ h h' hk => zIR_s (zIR_s (zIR_s (zIR_s (zIR_s (zIR_e (by omega) (by omega) hk)))))) (zSub_cons (fun _ _ h h' hk => zIR_s (zIR_s (zIR_s (zIR_s (zIR_s (zIR_s (zIR_e (by omega) (by omega) hk))))))) zSub_nil)))))))
            obtain ⟨x62, f63, h64, x65, f66, h67, h68, x69, f70, h71, h72, x73, f74, h75, h76, h77, x78, f79, h80, h81, -⟩ := hq60
            show ZW _ _ _ _ _ _ _ (80, [some (.ref 386), some (.long y26), none], [], M55)
            refine w_lo dX9_fresh_80 rfl rfl rfl rfl ?_
            refine w_en dX9_fresh_81 rfl ?_
            exact ⟨_, _, rfl, hJ61, ⟨x62, f63, (by omega), x65, f66, (by omega), (by omega), x73, f74, (by omega), (by omega), (by omega), x78, f79, (by omega), (by omega), (by omega), trivial⟩⟩
  obtain ⟨ih28, ih37⟩ := main 7
  show ZW _ _ _ _ _ _ _ (0, [some (.ref 386), none, none], [], M0)
  refine w_lo dX9_fresh_0 rfl rfl rfl rfl ?_
  refine w_gf dX9_fresh_1 rfl hJ0.1.1 zs_386 hffk ?_
  rcases zcut (0 : Int) fk.toInt with h82 | h82
  · skip
    refine w_ile_f dX9_fresh_4 (t := 9) rfl (by omega) ?_
    refine w_lc dX9_fresh_7 (c := (0 : Int64)) (by decide) ?_
    refine w_en dX9_fresh_8 rfl ?_
    exact ⟨_, _, rfl, hJ0, ⟨sz, hfsz, (by omega), sg, hfsg, (by omega), (by omega), se, hfse, (by omega), (by omega), (by omega), fk, hffk, (by omega), (by omega), (by omega), trivial⟩⟩
  · skip
    refine w_ile_t dX9_fresh_4 (t := 9) rfl (by omega) ?_
    refine w_lo dX9_fresh_9 rfl rfl rfl rfl ?_
    refine w_gf dX9_fresh_10 rfl hJ0.1.1 zs_386 hfsg ?_
    refine w_ic dX9_fresh_13 zi_1 ?_
    rcases Int.decEq sg.toInt (1 : Int) with h83 | h83
    · skip
      refine w_cne_t dX9_fresh_14 (t := 28) rfl (by have := zt_1; omega) ?_
      exact ih28 M0 none none sz sg se fk hJ0 hfsz (by omega) hfsg (by omega) (by omega) hfse (by omega) (by omega) (by omega) hffk (by omega) (by omega) (by omega)
    · skip
      refine w_cne_f dX9_fresh_14 (t := 28) rfl (by have := zt_1; omega) ?_
      refine w_lo dX9_fresh_17 rfl rfl rfl rfl ?_
      refine w_lo dX9_fresh_18 rfl rfl rfl rfl ?_
      refine w_gfl dX9_fresh_19 rfl hJ0.1 zs_386 (Nat.le_of_ble_eq_true rfl) zo_386_7 ?_
      intro y87 f84 h85 h86
      refine w_iv dX9_fresh_22 rfl rfl (As := [.long y87]) rfl rfl hJ0.1.1 zs_386 (Nat.le_of_ble_eq_true rfl) ?_
      refine ZV.imp (k_2319 y87 hN hJ0.1) ?_
      rintro _ ⟨x91, M88, rfl, h92, h93, hJ89, hq90⟩
      have hJ94 := zJ_trans hJ0 hJ89 zSub_nil
      show ZW _ _ _ _ _ _ _ (25, [some (.ref 386), none, none], [.int x91], M88)
      rcases Int.decEq x91.toInt (0 : Int) with h95 | h95
      · skip
        refine w_ieq_f dX9_fresh_25 (t := 37) rfl (by omega) ?_
        have f96 := (hJ89.2 (386) 2 zNI_nil).trans (hfsz)
        have f97 := (hJ89.2 (386) 3 zNI_nil).trans (hfsg)
        have f98 := (hJ89.2 (386) 5 zNI_nil).trans (hfse)
        have f99 := (hJ89.2 (386) 8 zNI_nil).trans (hffk)
        exact ih28 M88 none none sz sg se fk hJ94 f96 (by omega) f97 (by omega) (by omega) f98 (by omega) (by omega) (by omega) f99 (by omega) (by omega) (by omega)
      · skip
        refine w_ieq_t dX9_fresh_25 (t := 37) rfl (by omega) ?_
        have f100 := (hJ89.2 (386) 2 zNI_nil).trans (hfsz)
        have f101 := (hJ89.2 (386) 3 zNI_nil).trans (hfsg)
        have f102 := (hJ89.2 (386) 5 zNI_nil).trans (hfse)
        have f103 := (hJ89.2 (386) 8 zNI_nil).trans (hffk)
        exact ih37 M88 none none sz sg se fk hJ94 f100 (by omega) f101 (by omega) (by omega) f102 (by omega) (by omega) (by omega) f103 (by omega) (by omega) (by omega) (by omega)
set_option maxRecDepth 100000 in
theorem k_2321 {X : List Int32} {d N : Nat} {M0 : zM} (a0 : Int64) (sz : Int32) (hfsz : zvl M0 (386) 2 = some (.int sz)) (hrsz0 : 0 ≤ sz.toInt) (hrsz1 : sz.toInt ≤ 1600) (sg : Int32) (hfsg : zvl M0 (386) 3 = some (.int sg)) (hrsg0 : 0 ≤ sg.toInt) (hrsg1 : sg.toInt ≤ 3) (se : Int32) (hfse : zvl M0 (386) 5 = some (.int se)) (hrse0 : 0 ≤ se.toInt) (hrse1 : se.toInt ≤ sz.toInt) (fk : Int32) (hffk : zvl M0 (386) 8 = some (.int fk)) (hrfk0 : 0 ≤ fk.toInt) (hrfk1 : fk.toInt ≤ 5) (hN : N ≤ 600) (hB0 : zB N M0) : ZV X (d + 3) 2321 [.ref 386, .long a0] M0 (zRV N [(386, 387, 3), (386, 387, 4), (386, 387, 5), (386, 387, 6), (386, 387, 7), (386, 387, 8), (386, 387, 9)] M0 (fun M' => (∃ nz : Int32, zvl M' (386) 2 = some (.int nz) ∧ (nz.toInt = sz.toInt) ∧ (∃ ng : Int32, zvl M' (386) 3 = some (.int ng) ∧ (0 ≤ ng.toInt) ∧ (ng.toInt ≤ 3) ∧ (∃ ne : Int32, zvl M' (386) 5 = some (.int ne) ∧ (se.toInt ≤ ne.toInt) ∧ (ne.toInt ≤ sz.toInt) ∧ (4 * (sz.toInt - ne.toInt) + ng.toInt ≤ 4 * (sz.toInt - se.toInt) + sg.toInt) ∧ (∃ nk : Int32, zvl M' (386) 8 = some (.int nk) ∧ (fk.toInt ≤ nk.toInt) ∧ (nk.toInt ≤ 5) ∧ (1 ≤ nk.toInt ∨ 4 * (sz.toInt - ne.toInt) + ng.toInt + 1 ≤ 4 * (sz.toInt - se.toInt) + sg.toInt) ∧ True)))))) := by
  have hJ0 : zJ N [(386, 387, 3), (386, 387, 4), (386, 387, 5), (386, 387, 6), (386, 387, 7), (386, 387, 8), (386, 387, 9)] M0 M0 := zJ_refl hB0
  refine ZV.of (ini := false) rfl (Nat.le_of_ble_eq_true rfl) (by decide +kernel) ?_
  show ZW _ _ _ _ _ _ _ (0, [some (.ref 386), some (.long a0), none], [], M0)
  refine w_lo dX9_must__0 rfl rfl rfl rfl ?_
  refine w_gf dX9_must__1 rfl hJ0.1.1 zs_386 hffk ?_
  rcases zcut (0 : Int) fk.toInt with h1 | h1
  · skip
    refine w_ile_f dX9_must__4 (t := 8) rfl (by omega) ?_
    refine w_en dX9_must__7 rfl ?_
    exact ⟨_, rfl, hJ0, ⟨sz, hfsz, (by omega), sg, hfsg, (by omega), (by omega), se, hfse, (by omega), (by omega), (by omega), fk, hffk, (by omega), (by omega), (by omega), trivial⟩⟩
  · skip
    refine w_ile_t dX9_must__4 (t := 8) rfl (by omega) ?_
    refine w_lo dX9_must__8 rfl rfl rfl rfl ?_
    refine w_lo dX9_must__9 rfl rfl rfl rfl ?_
    refine w_iv dX9_must__10 rfl rfl (As := [.long a0]) rfl rfl hJ0.1.1 zs_386 (Nat.le_of_ble_eq_true rfl) ?_
    refine ZV.of (ini := false) rfl (Nat.le_of_ble_eq_true rfl) (by decide +kernel) ?_
    show ZW _ _ _ _ _ _ _ (0, [some (.ref 386), some (.long a0), none], [], M0)
    refine w_lo dX9_isWord_0 rfl rfl rfl rfl ?_
    refine w_gf dX9_isWord_1 rfl hJ0.1.1 zs_386 hfsg ?_
    refine w_ic dX9_isWord_4 zi_1 ?_
    rcases Int.decEq sg.toInt (1 : Int) with h2 | h2
    · skip
      refine w_cne_t dX9_isWord_5 (t := 21) rfl (by have := zt_1; omega) ?_
      refine w_ic dX9_isWord_21 zi_0 ?_
      refine w_en dX9_isWord_22 rfl ?_
      show ZW _ _ _ _ _ _ _ (13, [some (.ref 386), some (.long a0), none], [.int 0], M0)
      refine w_ine_f dX9_must__13 (t := 25) rfl (by have := zt_0; omega) ?_
      refine w_lo dX9_must__16 rfl rfl rfl rfl ?_
      refine w_ic dX9_must__17 zi_1 ?_
      refine w_lo dX9_must__18 rfl rfl rfl rfl ?_
      refine w_gfi dX9_must__19 rfl hJ0.1 zs_386 (Nat.le_of_ble_eq_true rfl) zo_386_4 ?_
      intro x3 f4 h5 h6
      refine w_iv dX9_must__22 rfl rfl (As := [.int 1, .int x3]) rfl rfl hJ0.1.1 zs_386 (Nat.le_of_ble_eq_true rfl) ?_
      refine ZV.of (ini := false) rfl (Nat.le_of_ble_eq_true rfl) (by decide +kernel) ?_
      show ZW _ _ _ _ _ _ _ (0, [some (.ref 386), some (.int 1), some (.int x3)], [], M0)
      refine w_lo dX9_blame_0 rfl rfl rfl rfl ?_
      refine w_gf dX9_blame_1 rfl hJ0.1.1 zs_386 hffk ?_
      refine w_ile_t dX9_blame_4 (t := 8) rfl (by omega) ?_
      refine w_lo dX9_blame_8 rfl rfl rfl rfl ?_
      refine w_lo dX9_blame_9 rfl rfl rfl rfl ?_
      refine w_pfi dX9_blame_10 rfl hJ0 zs_386 (Nat.le_of_ble_eq_true rfl) zo_386_8 (by have := zt_1; omega) (by have := zt_1; omega) (zIR_s (zIR_s (zIR_s (zIR_s (zIR_s (zIR_k (by omega) (by omega))))))) rfl rfl rfl ?_
      intro M7 hJ8 f9 hn10
      refine w_lo dX9_blame_13 rfl rfl rfl rfl ?_
      refine w_lo dX9_blame_14 rfl rfl rfl rfl ?_
      refine w_pfi dX9_blame_15 rfl hJ8 zs_386 (Nat.le_of_ble_eq_true rfl) zo_386_9 (by omega) (by omega) (zIR_s (zIR_s (zIR_s (zIR_s (zIR_s (zIR_s (zIR_k (by omega) (by omega)))))))) rfl rfl rfl ?_
      intro M11 hJ12 f13 hn14
      refine w_en dX9_blame_18 rfl ?_
      show ZW _ _ _ _ _ _ _ (25, [some (.ref 386), some (.long a0), none], [], M11)
      refine w_lo dX9_must__25 rfl rfl rfl rfl ?_
      have f15 := (hn14 (386) 8 (Or.inr (by decide))).trans (f9)
      refine w_gf dX9_must__26 rfl hJ12.1.1 zs_386 f15 ?_
      refine w_ine_t dX9_must__29 (t := 36) rfl (by have := zt_1; omega) ?_
      refine w_en dX9_must__36 rfl ?_
      have f16 := (hn14 (386) 2 (Or.inr (by decide))).trans ((hn10 (386) 2 (Or.inr (by decide))).trans (hfsz))
      have f17 := (hn14 (386) 3 (Or.inr (by decide))).trans ((hn10 (386) 3 (Or.inr (by decide))).trans (hfsg))
      have f18 := (hn14 (386) 5 (Or.inr (by decide))).trans ((hn10 (386) 5 (Or.inr (by decide))).trans (hfse))
      exact ⟨_, rfl, hJ12, ⟨sz, f16, (by omega), sg, f17, (by omega), (by omega), se, f18, (by omega), (by omega), (by omega), 1, f15, (by have := zt_1; omega), (by have := zt_1; omega), (by have := zt_1; omega), trivial⟩⟩
    · skip
      refine w_cne_f dX9_isWord_5 (t := 21) rfl (by have := zt_1; omega) ?_
      refine w_lo dX9_isWord_8 rfl rfl rfl rfl ?_
      refine w_gfl dX9_isWord_9 rfl hJ0.1 zs_386 (Nat.le_of_ble_eq_true rfl) zo_386_7 ?_
      intro y22 f19 h20 h21
      refine w_lo dX9_isWord_12 rfl rfl rfl rfl ?_
      refine w_lcm dX9_isWord_13 ?_
      intro x23 h24
      skip
      rcases Int.decEq x23.toInt (0 : Int) with h25 | h25
      · skip
        refine w_ine_t dX9_isWord_14 (t := 21) rfl (by omega) ?_
        refine w_ic dX9_isWord_21 zi_0 ?_
        refine w_en dX9_isWord_22 rfl ?_
        show ZW _ _ _ _ _ _ _ (13, [some (.ref 386), some (.long a0), none], [.int 0], M0)
        refine w_ine_f dX9_must__13 (t := 25) rfl (by have := zt_0; omega) ?_
        refine w_lo dX9_must__16 rfl rfl rfl rfl ?_
        refine w_ic dX9_must__17 zi_1 ?_
        refine w_lo dX9_must__18 rfl rfl rfl rfl ?_
        refine w_gfi dX9_must__19 rfl hJ0.1 zs_386 (Nat.le_of_ble_eq_true rfl) zo_386_4 ?_
        intro x26 f27 h28 h29
        refine w_iv dX9_must__22 rfl rfl (As := [.int 1, .int x26]) rfl rfl hJ0.1.1 zs_386 (Nat.le_of_ble_eq_true rfl) ?_
        refine ZV.of (ini := false) rfl (Nat.le_of_ble_eq_true rfl) (by decide +kernel) ?_
        show ZW _ _ _ _ _ _ _ (0, [some (.ref 386), some (.int 1), some (.int x26)], [], M0)
        refine w_lo dX9_blame_0 rfl rfl rfl rfl ?_
        refine w_gf dX9_blame_1 rfl hJ0.1.1 zs_386 hffk ?_
        refine w_ile_t dX9_blame_4 (t := 8) rfl (by omega) ?_
        refine w_lo dX9_blame_8 rfl rfl rfl rfl ?_
        refine w_lo dX9_blame_9 rfl rfl rfl rfl ?_
        refine w_pfi dX9_blame_10 rfl hJ0 zs_386 (Nat.le_of_ble_eq_true rfl) zo_386_8 (by have := zt_1; omega) (by have := zt_1; omega) (zIR_s (zIR_s (zIR_s (zIR_s (zIR_s (zIR_k (by omega) (by omega))))))) rfl rfl rfl ?_
        intro M30 hJ31 f32 hn33
        refine w_lo dX9_blame_13 rfl rfl rfl rfl ?_
        refine w_lo dX9_blame_14 rfl rfl rfl rfl ?_
        refine w_pfi dX9_blame_15 rfl hJ31 zs_386 (Nat.le_of_ble_eq_true rfl) zo_386_9 (by omega) (by omega) (zIR_s (zIR_s (zIR_s (zIR_s (zIR_s (zIR_s (zIR_k (by omega) (by omega)))))))) rfl rfl rfl ?_
        intro M34 hJ35 f36 hn37
        refine w_en dX9_blame_18 rfl ?_
        show ZW _ _ _ _ _ _ _ (25, [some (.ref 386), some (.long a0), none], [], M34)
        refine w_lo dX9_must__25 rfl rfl rfl rfl ?_
        have f38 := (hn37 (386) 8 (Or.inr (by decide))).trans (f32)
        refine w_gf dX9_must__26 rfl hJ35.1.1 zs_386 f38 ?_
        refine w_ine_t dX9_must__29 (t := 36) rfl (by have := zt_1; omega) ?_
        refine w_en dX9_must__36 rfl ?_
        have f39 := (hn37 (386) 2 (Or.inr (by decide))).trans ((hn33 (386) 2 (Or.inr (by decide))).trans (hfsz))
        have f40 := (hn37 (386) 3 (Or.inr (by decide))).trans ((hn33 (386) 3 (Or.inr (by decide))).trans (hfsg))
        have f41 := (hn37 (386) 5 (Or.inr (by decide))).trans ((hn33 (386) 5 (Or.inr (by decide))).trans (hfse))
        exact ⟨_, rfl, hJ35, ⟨sz, f39, (by omega), sg, f40, (by omega), (by omega), se, f41, (by omega), (by omega), (by omega), 1, f38, (by have := zt_1; omega), (by have := zt_1; omega), (by have := zt_1; omega), trivial⟩⟩
      · skip
        refine w_ine_f dX9_isWord_14 (t := 21) rfl (by omega) ?_
        refine w_ic dX9_isWord_17 zi_1 ?_
        refine w_gt dX9_isWord_18 (t := 22) rfl ?_
        refine w_en dX9_isWord_22 rfl ?_
        show ZW _ _ _ _ _ _ _ (13, [some (.ref 386), some (.long a0), none], [.int 1], M0)
        refine w_ine_t dX9_must__13 (t := 25) rfl (by have := zt_1; omega) ?_
        refine w_lo dX9_must__25 rfl rfl rfl rfl ?_
        refine w_gf dX9_must__26 rfl hJ0.1.1 zs_386 hffk ?_
        refine w_ine_f dX9_must__29 (t := 36) rfl (by omega) ?_
        refine w_lo dX9_must__32 rfl rfl rfl rfl ?_
        refine w_iv dX9_must__33 rfl rfl (As := []) rfl rfl hJ0.1.1 zs_386 (Nat.le_of_ble_eq_true rfl) ?_
        refine ZV.imp (k_2310 sz hfsz (by omega) (by omega) sg hfsg (by omega) (by omega) se hfse (by omega) (by omega) fk hffk (by omega) (by omega) hN hJ0.1) ?_
        rintro _ ⟨M42, rfl, hJ43, hq44⟩
        have hJ45 := zJ_trans hJ0 hJ43 (zSub_cons (fun _ _ h h' hk => zIR_e (by omega) (by omega) hk) (zSub_cons (fun _ _ h h' hk => zIR_s (zIR_e (by omega) (by omega) hk)) (zSub_cons (fun _ _ h h' hk => zIR_s (zIR_s (zIR_e (by omega) (by omega) hk))) (zSub_cons (fun _ _ h h' hk => zIR_s (zIR_s (zIR_s (zIR_e (by omega) (by omega) hk)))) (zSub_cons (fun _ _ h h' hk => zIR_s (zIR_s (zIR_s (zIR_s (zIR_e (by omega) (by omega) hk))))) (zSub_cons (fun _ _ h h' hk => zIR_s (zIR_s (zIR_s (zIR_s (zIR_s (zIR_e (by omega) (by omega) hk)))))) (zSub_cons (fun _ _ h h' hk => zIR_s (zIR_s (zIR_s (zIR_s (zIR_s (zIR_s (zIR_e (by omega) (by omega) hk))))))) zSub_nil)))))))
        obtain ⟨x46, f47, h48, x49, f50, h51, h52, x53, f54, h55, h56, x57, f58, h59, h60, h61, x62, f63, h64, h65, -⟩ := hq44
        show ZW _ _ _ _ _ _ _ (36, [some (.ref 386), some (.long a0), none], [], M42)
        refine w_en dX9_must__36 rfl ?_
        exact ⟨_, rfl, hJ45, ⟨x46, f47, (by omega), x49, f50, (by omega), (by omega), x57, f58, (by omega), (by omega), (by omega), x62, f63, (by omega), (by omega), (by omega), trivial⟩⟩
set_option maxRecDepth 100000 in
theorem k_2322 {X : List Int32} {d N : Nat} {M0 : zM} (a0 : Int32) (ha00 : (0 : Int) ≤ a0.toInt) (ha01 : a0.toInt ≤ 1) (a1 : Int32) (ha10 : (60 : Int) ≤ a1.toInt) (ha11 : a1.toInt ≤ 999) (sz : Int32) (hfsz : zvl M0 (386) 2 = some (.int sz)) (hrsz0 : 0 ≤ sz.toInt) (hrsz1 : sz.toInt ≤ 1600) (sg : Int32) (hfsg : zvl M0 (386) 3 = some (.int sg)) (hrsg0 : 0 ≤ sg.toInt) (hrsg1 : sg.toInt ≤ 3) (se : Int32) (hfse : zvl M0 (386) 5 = some (.int se)) (hrse0 : 0 ≤ se.toInt) (hrse1 : se.toInt ≤ sz.toInt) (fk : Int32) (hffk : zvl M0 (386) 8 = some (.int fk)) (hrfk0 : 0 ≤ fk.toInt) (hrfk1 : fk.toInt ≤ 5) (hN : N ≤ 600) (hB0 : zB N M0) : ZV X (d + 3) 2322 [.ref 386, .int a0, .int a1] M0 (zRI N [(386, 387, 3), (386, 387, 4), (386, 387, 5), (386, 387, 6), (386, 387, 7), (386, 387, 8), (386, 387, 9)] M0 (-2147483648) (2147483647) (fun v M' => (∃ nz : Int32, zvl M' (386) 2 = some (.int nz) ∧ (nz.toInt = sz.toInt) ∧ (∃ ng : Int32, zvl M' (386) 3 = some (.int ng) ∧ (0 ≤ ng.toInt) ∧ (ng.toInt ≤ 3) ∧ (∃ ne : Int32, zvl M' (386) 5 = some (.int ne) ∧ (se.toInt ≤ ne.toInt) ∧ (ne.toInt ≤ sz.toInt) ∧ (4 * (sz.toInt - ne.toInt) + ng.toInt ≤ 4 * (sz.toInt - se.toInt) + sg.toInt) ∧ (∃ nk : Int32, zvl M' (386) 8 = some (.int nk) ∧ (fk.toInt ≤ nk.toInt) ∧ (nk.toInt ≤ 5) ∧ (1 ≤ nk.toInt ∨ 4 * (sz.toInt - ne.toInt) + ng.toInt + 1 ≤ 4 * (sz.toInt - se.toInt) + sg.toInt) ∧ True)))))) := by
  have hJ0 : zJ N [(386, 387, 3), (386, 387, 4), (386, 387, 5), (386, 387, 6), (386, 387, 7), (386, 387, 8), (386, 387, 9)] M0 M0 := zJ_refl hB0
  refine ZV.of (ini := false) rfl (Nat.le_of_ble_eq_true rfl) (by decide +kernel) ?_
  have main : ∀ n : Nat,
      (∀ (M : zM) (v26_1 : Int32) (v26_2 : Int32) (o26_3 : Option Value) (z_26 : Int32) (g_26 : Int32) (e_26 : Int32) (k_26 : Int32), zJ N [(386, 387, 3), (386, 387, 4), (386, 387, 5), (386, 387, 6), (386, 387, 7), (386, 387, 8), (386, 387, 9)] M0 M → ((0 : Int) ≤ v26_1.toInt) → (v26_1.toInt ≤ 1) → ((60 : Int) ≤ v26_2.toInt) → (v26_2.toInt ≤ 999) → (zvl M (386) 2 = some (.int z_26)) → (z_26.toInt = sz.toInt) → (zvl M (386) 3 = some (.int g_26)) → (0 ≤ g_26.toInt) → (g_26.toInt ≤ 3) → (zvl M (386) 5 = some (.int e_26)) → (se.toInt ≤ e_26.toInt) → (e_26.toInt ≤ sz.toInt) → (4 * (sz.toInt - e_26.toInt) + g_26.toInt ≤ 4 * (sz.toInt - se.toInt) + sg.toInt) → (zvl M (386) 8 = some (.int k_26)) → (fk.toInt ≤ k_26.toInt) → (k_26.toInt ≤ 5) → (1 ≤ k_26.toInt ∨ 1 ≤ g_26.toInt) → 1 < (n : Int) → ZW X (d + 2) 9 false (some .int) cX9_number (zRI N [(386, 387, 3), (386, 387, 4), (386, 387, 5), (386, 387, 6), (386, 387, 7), (386, 387, 8), (386, 387, 9)] M0 (-2147483648) (2147483647) (fun v M' => (∃ nz : Int32, zvl M' (386) 2 = some (.int nz) ∧ (nz.toInt = sz.toInt) ∧ (∃ ng : Int32, zvl M' (386) 3 = some (.int ng) ∧ (0 ≤ ng.toInt) ∧ (ng.toInt ≤ 3) ∧ (∃ ne : Int32, zvl M' (386) 5 = some (.int ne) ∧ (se.toInt ≤ ne.toInt) ∧ (ne.toInt ≤ sz.toInt) ∧ (4 * (sz.toInt - ne.toInt) + ng.toInt ≤ 4 * (sz.toInt - se.toInt) + sg.toInt) ∧ (∃ nk : Int32, zvl M' (386) 8 = some (.int nk) ∧ (fk.toInt ≤ nk.toInt) ∧ (nk.toInt ≤ 5) ∧ (1 ≤ nk.toInt ∨ 4 * (sz.toInt - ne.toInt) + ng.toInt + 1 ≤ 4 * (sz.toInt - se.toInt) + sg.toInt) ∧ True)))))) (26, [some (.ref 386), some (.int v26_1), some (.int v26_2), o26_3], [], M)) := by
    intro n
    induction n with
    | zero =>
      exact (fun M v26_1 v26_2 o26_3 z_26 g_26 e_26 k_26 hJ v26_10 v26_11 v26_20 v26_21 hfz_26 hrz_260 hfg_26 hrg_260 hrg_261 hfe_26 hre_260 hre_261 hre_262 hfk_26 hrk_260 hrk_261 hrk_262 hn => absurd hn (by omega))
    | succ n ih =>
      have ih26 := ih
      · intro M v26_1 v26_2 o26_3 z_26 g_26 e_26 k_26 hJ v26_10 v26_11 v26_20 v26_21 hfz_26 hrz_260 hfg_26 hrg_260 hrg_261 hfe_26 hre_260 hre_261 hre_262 hfk_26 hrk_260 hrk_261 hrk_262 hn
        refine w_lo dX9_number_26 rfl rfl rfl rfl ?_
        refine w_gf dX9_number_27 rfl hJ.1.1 zs_386 hfk_26 ?_
        rcases Int.decEq k_26.toInt (0 : Int) with h1 | h1
        · skip
          refine w_ine_t dX9_number_30 (t := 54) rfl (by omega) ?_
          refine w_lo dX9_number_54 rfl rfl rfl rfl ?_
          refine w_gfi dX9_number_55 rfl hJ.1 zs_386 (Nat.le_of_ble_eq_true rfl) zo_386_6 ?_
          intro x2 f3 h4 h5
          refine w_lo (ml' := [some (.ref 386), some (.int v26_1), some (.int v26_2), some (.int x2)]) dX9_number_58 rfl rfl rfl rfl ?_
          refine w_lo dX9_number_59 rfl rfl rfl rfl ?_
          refine w_gf dX9_number_60 rfl hJ.1.1 zs_386 hfk_26 ?_
          refine w_ine_t dX9_number_63 (t := 70) rfl (by omega) ?_
          refine w_lo dX9_number_70 rfl rfl rfl rfl ?_
          refine w_eni dX9_number_71 rfl rfl ?_
          exact ⟨_, _, rfl, (zbot _), (ztop _), hJ, ⟨z_26, hfz_26, (by omega), g_26, hfg_26, (by omega), (by omega), e_26, hfe_26, (by omega), (by omega), (by omega), k_26, hfk_26, (by omega), (by omega), (by omega), trivial⟩⟩
        · skip
          refine w_ine_f dX9_number_30 (t := 54) rfl (by omega) ?_
          refine w_lo dX9_number_33 rfl rfl rfl rfl ?_
          refine w_gfi dX9_number_34 rfl hJ.1 zs_386 (Nat.le_of_ble_eq_true rfl) zo_386_6 ?_
          intro x6 f7 h8 h9
          refine w_lo dX9_number_37 rfl rfl rfl rfl ?_
          refine w_lo dX9_number_38 rfl rfl rfl rfl ?_
          refine w_ss dX9_number_39 rfl rfl (As := [.int x6, .int v26_1, .int v26_2]) rfl rfl (Nat.le_of_ble_eq_true rfl) ?_
          refine ZV.of (ini := false) rfl (Nat.le_of_ble_eq_true rfl) (by decide +kernel) ?_
          show ZW _ _ _ _ _ _ _ (0, [some (.int x6), some (.int v26_1), some (.int v26_2)], [], M)
          refine w_lo dX9_is_0 rfl rfl rfl rfl ?_
          refine w_lo dX9_is_1 rfl rfl rfl rfl ?_
          rcases zcut x6.toInt v26_1.toInt with h10 | h10
          · skip
            refine w_clt_t dX9_is_2 (t := 14) rfl (by omega) ?_
            refine w_ic dX9_is_14 zi_0 ?_
            refine w_en dX9_is_15 rfl ?_
            show ZW _ _ _ _ _ _ _ (42, [some (.ref 386), some (.int v26_1), some (.int v26_2), o26_3], [.int 0], M)
            refine w_ine_f dX9_number_42 (t := 54) rfl (by have := zt_0; omega) ?_
            refine w_lo dX9_number_45 rfl rfl rfl rfl ?_
            refine w_ic dX9_number_46 zi_4 ?_
            refine w_lo dX9_number_47 rfl rfl rfl rfl ?_
            refine w_gfi dX9_number_48 rfl hJ.1 zs_386 (Nat.le_of_ble_eq_true rfl) zo_386_4 ?_
            intro x11 f12 h13 h14
            refine w_iv dX9_number_51 rfl rfl (As := [.int 4, .int x11]) rfl rfl hJ.1.1 zs_386 (Nat.le_of_ble_eq_true rfl) ?_
            refine ZV.of (ini := false) rfl (Nat.le_of_ble_eq_true rfl) (by decide +kernel) ?_
            show ZW _ _ _ _ _ _ _ (0, [some (.ref 386), some (.int 4), some (.int x11)], [], M)
            refine w_lo dX9_blame_0 rfl rfl rfl rfl ?_
            refine w_gf dX9_blame_1 rfl hJ.1.1 zs_386 hfk_26 ?_
            refine w_ile_t dX9_blame_4 (t := 8) rfl (by omega) ?_
            refine w_lo dX9_blame_8 rfl rfl rfl rfl ?_
            refine w_lo dX9_blame_9 rfl rfl rfl rfl ?_
            refine w_pfi dX9_blame_10 rfl hJ zs_386 (Nat.le_of_ble_eq_true rfl) zo_386_8 (by have := zt_4; omega) (by have := zt_4; omega) (zIR_s (zIR_s (zIR_s (zIR_s (zIR_s (zIR_k (by omega) (by omega))))))) rfl rfl rfl ?_
            intro M15 hJ16 f17 hn18
            refine w_lo dX9_blame_13 rfl rfl rfl rfl ?_
            refine w_lo dX9_blame_14 rfl rfl rfl rfl ?_
            refine w_pfi dX9_blame_15 rfl hJ16 zs_386 (Nat.le_of_ble_eq_true rfl) zo_386_9 (by omega) (by omega) (zIR_s (zIR_s (zIR_s (zIR_s (zIR_s (zIR_s (zIR_k (by omega) (by omega)))))))) rfl rfl rfl ?_
            intro M19 hJ20 f21 hn22
            refine w_en dX9_blame_18 rfl ?_
            show ZW _ _ _ _ _ _ _ (54, [some (.ref 386), some (.int v26_1), some (.int v26_2), o26_3], [], M19)
            refine w_lo dX9_number_54 rfl rfl rfl rfl ?_
            have f23 := (hn22 (386) 6 (Or.inr (by decide))).trans ((hn18 (386) 6 (Or.inr (by decide))).trans (f7))
            refine w_gf dX9_number_55 rfl hJ20.1.1 zs_386 f23 ?_
            refine w_lo (ml' := [some (.ref 386), some (.int v26_1), some (.int v26_2), some (.int x6)]) dX9_number_58 rfl rfl rfl rfl ?_
            refine w_lo dX9_number_59 rfl rfl rfl rfl ?_
            have f24 := (hn22 (386) 8 (Or.inr (by decide))).trans (f17)
            refine w_gf dX9_number_60 rfl hJ20.1.1 zs_386 f24 ?_
            refine w_ine_t dX9_number_63 (t := 70) rfl (by have := zt_4; omega) ?_
            refine w_lo dX9_number_70 rfl rfl rfl rfl ?_
            refine w_eni dX9_number_71 rfl rfl ?_
            have f25 := (hn22 (386) 2 (Or.inr (by decide))).trans ((hn18 (386) 2 (Or.inr (by decide))).trans (hfz_26))
            have f26 := (hn22 (386) 3 (Or.inr (by decide))).trans ((hn18 (386) 3 (Or.inr (by decide))).trans (hfg_26))
            have f27 := (hn22 (386) 5 (Or.inr (by decide))).trans ((hn18 (386) 5 (Or.inr (by decide))).trans (hfe_26))
            exact ⟨_, _, rfl, (zbot _), (ztop _), hJ20, ⟨z_26, f25, (by omega), g_26, f26, (by omega), (by omega), e_26, f27, (by omega), (by omega), (by omega), 4, f24, (by have := zt_4; omega), (by have := zt_4; omega), (by have := zt_4; omega), trivial⟩⟩
          · skip
            refine w_clt_f dX9_is_2 (t := 14) rfl (by omega) ?_
            refine w_lo dX9_is_5 rfl rfl rfl rfl ?_
            refine w_lo dX9_is_6 rfl rfl rfl rfl ?_
            rcases zcut v26_2.toInt x6.toInt with h28 | h28
            · skip
              refine w_cgt_t dX9_is_7 (t := 14) rfl (by omega) ?_
              refine w_ic dX9_is_14 zi_0 ?_
              refine w_en dX9_is_15 rfl ?_
              show ZW _ _ _ _ _ _ _ (42, [some (.ref 386), some (.int v26_1), some (.int v26_2), o26_3], [.int 0], M)
              refine w_ine_f dX9_number_42 (t := 54) rfl (by have := zt_0; omega) ?_
              refine w_lo dX9_number_45 rfl rfl rfl rfl ?_
              refine w_ic dX9_number_46 zi_4 ?_
              refine w_lo dX9_number_47 rfl rfl rfl rfl ?_
              refine w_gfi dX9_number_48 rfl hJ.1 zs_386 (Nat.le_of_ble_eq_true rfl) zo_386_4 ?_
              intro x29 f30 h31 h32
              refine w_iv dX9_number_51 rfl rfl (As := [.int 4, .int x29]) rfl rfl hJ.1.1 zs_386 (Nat.le_of_ble_eq_true rfl) ?_
              refine ZV.of (ini := false) rfl (Nat.le_of_ble_eq_true rfl) (by decide +kernel) ?_
              show ZW _ _ _ _ _ _ _ (0, [some (.ref 386), some (.int 4), some (.int x29)], [], M)
              refine w_lo dX9_blame_0 rfl rfl rfl rfl ?_
              refine w_gf dX9_blame_1 rfl hJ.1.1 zs_386 hfk_26 ?_
              refine w_ile_t dX9_blame_4 (t := 8) rfl (by omega) ?_
              refine w_lo dX9_blame_8 rfl rfl rfl rfl ?_
              refine w_lo dX9_blame_9 rfl rfl rfl rfl ?_
              refine w_pfi dX9_blame_10 rfl hJ zs_386 (Nat.le_of_ble_eq_true rfl) zo_386_8 (by have := zt_4; omega) (by have := zt_4; omega) (zIR_s (zIR_s (zIR_s (zIR_s (zIR_s (zIR_k (by omega) (by omega))))))) rfl rfl rfl ?_
              intro M33 hJ34 f35 hn36
              refine w_lo dX9_blame_13 rfl rfl rfl rfl ?_
              refine w_lo dX9_blame_14 rfl rfl rfl rfl ?_
              refine w_pfi dX9_blame_15 rfl hJ34 zs_386 (Nat.le_of_ble_eq_true rfl) zo_386_9 (by omega) (by omega) (zIR_s (zIR_s (zIR_s (zIR_s (zIR_s (zIR_s (zIR_k (by omega) (by omega)))))))) rfl rfl rfl ?_
              intro M37 hJ38 f39 hn40
              refine w_en dX9_blame_18 rfl ?_
              show ZW _ _ _ _ _ _ _ (54, [some (.ref 386), some (.int v26_1), some (.int v26_2), o26_3], [], M37)
              refine w_lo dX9_number_54 rfl rfl rfl rfl ?_
              have f41 := (hn40 (386) 6 (Or.inr (by decide))).trans ((hn36 (386) 6 (Or.inr (by decide))).trans (f7))
              refine w_gf dX9_number_55 rfl hJ38.1.1 zs_386 f41 ?_
              refine w_lo (ml' := [some (.ref 386), some (.int v26_1), some (.int v26_2), some (.int x6)]) dX9_number_58 rfl rfl rfl rfl ?_
              refine w_lo dX9_number_59 rfl rfl rfl rfl ?_
              have f42 := (hn40 (386) 8 (Or.inr (by decide))).trans (f35)
              refine w_gf dX9_number_60 rfl hJ38.1.1 zs_386 f42 ?_
              refine w_ine_t dX9_number_63 (t := 70) rfl (by have := zt_4; omega) ?_
              refine w_lo dX9_number_70 rfl rfl rfl rfl ?_
              refine w_eni dX9_number_71 rfl rfl ?_
              have f43 := (hn40 (386) 2 (Or.inr (by decide))).trans ((hn36 (386) 2 (Or.inr (by decide))).trans (hfz_26))
              have f44 := (hn40 (386) 3 (Or.inr (by decide))).trans ((hn36 (386) 3 (Or.inr (by decide))).trans (hfg_26))
              have f45 := (hn40 (386) 5 (Or.inr (by decide))).trans ((hn36 (386) 5 (Or.inr (by decide))).trans (hfe_26))
              exact ⟨_, _, rfl, (zbot _), (ztop _), hJ38, ⟨z_26, f43, (by omega), g_26, f44, (by omega), (by omega), e_26, f45, (by omega), (by omega), (by omega), 4, f42, (by have := zt_4; omega), (by have := zt_4; omega), (by have := zt_4; omega), trivial⟩⟩
            · skip
              refine w_cgt_f dX9_is_7 (t := 14) rfl (by omega) ?_
              refine w_ic dX9_is_10 zi_1 ?_
              refine w_gt dX9_is_11 (t := 15) rfl ?_
              refine w_en dX9_is_15 rfl ?_
              show ZW _ _ _ _ _ _ _ (42, [some (.ref 386), some (.int v26_1), some (.int v26_2), o26_3], [.int 1], M)
              refine w_ine_t dX9_number_42 (t := 54) rfl (by have := zt_1; omega) ?_
              refine w_lo dX9_number_54 rfl rfl rfl rfl ?_
              refine w_gf dX9_number_55 rfl hJ.1.1 zs_386 f7 ?_
              refine w_lo (ml' := [some (.ref 386), some (.int v26_1), some (.int v26_2), some (.int x6)]) dX9_number_58 rfl rfl rfl rfl ?_
              refine w_lo dX9_number_59 rfl rfl rfl rfl ?_
              refine w_gf dX9_number_60 rfl hJ.1.1 zs_386 hfk_26 ?_
              refine w_ine_f dX9_number_63 (t := 70) rfl (by omega) ?_
              refine w_lo dX9_number_66 rfl rfl rfl rfl ?_
              refine w_iv dX9_number_67 rfl rfl (As := []) rfl rfl hJ.1.1 zs_386 (Nat.le_of_ble_eq_true rfl) ?_
              refine ZV.imp (k_2310 z_26 hfz_26 (by omega) (by omega) g_26 hfg_26 (by omega) (by omega) e_26 hfe_26 (by omega) (by omega) k_26 hfk_26 (by omega) (by omega) hN hJ.1) ?_
              rintro _ ⟨M46, rfl, hJ47, hq48⟩
              have hJ49 := zJ_trans hJ hJ47 (zSub_cons (fun _ _ h h' hk => zIR_e (by omega) (by omega) hk) (zSub_cons (fun _ _ h h' hk => zIR_s (zIR_e (by omega) (by omega) hk)) (zSub_cons (fun _ _ h h' hk => zIR_s (zIR_s (zIR_e (by omega) (by omega) hk))) (zSub_cons (fun _ _ h h' hk => zIR_s (zIR_s (zIR_s (zIR_e (by omega) (by omega) hk)))) (zSub_cons (fun _ _ h h' hk => zIR_s (zIR_s (zIR_s (zIR_s (zIR_e (by omega) (by omega) hk))))) (zSub_cons (fun _ _ h h' hk => zIR_s (zIR_s (zIR_s (zIR_s (zIR_s (zIR_e (by omega) (by omega) hk)))))) (zSub_cons (fun _ _ h h' hk => zIR_s (zIR_s (zIR_s (zIR_s (zIR_s (zIR_s (zIR_e (by omega) (by omega) hk))))))) zSub_nil)))))))
              obtain ⟨x50, f51, h52, x53, f54, h55, h56, x57, f58, h59, h60, x61, f62, h63, h64, h65, x66, f67, h68, h69, -⟩ := hq48
              show ZW _ _ _ _ _ _ _ (70, [some (.ref 386), some (.int v26_1), some (.int v26_2), some (.int x6)], [], M46)
              refine w_lo dX9_number_70 rfl rfl rfl rfl ?_
              refine w_eni dX9_number_71 rfl rfl ?_
              exact ⟨_, _, rfl, (zbot _), (ztop _), hJ49, ⟨x50, f51, (by omega), x53, f54, (by omega), (by omega), x61, f62, (by omega), (by omega), (by omega), x66, f67, (by omega), (by omega), (by omega), trivial⟩⟩
  have ih26 := main 6
  show ZW _ _ _ _ _ _ _ (0, [some (.ref 386), some (.int a0), some (.int a1), none], [], M0)
  refine w_lo dX9_number_0 rfl rfl rfl rfl ?_
  refine w_gf dX9_number_1 rfl hJ0.1.1 zs_386 hffk ?_
  rcases zcut (0 : Int) fk.toInt with h70 | h70
  · skip
    refine w_ile_f dX9_number_4 (t := 9) rfl (by omega) ?_
    refine w_ic dX9_number_7 zi_0 ?_
    refine w_en dX9_number_8 rfl ?_
    exact ⟨_, _, rfl, (zbot _), (ztop _), hJ0, ⟨sz, hfsz, (by have := zt_0; omega), sg, hfsg, (by have := zt_0; omega), (by have := zt_0; omega), se, hfse, (by have := zt_0; omega), (by have := zt_0; omega), (by have := zt_0; omega), fk, hffk, (by have := zt_0; omega), (by have := zt_0; omega), (by have := zt_0; omega), trivial⟩⟩
  · skip
    refine w_ile_t dX9_number_4 (t := 9) rfl (by omega) ?_
    refine w_lo dX9_number_9 rfl rfl rfl rfl ?_
    refine w_gf dX9_number_10 rfl hJ0.1.1 zs_386 hfsg ?_
    refine w_ic dX9_number_13 zi_2 ?_
    rcases Int.decEq sg.toInt (2 : Int) with h71 | h71
    · skip
      refine w_ceq_f dX9_number_14 (t := 26) rfl (by have := zt_2; omega) ?_
      refine w_lo dX9_number_17 rfl rfl rfl rfl ?_
      refine w_ic dX9_number_18 zi_1 ?_
      refine w_lo dX9_number_19 rfl rfl rfl rfl ?_
      refine w_gfi dX9_number_20 rfl hJ0.1 zs_386 (Nat.le_of_ble_eq_true rfl) zo_386_4 ?_
      intro x72 f73 h74 h75
      refine w_iv dX9_number_23 rfl rfl (As := [.int 1, .int x72]) rfl rfl hJ0.1.1 zs_386 (Nat.le_of_ble_eq_true rfl) ?_
      refine ZV.of (ini := false) rfl (Nat.le_of_ble_eq_true rfl) (by decide +kernel) ?_
      show ZW _ _ _ _ _ _ _ (0, [some (.ref 386), some (.int 1), some (.int x72)], [], M0)
      refine w_lo dX9_blame_0 rfl rfl rfl rfl ?_
      refine w_gf dX9_blame_1 rfl hJ0.1.1 zs_386 hffk ?_
      refine w_ile_t dX9_blame_4 (t := 8) rfl (by omega) ?_
      refine w_lo dX9_blame_8 rfl rfl rfl rfl ?_
      refine w_lo dX9_blame_9 rfl rfl rfl rfl ?_
      refine w_pfi dX9_blame_10 rfl hJ0 zs_386 (Nat.le_of_ble_eq_true rfl) zo_386_8 (by have := zt_1; omega) (by have := zt_1; omega) (zIR_s (zIR_s (zIR_s (zIR_s (zIR_s (zIR_k (by omega) (by omega))))))) rfl rfl rfl ?_
      intro M76 hJ77 f78 hn79
      refine w_lo dX9_blame_13 rfl rfl rfl rfl ?_
      refine w_lo dX9_blame_14 rfl rfl rfl rfl ?_
      refine w_pfi dX9_blame_15 rfl hJ77 zs_386 (Nat.le_of_ble_eq_true rfl) zo_386_9 (by omega) (by omega) (zIR_s (zIR_s (zIR_s (zIR_s (zIR_s (zIR_s (zIR_k (by omega) (by omega)))))))) rfl rfl rfl ?_
      intro M80 hJ81 f82 hn83
      refine w_en dX9_blame_18 rfl ?_
      show ZW _ _ _ _ _ _ _ (26, [some (.ref 386), some (.int a0), some (.int a1), none], [], M80)
      have f84 := (hn83 (386) 2 (Or.inr (by decide))).trans ((hn79 (386) 2 (Or.inr (by decide))).trans (hfsz))
      have f85 := (hn83 (386) 3 (Or.inr (by decide))).trans ((hn79 (386) 3 (Or.inr (by decide))).trans (hfsg))
      have f86 := (hn83 (386) 5 (Or.inr (by decide))).trans ((hn79 (386) 5 (Or.inr (by decide))).trans (hfse))
      have f87 := (hn83 (386) 8 (Or.inr (by decide))).trans (f78)
      exact ih26 M80 a0 a1 none sz sg se 1 hJ81 (by omega) (by omega) (by omega) (by omega) f84 (by have := zt_1; omega) f85 (by have := zt_1; omega) (by have := zt_1; omega) f86 (by have := zt_1; omega) (by have := zt_1; omega) (by have := zt_1; omega) f87 (by have := zt_1; omega) (by have := zt_1; omega) (by have := zt_1; omega) (by have := zt_1; omega)
    · skip
      refine w_ceq_t dX9_number_14 (t := 26) rfl (by have := zt_2; omega) ?_
      exact ih26 M0 a0 a1 none sz sg se fk hJ0 (by omega) (by omega) (by omega) (by omega) hfsz (by omega) hfsg (by omega) (by omega) hfse (by omega) (by omega) (by omega) hffk (by omega) (by omega) (by omega) (by omega)
set_option maxRecDepth 100000 in
theorem k_2324 {X : List Int32} {d N : Nat} {M0 : zM} (a0 : Int32) (ha00 : (0 : Int) ≤ a0.toInt) (ha01 : a0.toInt ≤ 23) (sz : Int32) (hfsz : zvl M0 (386) 2 = some (.int sz)) (hrsz0 : 0 ≤ sz.toInt) (hrsz1 : sz.toInt ≤ 1600) (sg : Int32) (hfsg : zvl M0 (386) 3 = some (.int sg)) (hrsg0 : 0 ≤ sg.toInt) (hrsg1 : sg.toInt ≤ 3) (se : Int32) (hfse : zvl M0 (386) 5 = some (.int se)) (hrse0 : 0 ≤ se.toInt) (hrse1 : se.toInt ≤ sz.toInt) (fk : Int32) (hffk : zvl M0 (386) 8 = some (.int fk)) (hrfk0 : 0 ≤ fk.toInt) (hrfk1 : fk.toInt ≤ 5) (hN : N ≤ 600) (hB0 : zB N M0) : ZV X (d + 3) 2324 [.ref 386, .int a0] M0 (zRV N [(394, 395, 1000), (386, 387, 3), (386, 387, 4), (386, 387, 5), (386, 387, 6), (386, 387, 7), (386, 387, 8), (386, 387, 9)] M0 (fun M' => (∃ nz : Int32, zvl M' (386) 2 = some (.int nz) ∧ (nz.toInt = sz.toInt) ∧ (∃ ng : Int32, zvl M' (386) 3 = some (.int ng) ∧ (0 ≤ ng.toInt) ∧ (ng.toInt ≤ 3) ∧ (∃ ne : Int32, zvl M' (386) 5 = some (.int ne) ∧ (se.toInt ≤ ne.toInt) ∧ (ne.toInt ≤ sz.toInt) ∧ (4 * (sz.toInt - ne.toInt) + ng.toInt ≤ 4 * (sz.toInt - se.toInt) + sg.toInt) ∧ (∃ nk : Int32, zvl M' (386) 8 = some (.int nk) ∧ (fk.toInt ≤ nk.toInt) ∧ (nk.toInt ≤ 5) ∧ True)))))) := by
  have hJ0 : zJ N [(394, 395, 1000), (386, 387, 3), (386, 387, 4), (386, 387, 5), (386, 387, 6), (386, 387, 7), (386, 387, 8), (386, 387, 9)] M0 M0 := zJ_refl hB0
  refine ZV.of (ini := false) rfl (Nat.le_of_ble_eq_true rfl) (by decide +kernel) ?_
  have main : ∀ n : Nat,
      (∀ (M : zM) (v7_1 : Int32) (o7_2 : Option Value) (z_7 : Int32) (g_7 : Int32) (e_7 : Int32) (k_7 : Int32), zJ N [(394, 395, 1000), (386, 387, 3), (386, 387, 4), (386, 387, 5), (386, 387, 6), (386, 387, 7), (386, 387, 8), (386, 387, 9)] M0 M → ((0 : Int) ≤ v7_1.toInt) → (v7_1.toInt ≤ 23) → (zvl M (386) 2 = some (.int z_7)) → (z_7.toInt = sz.toInt) → (zvl M (386) 3 = some (.int g_7)) → (0 ≤ g_7.toInt) → (g_7.toInt ≤ 3) → (zvl M (386) 5 = some (.int e_7)) → (se.toInt ≤ e_7.toInt) → (e_7.toInt ≤ sz.toInt) → (4 * (sz.toInt - e_7.toInt) + g_7.toInt ≤ 4 * (sz.toInt - se.toInt) + sg.toInt) → (zvl M (386) 8 = some (.int k_7)) → (fk.toInt ≤ k_7.toInt) → (k_7.toInt ≤ 5) → 4 * (10 * (4 * (sz.toInt - e_7.toInt) + g_7.toInt) + 6 - k_7.toInt) + 2 < (n : Int) → ZW X (d + 2) 9 false none cX9_marking (zRV N [(394, 395, 1000), (386, 387, 3), (386, 387, 4), (386, 387, 5), (386, 387, 6), (386, 387, 7), (386, 387, 8), (386, 387, 9)] M0 (fun M' => (∃ nz : Int32, zvl M' (386) 2 = some (.int nz) ∧ (nz.toInt = sz.toInt) ∧ (∃ ng : Int32, zvl M' (386) 3 = some (.int ng) ∧ (0 ≤ ng.toInt) ∧ (ng.toInt ≤ 3) ∧ (∃ ne : Int32, zvl M' (386) 5 = some (.int ne) ∧ (se.toInt ≤ ne.toInt) ∧ (ne.toInt ≤ sz.toInt) ∧ (4 * (sz.toInt - ne.toInt) + ng.toInt ≤ 4 * (sz.toInt - se.toInt) + sg.toInt) ∧ (∃ nk : Int32, zvl M' (386) 8 = some (.int nk) ∧ (fk.toInt ≤ nk.toInt) ∧ (nk.toInt ≤ 5) ∧ True)))))) (7, [some (.ref 386), some (.int v7_1), o7_2], [], M)) ∧
      (∀ (M : zM) (v67_1 : Int32) (v67_2 : Int32) (z_67 : Int32) (g_67 : Int32) (e_67 : Int32) (k_67 : Int32), zJ N [(394, 395, 1000), (386, 387, 3), (386, 387, 4), (386, 387, 5), (386, 387, 6), (386, 387, 7), (386, 387, 8), (386, 387, 9)] M0 M → ((0 : Int) ≤ v67_1.toInt) → (v67_1.toInt ≤ 23) → ((0 : Int) ≤ v67_2.toInt) → (v67_2.toInt ≤ 2) → (zvl M (386) 2 = some (.int z_67)) → (z_67.toInt = sz.toInt) → (zvl M (386) 3 = some (.int g_67)) → (0 ≤ g_67.toInt) → (g_67.toInt ≤ 3) → (zvl M (386) 5 = some (.int e_67)) → (se.toInt ≤ e_67.toInt) → (e_67.toInt ≤ sz.toInt) → (4 * (sz.toInt - e_67.toInt) + g_67.toInt ≤ 4 * (sz.toInt - se.toInt) + sg.toInt) → (zvl M (386) 8 = some (.int k_67)) → (fk.toInt ≤ k_67.toInt) → (k_67.toInt ≤ 5) → (1 ≤ g_67.toInt) → (k_67.toInt = 0) → 4 * (10 * (4 * (sz.toInt - e_67.toInt) + g_67.toInt) + 6 - k_67.toInt) + 1 < (n : Int) → ZW X (d + 2) 9 false none cX9_marking (zRV N [(394, 395, 1000), (386, 387, 3), (386, 387, 4), (386, 387, 5), (386, 387, 6), (386, 387, 7), (386, 387, 8), (386, 387, 9)] M0 (fun M' => (∃ nz : Int32, zvl M' (386) 2 = some (.int nz) ∧ (nz.toInt = sz.toInt) ∧ (∃ ng : Int32, zvl M' (386) 3 = some (.int ng) ∧ (0 ≤ ng.toInt) ∧ (ng.toInt ≤ 3) ∧ (∃ ne : Int32, zvl M' (386) 5 = some (.int ne) ∧ (se.toInt ≤ ne.toInt) ∧ (ne.toInt ≤ sz.toInt) ∧ (4 * (sz.toInt - ne.toInt) + ng.toInt ≤ 4 * (sz.toInt - se.toInt) + sg.toInt) ∧ (∃ nk : Int32, zvl M' (386) 8 = some (.int nk) ∧ (fk.toInt ≤ nk.toInt) ∧ (nk.toInt ≤ 5) ∧ True)))))) (67, [some (.ref 386), some (.int v67_1), some (.int v67_2)], [], M)) := by
    intro n
    induction n with
    | zero =>
      exact ⟨(fun M v7_1 o7_2 z_7 g_7 e_7 k_7 hJ v7_10 v7_11 hfz_7 hrz_70 hfg_7 hrg_70 hrg_71 hfe_7 hre_70 hre_71 hre_72 hfk_7 hrk_70 hrk_71 hn => absurd hn (by omega)), (fun M v67_1 v67_2 z_67 g_67 e_67 k_67 hJ v67_10 v67_11 v67_20 v67_21 hfz_67 hrz_670 hfg_67 hrg_670 hrg_671 hfe_67 hre_670 hre_671 hre_672 hfk_67 hrk_670 hrk_671 hrk_672 hrk_673 hn => absurd hn (by omega))⟩
    | succ n ih =>
      obtain ⟨ih7, ih67⟩ := ih
      refine ⟨?_, ?_⟩
      · intro M v7_1 o7_2 z_7 g_7 e_7 k_7 hJ v7_10 v7_11 hfz_7 hrz_70 hfg_7 hrg_70 hrg_71 hfe_7 hre_70 hre_71 hre_72 hfk_7 hrk_70 hrk_71 hn
        refine w_lo dX9_marking_7 rfl rfl rfl rfl ?_
        refine w_gf dX9_marking_8 rfl hJ.1.1 zs_386 hfk_7 ?_
        rcases Int.decEq k_7.toInt (0 : Int) with h1 | h1
        · skip
          refine w_ine_t dX9_marking_11 (t := 100) rfl (by omega) ?_
          refine w_en dX9_marking_100 rfl ?_
          exact ⟨_, rfl, hJ, ⟨z_7, hfz_7, (by omega), g_7, hfg_7, (by omega), (by omega), e_7, hfe_7, (by omega), (by omega), (by omega), k_7, hfk_7, (by omega), (by omega), trivial⟩⟩
        · skip
          refine w_ine_f dX9_marking_11 (t := 100) rfl (by omega) ?_
          refine w_lo dX9_marking_14 rfl rfl rfl rfl ?_
          refine w_gf dX9_marking_15 rfl hJ.1.1 zs_386 hfg_7 ?_
          refine w_ic dX9_marking_18 zi_1 ?_
          rcases Int.decEq g_7.toInt (1 : Int) with h2 | h2
          · skip
            refine w_cne_t dX9_marking_19 (t := 100) rfl (by have := zt_1; omega) ?_
            refine w_en dX9_marking_100 rfl ?_
            exact ⟨_, rfl, hJ, ⟨z_7, hfz_7, (by omega), g_7, hfg_7, (by omega), (by omega), e_7, hfe_7, (by omega), (by omega), (by omega), k_7, hfk_7, (by omega), (by omega), trivial⟩⟩
          · skip
            refine w_cne_f dX9_marking_19 (t := 100) rfl (by have := zt_1; omega) ?_
            refine w_lo dX9_marking_22 rfl rfl rfl rfl ?_
            refine w_me (st' := [.long (126918153364851 : Int64), .ref 386]) dX9_marking_23 rfl rfl rfl rfl rfl ?_
            refine w_iv dX9_marking_26 rfl rfl (As := [.long (126918153364851 : Int64)]) rfl rfl hJ.1.1 zs_386 (Nat.le_of_ble_eq_true rfl) ?_
            refine ZV.of (ini := false) rfl (Nat.le_of_ble_eq_true rfl) (by decide +kernel) ?_
            show ZW _ _ _ _ _ _ _ (0, [some (.ref 386), some (.long (126918153364851 : Int64)), none], [], M)
            refine w_lo dX9_isWord_0 rfl rfl rfl rfl ?_
            refine w_gf dX9_isWord_1 rfl hJ.1.1 zs_386 hfg_7 ?_
            refine w_ic dX9_isWord_4 zi_1 ?_
            refine w_cne_f dX9_isWord_5 (t := 21) rfl (by have := zt_1; omega) ?_
            refine w_lo dX9_isWord_8 rfl rfl rfl rfl ?_
            refine w_gfl dX9_isWord_9 rfl hJ.1 zs_386 (Nat.le_of_ble_eq_true rfl) zo_386_7 ?_
            intro y6 f3 h4 h5
            refine w_lo dX9_isWord_12 rfl rfl rfl rfl ?_
            refine w_lcm dX9_isWord_13 ?_
            intro x7 h8
            have := ztl_126918153364851
            rcases Int.decEq x7.toInt (0 : Int) with h9 | h9
            · skip
              refine w_ine_t dX9_isWord_14 (t := 21) rfl (by omega) ?_
              refine w_ic dX9_isWord_21 zi_0 ?_
              refine w_en dX9_isWord_22 rfl ?_
              show ZW _ _ _ _ _ _ _ (29, [some (.ref 386), some (.int v7_1), o7_2], [.int 0], M)
              refine w_ieq_t dX9_marking_29 (t := 36) rfl (by have := zt_0; omega) ?_
              refine w_lo dX9_marking_36 rfl rfl rfl rfl ?_
              refine w_me (st' := [.long (444133766004 : Int64), .ref 386]) dX9_marking_37 rfl rfl rfl rfl rfl ?_
              refine w_iv dX9_marking_40 rfl rfl (As := [.long (444133766004 : Int64)]) rfl rfl hJ.1.1 zs_386 (Nat.le_of_ble_eq_true rfl) ?_
              refine ZV.of (ini := false) rfl (Nat.le_of_ble_eq_true rfl) (by decide +kernel) ?_
              show ZW _ _ _ _ _ _ _ (0, [some (.ref 386), some (.long (444133766004 : Int64)), none], [], M)
              refine w_lo dX9_isWord_0 rfl rfl rfl rfl ?_
              refine w_gf dX9_isWord_1 rfl hJ.1.1 zs_386 hfg_7 ?_
              refine w_ic dX9_isWord_4 zi_1 ?_
              refine w_cne_f dX9_isWord_5 (t := 21) rfl (by have := zt_1; omega) ?_
              refine w_lo dX9_isWord_8 rfl rfl rfl rfl ?_
              refine w_gf dX9_isWord_9 rfl hJ.1.1 zs_386 f3 ?_
              refine w_lo dX9_isWord_12 rfl rfl rfl rfl ?_
              refine w_lcm dX9_isWord_13 ?_
              intro x10 h11
              have := ztl_444133766004
              rcases Int.decEq x10.toInt (0 : Int) with h12 | h12
              · skip
                refine w_ine_t dX9_isWord_14 (t := 21) rfl (by omega) ?_
                refine w_ic dX9_isWord_21 zi_0 ?_
                refine w_en dX9_isWord_22 rfl ?_
                show ZW _ _ _ _ _ _ _ (43, [some (.ref 386), some (.int v7_1), o7_2], [.int 0], M)
                refine w_ieq_t dX9_marking_43 (t := 50) rfl (by have := zt_0; omega) ?_
                refine w_ic dX9_marking_50 zi_0 ?_
                refine w_lo (ml' := [some (.ref 386), some (.int v7_1), some (.int 0)]) dX9_marking_51 rfl rfl rfl rfl ?_
                refine w_lo dX9_marking_52 rfl rfl rfl rfl ?_
                refine w_ieq_t dX9_marking_53 (t := 67) rfl (by have := zt_0; omega) ?_
                exact ih67 M v7_1 0 z_7 g_7 e_7 k_7 hJ (by omega) (by omega) (by have := zt_0; omega) (by have := zt_0; omega) hfz_7 (by have := zt_0; omega) hfg_7 (by have := zt_0; omega) (by have := zt_0; omega) hfe_7 (by have := zt_0; omega) (by have := zt_0; omega) (by have := zt_0; omega) hfk_7 (by have := zt_0; omega) (by have := zt_0; omega) (by have := zt_0; omega) (by have := zt_0; omega) (by have := zt_0; have := ztop v7_1; have := zbot v7_1; omega)
              · skip
                refine w_ine_f dX9_isWord_14 (t := 21) rfl (by omega) ?_
                refine w_ic dX9_isWord_17 zi_1 ?_
                refine w_gt dX9_isWord_18 (t := 22) rfl ?_
                refine w_en dX9_isWord_22 rfl ?_
                show ZW _ _ _ _ _ _ _ (43, [some (.ref 386), some (.int v7_1), o7_2], [.int 1], M)
                refine w_ieq_f dX9_marking_43 (t := 50) rfl (by have := zt_1; omega) ?_
                refine w_ic dX9_marking_46 zi_2 ?_
                refine w_gt dX9_marking_47 (t := 51) rfl ?_
                refine w_lo (ml' := [some (.ref 386), some (.int v7_1), some (.int 2)]) dX9_marking_51 rfl rfl rfl rfl ?_
                refine w_lo dX9_marking_52 rfl rfl rfl rfl ?_
                refine w_ieq_f dX9_marking_53 (t := 67) rfl (by have := zt_2; omega) ?_
                refine w_lo dX9_marking_56 rfl rfl rfl rfl ?_
                refine w_gf dX9_marking_57 rfl hJ.1.1 zs_386 (zr_386_19 hJ.1) ?_
                refine w_lo dX9_marking_60 rfl rfl rfl rfl ?_
                refine w_iai dX9_marking_61 hJ.1 zs_394 (by omega) (by omega) zu_394 ?_
                intro x16 f13 h14 h15
                refine w_lo dX9_marking_62 rfl rfl rfl rfl ?_
                refine w_and dX9_marking_63 (m := 2) zt_2 (by omega) ?_
                intro x17 h18 h19
                rcases Int.decEq x17.toInt (0 : Int) with h20 | h20
                · skip
                  refine w_ieq_f dX9_marking_64 (t := 76) rfl (by omega) ?_
                  exact ih67 M v7_1 2 z_7 g_7 e_7 k_7 hJ (by omega) (by omega) (by have := zt_2; omega) (by have := zt_2; omega) hfz_7 (by have := zt_2; omega) hfg_7 (by have := zt_2; omega) (by have := zt_2; omega) hfe_7 (by have := zt_2; omega) (by have := zt_2; omega) (by have := zt_2; omega) hfk_7 (by have := zt_2; omega) (by have := zt_2; omega) (by have := zt_2; omega) (by have := zt_2; omega) (by have := zt_2; have := ztop v7_1; have := zbot v7_1; omega)
                · skip
                  refine w_ieq_t dX9_marking_64 (t := 76) rfl (by omega) ?_
                  refine w_lo dX9_marking_76 rfl rfl rfl rfl ?_
                  refine w_gf dX9_marking_77 rfl hJ.1.1 zs_386 (zr_386_19 hJ.1) ?_
                  refine w_lo dX9_marking_80 rfl rfl rfl rfl ?_
                  refine w_pu dX9_marking_81 rfl rfl ?_
                  refine w_ia dX9_marking_82 hJ.1.1 zs_394 (znat (by omega)) f13 ?_
                  refine w_lo dX9_marking_83 rfl rfl rfl rfl ?_
                  refine w_or dX9_marking_84 (m := 2) (by decide) (by omega) (by omega) (by have := zt_2; omega) (by have := zt_2; omega) ?_
                  intro x24 h25 h26
                  have : (2 : Int) ^ 2 = 4 := by decide
                  refine w_isi dX9_marking_85 hJ zs_394 (by omega) (by omega) zu_394 (by omega) (by omega) (zIR_a (by omega) (by omega)) ?_
                  intro M27 hJ28 f29 hn30
                  refine w_lo dX9_marking_86 rfl rfl rfl rfl ?_
                  have f31 := (hn30 (386) 8 (Or.inl (by omega))).trans (hfk_7)
                  refine w_gf dX9_marking_87 rfl hJ28.1.1 zs_386 f31 ?_
                  refine w_ine_f dX9_marking_90 (t := 97) rfl (by omega) ?_
                  refine w_lo dX9_marking_93 rfl rfl rfl rfl ?_
                  have f34 := (hn30 (386) 2 (Or.inl (by omega))).trans (hfz_7)
                  have f35 := (hn30 (386) 3 (Or.inl (by omega))).trans (hfg_7)
                  have f36 := (hn30 (386) 5 (Or.inl (by omega))).trans (hfe_7)
                  refine w_iv dX9_marking_94 rfl rfl (As := []) rfl rfl hJ28.1.1 zs_386 (Nat.le_of_ble_eq_true rfl) ?_
                  refine ZV.imp (k_2310 z_7 f34 (by omega) (by omega) g_7 f35 (by omega) (by omega) e_7 f36 (by omega) (by omega) k_7 f31 (by omega) (by omega) hN hJ28.1) ?_
                  rintro _ ⟨M32, rfl, hJ33, hq37⟩
                  have hJ38 := zJ_trans hJ28 hJ33 (zSub_cons (fun _ _ h h' hk => zIR_s (zIR_e (by omega) (by omega) hk)) (zSub_cons (fun _ _ h h' hk => zIR_s (zIR_s (zIR_e (by omega) (by omega) hk))) (zSub_cons (fun _ _ h h' hk => zIR_s (zIR_s (zIR_s (zIR_e (by omega) (by omega) hk)))) (zSub_cons (fun _ _ h h' hk => zIR_s (zIR_s (zIR_s (zIR_s (zIR_e (by omega) (by omega) hk))))) (zSub_cons (fun _ _ h h' hk => zIR_s (zIR_s (zIR_s (zIR_s (zIR_s (zIR_e (by omega) (by omega) hk)))))) (zSub_cons (fun _ _ h h' hk => zIR_s (zIR_s (zIR_s (zIR_s (zIR_s (zIR_s (zIR_e (by omega) (by omega) hk))))))) (zSub_cons (fun _ _ h h' hk => zIR_s (zIR_s (zIR_s (zIR_s (zIR_s (zIR_s (zIR_s (zIR_e (by omega) (by omega) hk)))))))) zSub_nil)))))))
                  obtain ⟨x39, f40, h41, x42, f43, h44, h45, x46, f47, h48, h49, x50, f51, h52, h53, h54, x55, f56, h57, h58, -⟩ := hq37
                  show ZW _ _ _ _ _ _ _ (97, [some (.ref 386), some (.int v7_1), some (.int 2)], [], M32)
                  refine w_gt dX9_marking_97 (t := 7) rfl ?_
                  exact ih7 M32 v7_1 (some (.int 2)) x39 x42 x50 x55 hJ38 (by omega) (by omega) f40 (by have := zt_2; omega) f43 (by have := zt_2; omega) (by have := zt_2; omega) f51 (by have := zt_2; omega) (by have := zt_2; omega) (by have := zt_2; omega) f56 (by have := zt_2; omega) (by have := zt_2; omega) (by have := zt_2; have := ztop v7_1; have := zbot v7_1; omega)
            · skip
              refine w_ine_f dX9_isWord_14 (t := 21) rfl (by omega) ?_
              refine w_ic dX9_isWord_17 zi_1 ?_
              refine w_gt dX9_isWord_18 (t := 22) rfl ?_
              refine w_en dX9_isWord_22 rfl ?_
              show ZW _ _ _ _ _ _ _ (29, [some (.ref 386), some (.int v7_1), o7_2], [.int 1], M)
              refine w_ieq_f dX9_marking_29 (t := 36) rfl (by have := zt_1; omega) ?_
              refine w_ic dX9_marking_32 zi_1 ?_
              refine w_gt dX9_marking_33 (t := 51) rfl ?_
              refine w_lo (ml' := [some (.ref 386), some (.int v7_1), some (.int 1)]) dX9_marking_51 rfl rfl rfl rfl ?_
              refine w_lo dX9_marking_52 rfl rfl rfl rfl ?_
              refine w_ieq_f dX9_marking_53 (t := 67) rfl (by have := zt_1; omega) ?_
              refine w_lo dX9_marking_56 rfl rfl rfl rfl ?_
              refine w_gf dX9_marking_57 rfl hJ.1.1 zs_386 (zr_386_19 hJ.1) ?_
              refine w_lo dX9_marking_60 rfl rfl rfl rfl ?_
              refine w_iai dX9_marking_61 hJ.1 zs_394 (by omega) (by omega) zu_394 ?_
              intro x62 f59 h60 h61
              refine w_lo dX9_marking_62 rfl rfl rfl rfl ?_
              refine w_and dX9_marking_63 (m := 1) zt_1 (by omega) ?_
              intro x63 h64 h65
              rcases Int.decEq x63.toInt (0 : Int) with h66 | h66
              · skip
                refine w_ieq_f dX9_marking_64 (t := 76) rfl (by omega) ?_
                exact ih67 M v7_1 1 z_7 g_7 e_7 k_7 hJ (by omega) (by omega) (by have := zt_1; omega) (by have := zt_1; omega) hfz_7 (by have := zt_1; omega) hfg_7 (by have := zt_1; omega) (by have := zt_1; omega) hfe_7 (by have := zt_1; omega) (by have := zt_1; omega) (by have := zt_1; omega) hfk_7 (by have := zt_1; omega) (by have := zt_1; omega) (by have := zt_1; omega) (by have := zt_1; omega) (by have := zt_1; have := ztop v7_1; have := zbot v7_1; omega)
              · skip
                refine w_ieq_t dX9_marking_64 (t := 76) rfl (by omega) ?_
                refine w_lo dX9_marking_76 rfl rfl rfl rfl ?_
                refine w_gf dX9_marking_77 rfl hJ.1.1 zs_386 (zr_386_19 hJ.1) ?_
                refine w_lo dX9_marking_80 rfl rfl rfl rfl ?_
                refine w_pu dX9_marking_81 rfl rfl ?_
                refine w_ia dX9_marking_82 hJ.1.1 zs_394 (znat (by omega)) f59 ?_
                refine w_lo dX9_marking_83 rfl rfl rfl rfl ?_
                refine w_or dX9_marking_84 (m := 2) (by decide) (by omega) (by omega) (by have := zt_1; omega) (by have := zt_1; omega) ?_
                intro x70 h71 h72
                have : (2 : Int) ^ 2 = 4 := by decide
                refine w_isi dX9_marking_85 hJ zs_394 (by omega) (by omega) zu_394 (by omega) (by omega) (zIR_a (by omega) (by omega)) ?_
                intro M73 hJ74 f75 hn76
                refine w_lo dX9_marking_86 rfl rfl rfl rfl ?_
                have f77 := (hn76 (386) 8 (Or.inl (by omega))).trans (hfk_7)
                refine w_gf dX9_marking_87 rfl hJ74.1.1 zs_386 f77 ?_
                refine w_ine_f dX9_marking_90 (t := 97) rfl (by omega) ?_
                refine w_lo dX9_marking_93 rfl rfl rfl rfl ?_
                have f80 := (hn76 (386) 2 (Or.inl (by omega))).trans (hfz_7)
                have f81 := (hn76 (386) 3 (Or.inl (by omega))).trans (hfg_7)
                have f82 := (hn76 (386) 5 (Or.inl (by omega))).trans (hfe_7)
                refine w_iv dX9_marking_94 rfl rfl (As := []) rfl rfl hJ74.1.1 zs_386 (Nat.le_of_ble_eq_true rfl) ?_
                refine ZV.imp (k_2310 z_7 f80 (by omega) (by omega) g_7 f81 (by omega) (by omega) e_7 f82 (by omega) (by omega) k_7 f77 (by omega) (by omega) hN hJ74.1) ?_
                rintro _ ⟨M78, rfl, hJ79, hq83⟩
                have hJ84 := zJ_trans hJ74 hJ79 (zSub_cons (fun _ _ h h' hk => zIR_s (zIR_e (by omega) (by omega) hk)) (zSub_cons (fun _ _ h h' hk => zIR_s (zIR_s (zIR_e (by omega) (by omega) hk))) (zSub_cons (fun _ _ h h' hk => zIR_s (zIR_s (zIR_s (zIR_e (by omega) (by omega) hk)))) (zSub_cons (fun _ _ h h' hk => zIR_s (zIR_s (zIR_s (zIR_s (zIR_e (by omega) (by omega) hk))))) (zSub_cons (fun _ _ h h' hk => zIR_s (zIR_s (zIR_s (zIR_s (zIR_s (zIR_e (by omega) (by omega) hk)))))) (zSub_cons (fun _ _ h h' hk => zIR_s (zIR_s (zIR_s (zIR_s (zIR_s (zIR_s (zIR_e (by omega) (by omega) hk))))))) (zSub_cons (fun _ _ h h' hk => zIR_s (zIR_s (zIR_s (zIR_s (zIR_s (zIR_s (zIR_s (zIR_e (by omega) (by omega) hk)))))))) zSub_nil)))))))
                obtain ⟨x85, f86, h87, x88, f89, h90, h91, x92, f93, h94, h95, x96, f97, h98, h99, h100, x101, f102, h103, h104, -⟩ := hq83
                show ZW _ _ _ _ _ _ _ (97, [some (.ref 386), some (.int v7_1), some (.int 1)], [], M78)
                refine w_gt dX9_marking_97 (t := 7) rfl ?_
                exact ih7 M78 v7_1 (some (.int 1)) x85 x88 x96 x101 hJ84 (by omega) (by omega) f86 (by have := zt_1; omega) f89 (by have := zt_1; omega) (by have := zt_1; omega) f97 (by have := zt_1; omega) (by have := zt_1; omega) (by have := zt_1; omega) f102 (by have := zt_1; omega) (by have := zt_1; omega) (by have := zt_1; have := ztop v7_1; have := zbot v7_1; omega)
      · intro M v67_1 v67_2 z_67 g_67 e_67 k_67 hJ v67_10 v67_11 v67_20 v67_21 hfz_67 hrz_670 hfg_67 hrg_670 hrg_671 hfe_67 hre_670 hre_671 hre_672 hfk_67 hrk_670 hrk_671 hrk_672 hrk_673 hn
        refine w_lo dX9_marking_67 rfl rfl rfl rfl ?_
        refine w_ic dX9_marking_68 zi_1 ?_
        refine w_lo dX9_marking_69 rfl rfl rfl rfl ?_
        refine w_gfi dX9_marking_70 rfl hJ.1 zs_386 (Nat.le_of_ble_eq_true rfl) zo_386_4 ?_
        intro x105 f106 h107 h108
        refine w_iv dX9_marking_73 rfl rfl (As := [.int 1, .int x105]) rfl rfl hJ.1.1 zs_386 (Nat.le_of_ble_eq_true rfl) ?_
        refine ZV.of (ini := false) rfl (Nat.le_of_ble_eq_true rfl) (by decide +kernel) ?_
        show ZW _ _ _ _ _ _ _ (0, [some (.ref 386), some (.int 1), some (.int x105)], [], M)
        refine w_lo dX9_blame_0 rfl rfl rfl rfl ?_
        refine w_gf dX9_blame_1 rfl hJ.1.1 zs_386 hfk_67 ?_
        rcases zcut (0 : Int) k_67.toInt with h109 | h109
        · skip
          refine w_ile_f dX9_blame_4 (t := 8) rfl (by omega) ?_
          refine w_en dX9_blame_7 rfl ?_
          show ZW _ _ _ _ _ _ _ (76, [some (.ref 386), some (.int v67_1), some (.int v67_2)], [], M)
          refine w_lo dX9_marking_76 rfl rfl rfl rfl ?_
          refine w_gf dX9_marking_77 rfl hJ.1.1 zs_386 (zr_386_19 hJ.1) ?_
          refine w_lo dX9_marking_80 rfl rfl rfl rfl ?_
          refine w_pu dX9_marking_81 rfl rfl ?_
          refine w_iai dX9_marking_82 hJ.1 zs_394 (by omega) (by omega) zu_394 ?_
          intro x113 f110 h111 h112
          refine w_lo dX9_marking_83 rfl rfl rfl rfl ?_
          refine w_or dX9_marking_84 (m := 2) (by decide) (by omega) (by omega) (by omega) (by omega) ?_
          intro x114 h115 h116
          have : (2 : Int) ^ 2 = 4 := by decide
          refine w_isi dX9_marking_85 hJ zs_394 (by omega) (by omega) zu_394 (by omega) (by omega) (zIR_a (by omega) (by omega)) ?_
          intro M117 hJ118 f119 hn120
          refine w_lo dX9_marking_86 rfl rfl rfl rfl ?_
          have f121 := (hn120 (386) 8 (Or.inl (by omega))).trans (hfk_67)
          refine w_gf dX9_marking_87 rfl hJ118.1.1 zs_386 f121 ?_
          refine w_ine_t dX9_marking_90 (t := 97) rfl (by omega) ?_
          refine w_gt dX9_marking_97 (t := 7) rfl ?_
          have f122 := (hn120 (386) 2 (Or.inl (by omega))).trans (hfz_67)
          have f123 := (hn120 (386) 3 (Or.inl (by omega))).trans (hfg_67)
          have f124 := (hn120 (386) 5 (Or.inl (by omega))).trans (hfe_67)
          exact ih7 M117 v67_1 (some (.int v67_2)) z_67 g_67 e_67 k_67 hJ118 (by omega) (by omega) f122 (by omega) f123 (by omega) (by omega) f124 (by omega) (by omega) (by omega) f121 (by omega) (by omega) (by have := ztop v67_1; have := zbot v67_1; have := ztop v67_2; have := zbot v67_2; omega)
        · skip
          refine w_ile_t dX9_blame_4 (t := 8) rfl (by omega) ?_
          refine w_lo dX9_blame_8 rfl rfl rfl rfl ?_
          refine w_lo dX9_blame_9 rfl rfl rfl rfl ?_
          refine w_pfi dX9_blame_10 rfl hJ zs_386 (Nat.le_of_ble_eq_true rfl) zo_386_8 (by have := zt_1; omega) (by have := zt_1; omega) (zIR_s (zIR_s (zIR_s (zIR_s (zIR_s (zIR_s (zIR_k (by omega) (by omega)))))))) rfl rfl rfl ?_
          intro M125 hJ126 f127 hn128
          refine w_lo dX9_blame_13 rfl rfl rfl rfl ?_
          refine w_lo dX9_blame_14 rfl rfl rfl rfl ?_
          refine w_pfi dX9_blame_15 rfl hJ126 zs_386 (Nat.le_of_ble_eq_true rfl) zo_386_9 (by omega) (by omega) (zIR_s (zIR_s (zIR_s (zIR_s (zIR_s (zIR_s (zIR_s (zIR_k (by omega) (by omega))))))))) rfl rfl rfl ?_
          intro M129 hJ130 f131 hn132
          refine w_en dX9_blame_18 rfl ?_
          show ZW _ _ _ _ _ _ _ (76, [some (.ref 386), some (.int v67_1), some (.int v67_2)], [], M129)
          refine w_lo dX9_marking_76 rfl rfl rfl rfl ?_
          refine w_gf dX9_marking_77 rfl hJ130.1.1 zs_386 (zr_386_19 hJ130.1) ?_
          refine w_lo dX9_marking_80 rfl rfl rfl rfl ?_
          refine w_pu dX9_marking_81 rfl rfl ?_
          refine w_iai dX9_marking_82 hJ130.1 zs_394 (by omega) (by omega) zu_394 ?_
          intro x136 f133 h134 h135
          refine w_lo dX9_marking_83 rfl rfl rfl rfl ?_
          refine w_or dX9_marking_84 (m := 2) (by decide) (by omega) (by omega) (by omega) (by omega) ?_
          intro x137 h138 h139
          have : (2 : Int) ^ 2 = 4 := by decide
          refine w_isi dX9_marking_85 hJ130 zs_394 (by omega) (by omega) zu_394 (by omega) (by omega) (zIR_a (by omega) (by omega)) ?_
          intro M140 hJ141 f142 hn143
          refine w_lo dX9_marking_86 rfl rfl rfl rfl ?_
          have f144 := (hn143 (386) 8 (Or.inl (by omega))).trans ((hn132 (386) 8 (Or.inr (by decide))).trans (f127))
          refine w_gf dX9_marking_87 rfl hJ141.1.1 zs_386 f144 ?_
          refine w_ine_t dX9_marking_90 (t := 97) rfl (by have := zt_1; omega) ?_
          refine w_gt dX9_marking_97 (t := 7) rfl ?_
          have f145 := (hn143 (386) 2 (Or.inl (by omega))).trans ((hn132 (386) 2 (Or.inr (by decide))).trans ((hn128 (386) 2 (Or.inr (by decide))).trans (hfz_67)))
          have f146 := (hn143 (386) 3 (Or.inl (by omega))).trans ((hn132 (386) 3 (Or.inr (by decide))).trans ((hn128 (386) 3 (Or.inr (by decide))).trans (hfg_67)))
          have f147 := (hn143 (386) 5 (Or.inl (by omega))).trans ((hn132 (386) 5 (Or.inr (by decide))).trans ((hn128 (386) 5 (Or.inr (by decide))).trans (hfe_67)))
          exact ih7 M140 v67_1 (some (.int v67_2)) z_67 g_67 e_67 1 hJ141 (by omega) (by omega) f145 (by have := zt_1; omega) f146 (by have := zt_1; omega) (by have := zt_1; omega) f147 (by have := zt_1; omega) (by have := zt_1; omega) (by have := zt_1; omega) f144 (by have := zt_1; omega) (by have := zt_1; omega) (by have := zt_1; have := ztop v67_1; have := zbot v67_1; have := ztop v67_2; have := zbot v67_2; omega)
  obtain ⟨ih7, ih67⟩ := main 256415
  show ZW _ _ _ _ _ _ _ (0, [some (.ref 386), some (.int a0), none], [], M0)
  refine w_lo dX9_marking_0 rfl rfl rfl rfl ?_
  refine w_gf dX9_marking_1 rfl hJ0.1.1 zs_386 (zr_386_19 hJ0.1) ?_
  refine w_lo dX9_marking_4 rfl rfl rfl rfl ?_
  refine w_ic dX9_marking_5 zi_0 ?_
  refine w_isi dX9_marking_6 hJ0 zs_394 (by omega) (by omega) zu_394 (by have := zt_0; omega) (by have := zt_0; omega) (zIR_a (by omega) (by omega)) ?_
  intro M148 hJ149 f150 hn151
  have f152 := (hn151 (386) 2 (Or.inl (by omega))).trans (hfsz)
  have f153 := (hn151 (386) 3 (Or.inl (by omega))).trans (hfsg)
  have f154 := (hn151 (386) 5 (Or.inl (by omega))).trans (hfse)
  have f155 := (hn151 (386) 8 (Or.inl (by omega))).trans (hffk)
  exact ih7 M148 a0 none sz sg se fk hJ149 (by omega) (by omega) f152 (by omega) f153 (by omega) (by omega) f154 (by omega) (by omega) (by omega) f155 (by omega) (by omega) (by have := ztop a0; have := zbot a0; omega)
set_option maxHeartbeats 20000000 in
set_option maxRecDepth 100000 in
theorem k_2316 {X : List Int32} {d N : Nat} {M0 : zM} (sz : Int32) (hfsz : zvl M0 (386) 2 = some (.int sz)) (hrsz0 : 0 ≤ sz.toInt) (hrsz1 : sz.toInt ≤ 1600) (sg : Int32) (hfsg : zvl M0 (386) 3 = some (.int sg)) (hrsg0 : 0 ≤ sg.toInt) (hrsg1 : sg.toInt ≤ 3) (se : Int32) (hfse : zvl M0 (386) 5 = some (.int se)) (hrse0 : 0 ≤ se.toInt) (hrse1 : se.toInt ≤ sz.toInt) (fk : Int32) (hffk : zvl M0 (386) 8 = some (.int fk)) (hrfk0 : 0 ≤ fk.toInt) (hrfk1 : fk.toInt ≤ 5) (hN : N ≤ 600) (hB0 : zB N M0) : ZV X (d + 4) 2316 [.ref 386] M0 (zRV N [(388, 395, 1000), (386, 387, 3), (386, 387, 4), (386, 387, 5), (386, 387, 6), (386, 387, 7), (386, 387, 8), (386, 387, 9)] M0 (fun M' => (∃ nz : Int32, zvl M' (386) 2 = some (.int nz) ∧ (nz.toInt = sz.toInt) ∧ (∃ ng : Int32, zvl M' (386) 3 = some (.int ng) ∧ (0 ≤ ng.toInt) ∧ (ng.toInt ≤ 3) ∧ (∃ ne : Int32, zvl M' (386) 5 = some (.int ne) ∧ (se.toInt ≤ ne.toInt) ∧ (ne.toInt ≤ sz.toInt) ∧ (4 * (sz.toInt - ne.toInt) + ng.toInt ≤ 4 * (sz.toInt - se.toInt) + sg.toInt) ∧ (∃ nk : Int32, zvl M' (386) 8 = some (.int nk) ∧ (fk.toInt ≤ nk.toInt) ∧ (nk.toInt ≤ 5) ∧ (1 ≤ nk.toInt ∨ sg.toInt = 0 ∨ 4 * (sz.toInt - ne.toInt) + ng.toInt + 1 ≤ 4 * (sz.toInt - se.toInt) + sg.toInt) ∧ True)))))) := by
  have hJ0 : zJ N [(388, 395, 1000), (386, 387, 3), (386, 387, 4), (386, 387, 5), (386, 387, 6), (386, 387, 7), (386, 387, 8), (386, 387, 9)] M0 M0 := zJ_refl hB0
  refine ZV.of (ini := false) rfl (Nat.le_of_ble_eq_true rfl) (by decide +kernel) ?_
  have main : ∀ n : Nat,
      (∀ (M : zM) (v55_1 : Int32) (z_55 : Int32) (g_55 : Int32) (e_55 : Int32) (k_55 : Int32) (i_55 : Int32) (b_55 : Int32), zJ N [(388, 395, 1000), (386, 387, 3), (386, 387, 4), (386, 387, 5), (386, 387, 6), (386, 387, 7), (386, 387, 8), (386, 387, 9)] M0 M → ((0 : Int) ≤ v55_1.toInt) → (v55_1.toInt ≤ 23) → (zvl M (386) 2 = some (.int z_55)) → (z_55.toInt = sz.toInt) → (zvl M (386) 3 = some (.int g_55)) → (0 ≤ g_55.toInt) → (g_55.toInt ≤ 3) → (zvl M (386) 5 = some (.int e_55)) → (se.toInt ≤ e_55.toInt) → (e_55.toInt ≤ sz.toInt) → (4 * (sz.toInt - e_55.toInt) + g_55.toInt ≤ 4 * (sz.toInt - se.toInt) + sg.toInt) → (zvl M (386) 8 = some (.int k_55)) → (fk.toInt ≤ k_55.toInt) → (k_55.toInt ≤ 5) → (1 ≤ k_55.toInt ∨ sg.toInt = 0 ∨ 4 * (sz.toInt - e_55.toInt) + g_55.toInt + 1 ≤ 4 * (sz.toInt - se.toInt) + sg.toInt) → (zvl M (386) 35 = some (.int i_55)) → (0 ≤ i_55.toInt) → (i_55.toInt ≤ 1) → (zvl M (388) (i_55 : Int32).toInt.toNat = some (.int b_55)) → (0 ≤ b_55.toInt) → (b_55.toInt ≤ 11) → 5 < (n : Int) → ZW X (d + 3) 9 false none cX9_boying (zRV N [(388, 395, 1000), (386, 387, 3), (386, 387, 4), (386, 387, 5), (386, 387, 6), (386, 387, 7), (386, 387, 8), (386, 387, 9)] M0 (fun M' => (∃ nz : Int32, zvl M' (386) 2 = some (.int nz) ∧ (nz.toInt = sz.toInt) ∧ (∃ ng : Int32, zvl M' (386) 3 = some (.int ng) ∧ (0 ≤ ng.toInt) ∧ (ng.toInt ≤ 3) ∧ (∃ ne : Int32, zvl M' (386) 5 = some (.int ne) ∧ (se.toInt ≤ ne.toInt) ∧ (ne.toInt ≤ sz.toInt) ∧ (4 * (sz.toInt - ne.toInt) + ng.toInt ≤ 4 * (sz.toInt - se.toInt) + sg.toInt) ∧ (∃ nk : Int32, zvl M' (386) 8 = some (.int nk) ∧ (fk.toInt ≤ nk.toInt) ∧ (nk.toInt ≤ 5) ∧ (1 ≤ nk.toInt ∨ sg.toInt = 0 ∨ 4 * (sz.toInt - ne.toInt) + ng.toInt + 1 ≤ 4 * (sz.toInt - se.toInt) + sg.toInt) ∧ True)))))) (55, [some (.ref 386), some (.int v55_1)], [], M)) ∧
      (∀ (M : zM) (v75_1 : Int32) (z_75 : Int32) (g_75 : Int32) (e_75 : Int32) (k_75 : Int32) (i_75 : Int32) (b_75 : Int32), zJ N [(388, 395, 1000), (386, 387, 3), (386, 387, 4), (386, 387, 5), (386, 387, 6), (386, 387, 7), (386, 387, 8), (386, 387, 9)] M0 M → ((0 : Int) ≤ v75_1.toInt) → (v75_1.toInt ≤ 23) → (zvl M (386) 2 = some (.int z_75)) → (z_75.toInt = sz.toInt) → (zvl M (386) 3 = some (.int g_75)) → (0 ≤ g_75.toInt) → (g_75.toInt ≤ 3) → (zvl M (386) 5 = some (.int e_75)) → (se.toInt ≤ e_75.toInt) → (e_75.toInt ≤ sz.toInt) → (4 * (sz.toInt - e_75.toInt) + g_75.toInt ≤ 4 * (sz.toInt - se.toInt) + sg.toInt) → (zvl M (386) 8 = some (.int k_75)) → (fk.toInt ≤ k_75.toInt) → (k_75.toInt ≤ 5) → (1 ≤ k_75.toInt ∨ sg.toInt = 0 ∨ 4 * (sz.toInt - e_75.toInt) + g_75.toInt + 1 ≤ 4 * (sz.toInt - se.toInt) + sg.toInt) → (zvl M (386) 35 = some (.int i_75)) → (0 ≤ i_75.toInt) → (i_75.toInt ≤ 1) → (zvl M (388) (i_75 : Int32).toInt.toNat = some (.int b_75)) → (0 ≤ b_75.toInt) → (b_75.toInt ≤ 11) → 4 < (n : Int) → ZW X (d + 3) 9 false none cX9_boying (zRV N [(388, 395, 1000), (386, 387, 3), (386, 387, 4), (386, 387, 5), (386, 387, 6), (386, 387, 7), (386, 387, 8), (386, 387, 9)] M0 (fun M' => (∃ nz : Int32, zvl M' (386) 2 = some (.int nz) ∧ (nz.toInt = sz.toInt) ∧ (∃ ng : Int32, zvl M' (386) 3 = some (.int ng) ∧ (0 ≤ ng.toInt) ∧ (ng.toInt ≤ 3) ∧ (∃ ne : Int32, zvl M' (386) 5 = some (.int ne) ∧ (se.toInt ≤ ne.toInt) ∧ (ne.toInt ≤ sz.toInt) ∧ (4 * (sz.toInt - ne.toInt) + ng.toInt ≤ 4 * (sz.toInt - se.toInt) + sg.toInt) ∧ (∃ nk : Int32, zvl M' (386) 8 = some (.int nk) ∧ (fk.toInt ≤ nk.toInt) ∧ (nk.toInt ≤ 5) ∧ (1 ≤ nk.toInt ∨ sg.toInt = 0 ∨ 4 * (sz.toInt - ne.toInt) + ng.toInt + 1 ≤ 4 * (sz.toInt - se.toInt) + sg.toInt) ∧ True)))))) (75, [some (.ref 386), some (.int v75_1)], [], M)) ∧
      (∀ (M : zM) (v96_1 : Int32) (z_96 : Int32) (g_96 : Int32) (e_96 : Int32) (k_96 : Int32) (i_96 : Int32) (b_96 : Int32), zJ N [(388, 395, 1000), (386, 387, 3), (386, 387, 4), (386, 387, 5), (386, 387, 6), (386, 387, 7), (386, 387, 8), (386, 387, 9)] M0 M → ((0 : Int) ≤ v96_1.toInt) → (v96_1.toInt ≤ 23) → (zvl M (386) 2 = some (.int z_96)) → (z_96.toInt = sz.toInt) → (zvl M (386) 3 = some (.int g_96)) → (0 ≤ g_96.toInt) → (g_96.toInt ≤ 3) → (zvl M (386) 5 = some (.int e_96)) → (se.toInt ≤ e_96.toInt) → (e_96.toInt ≤ sz.toInt) → (4 * (sz.toInt - e_96.toInt) + g_96.toInt ≤ 4 * (sz.toInt - se.toInt) + sg.toInt) → (zvl M (386) 8 = some (.int k_96)) → (fk.toInt ≤ k_96.toInt) → (k_96.toInt ≤ 5) → (1 ≤ k_96.toInt ∨ sg.toInt = 0 ∨ 4 * (sz.toInt - e_96.toInt) + g_96.toInt + 1 ≤ 4 * (sz.toInt - se.toInt) + sg.toInt) → (zvl M (386) 35 = some (.int i_96)) → (0 ≤ i_96.toInt) → (i_96.toInt ≤ 1) → (zvl M (388) (i_96 : Int32).toInt.toNat = some (.int b_96)) → (0 ≤ b_96.toInt) → (b_96.toInt ≤ 11) → 3 < (n : Int) → ZW X (d + 3) 9 false none cX9_boying (zRV N [(388, 395, 1000), (386, 387, 3), (386, 387, 4), (386, 387, 5), (386, 387, 6), (386, 387, 7), (386, 387, 8), (386, 387, 9)] M0 (fun M' => (∃ nz : Int32, zvl M' (386) 2 = some (.int nz) ∧ (nz.toInt = sz.toInt) ∧ (∃ ng : Int32, zvl M' (386) 3 = some (.int ng) ∧ (0 ≤ ng.toInt) ∧ (ng.toInt ≤ 3) ∧ (∃ ne : Int32, zvl M' (386) 5 = some (.int ne) ∧ (se.toInt ≤ ne.toInt) ∧ (ne.toInt ≤ sz.toInt) ∧ (4 * (sz.toInt - ne.toInt) + ng.toInt ≤ 4 * (sz.toInt - se.toInt) + sg.toInt) ∧ (∃ nk : Int32, zvl M' (386) 8 = some (.int nk) ∧ (fk.toInt ≤ nk.toInt) ∧ (nk.toInt ≤ 5) ∧ (1 ≤ nk.toInt ∨ sg.toInt = 0 ∨ 4 * (sz.toInt - ne.toInt) + ng.toInt + 1 ≤ 4 * (sz.toInt - se.toInt) + sg.toInt) ∧ True)))))) (96, [some (.ref 386), some (.int v96_1)], [], M)) ∧
      (∀ (M : zM) (v116_1 : Int32) (z_116 : Int32) (g_116 : Int32) (e_116 : Int32) (k_116 : Int32) (i_116 : Int32) (b_116 : Int32), zJ N [(388, 395, 1000), (386, 387, 3), (386, 387, 4), (386, 387, 5), (386, 387, 6), (386, 387, 7), (386, 387, 8), (386, 387, 9)] M0 M → ((0 : Int) ≤ v116_1.toInt) → (v116_1.toInt ≤ 23) → (zvl M (386) 2 = some (.int z_116)) → (z_116.toInt = sz.toInt) → (zvl M (386) 3 = some (.int g_116)) → (0 ≤ g_116.toInt) → (g_116.toInt ≤ 3) → (zvl M (386) 5 = some (.int e_116)) → (se.toInt ≤ e_116.toInt) → (e_116.toInt ≤ sz.toInt) → (4 * (sz.toInt - e_116.toInt) + g_116.toInt ≤ 4 * (sz.toInt - se.toInt) + sg.toInt) → (zvl M (386) 8 = some (.int k_116)) → (fk.toInt ≤ k_116.toInt) → (k_116.toInt ≤ 5) → (1 ≤ k_116.toInt ∨ sg.toInt = 0 ∨ 4 * (sz.toInt - e_116.toInt) + g_116.toInt + 1 ≤ 4 * (sz.toInt - se.toInt) + sg.toInt) → (zvl M (386) 35 = some (.int i_116)) → (0 ≤ i_116.toInt) → (i_116.toInt ≤ 1) → (zvl M (388) (i_116 : Int32).toInt.toNat = some (.int b_116)) → (0 ≤ b_116.toInt) → (b_116.toInt ≤ 11) → 2 < (n : Int) → ZW X (d + 3) 9 false none cX9_boying (zRV N [(388, 395, 1000), (386, 387, 3), (386, 387, 4), (386, 387, 5), (386, 387, 6), (386, 387, 7), (386, 387, 8), (386, 387, 9)] M0 (fun M' => (∃ nz : Int32, zvl M' (386) 2 = some (.int nz) ∧ (nz.toInt = sz.toInt) ∧ (∃ ng : Int32, zvl M' (386) 3 = some (.int ng) ∧ (0 ≤ ng.toInt) ∧ (ng.toInt ≤ 3) ∧ (∃ ne : Int32, zvl M' (386) 5 = some (.int ne) ∧ (se.toInt ≤ ne.toInt) ∧ (ne.toInt ≤ sz.toInt) ∧ (4 * (sz.toInt - ne.toInt) + ng.toInt ≤ 4 * (sz.toInt - se.toInt) + sg.toInt) ∧ (∃ nk : Int32, zvl M' (386) 8 = some (.int nk) ∧ (fk.toInt ≤ nk.toInt) ∧ (nk.toInt ≤ 5) ∧ (1 ≤ nk.toInt ∨ sg.toInt = 0 ∨ 4 * (sz.toInt - ne.toInt) + ng.toInt + 1 ≤ 4 * (sz.toInt - se.toInt) + sg.toInt) ∧ True)))))) (116, [some (.ref 386), some (.int v116_1)], [], M)) ∧
      (∀ (M : zM) (v136_1 : Int32) (z_136 : Int32) (g_136 : Int32) (e_136 : Int32) (k_136 : Int32) (i_136 : Int32) (b_136 : Int32), zJ N [(388, 395, 1000), (386, 387, 3), (386, 387, 4), (386, 387, 5), (386, 387, 6), (386, 387, 7), (386, 387, 8), (386, 387, 9)] M0 M → ((0 : Int) ≤ v136_1.toInt) → (v136_1.toInt ≤ 23) → (zvl M (386) 2 = some (.int z_136)) → (z_136.toInt = sz.toInt) → (zvl M (386) 3 = some (.int g_136)) → (0 ≤ g_136.toInt) → (g_136.toInt ≤ 3) → (zvl M (386) 5 = some (.int e_136)) → (se.toInt ≤ e_136.toInt) → (e_136.toInt ≤ sz.toInt) → (4 * (sz.toInt - e_136.toInt) + g_136.toInt ≤ 4 * (sz.toInt - se.toInt) + sg.toInt) → (zvl M (386) 8 = some (.int k_136)) → (fk.toInt ≤ k_136.toInt) → (k_136.toInt ≤ 5) → (1 ≤ k_136.toInt ∨ sg.toInt = 0 ∨ 4 * (sz.toInt - e_136.toInt) + g_136.toInt + 1 ≤ 4 * (sz.toInt - se.toInt) + sg.toInt) → (zvl M (386) 35 = some (.int i_136)) → (0 ≤ i_136.toInt) → (i_136.toInt ≤ 1) → (zvl M (388) (i_136 : Int32).toInt.toNat = some (.int b_136)) → (0 ≤ b_136.toInt) → (b_136.toInt ≤ 11) → 1 < (n : Int) → ZW X (d + 3) 9 false none cX9_boying (zRV N [(388, 395, 1000), (386, 387, 3), (386, 387, 4), (386, 387, 5), (386, 387, 6), (386, 387, 7), (386, 387, 8), (386, 387, 9)] M0 (fun M' => (∃ nz : Int32, zvl M' (386) 2 = some (.int nz) ∧ (nz.toInt = sz.toInt) ∧ (∃ ng : Int32, zvl M' (386) 3 = some (.int ng) ∧ (0 ≤ ng.toInt) ∧ (ng.toInt ≤ 3) ∧ (∃ ne : Int32, zvl M' (386) 5 = some (.int ne) ∧ (se.toInt ≤ ne.toInt) ∧ (ne.toInt ≤ sz.toInt) ∧ (4 * (sz.toInt - ne.toInt) + ng.toInt ≤ 4 * (sz.toInt - se.toInt) + sg.toInt) ∧ (∃ nk : Int32, zvl M' (386) 8 = some (.int nk) ∧ (fk.toInt ≤ nk.toInt) ∧ (nk.toInt ≤ 5) ∧ (1 ≤ nk.toInt ∨ sg.toInt = 0 ∨ 4 * (sz.toInt - ne.toInt) + ng.toInt + 1 ≤ 4 * (sz.toInt - se.toInt) + sg.toInt) ∧ True)))))) (136, [some (.ref 386), some (.int v136_1)], [], M)) := by
    intro n
    induction n with
    | zero =>
      exact ⟨(fun M v55_1 z_55 g_55 e_55 k_55 i_55 b_55 hJ v55_10 v55_11 hfz_55 hrz_550 hfg_55 hrg_550 hrg_551 hfe_55 hre_550 hre_551 hre_552 hfk_55 hrk_550 hrk_551 hrk_552 hfi_55 hri_550 hri_551 hfb_55 hrb_550 hrb_551 hn => absurd hn (by omega)), (fun M v75_1 z_75 g_75 e_75 k_75 i_75 b_75 hJ v75_10 v75_11 hfz_75 hrz_750 hfg_75 hrg_750 hrg_751 hfe_75 hre_750 hre_751 hre_752 hfk_75 hrk_750 hrk_751 hrk_752 hfi_75 hri_750 hri_751 hfb_75 hrb_750 hrb_751 hn => absurd hn (by omega)), (fun M v96_1 z_96 g_96 e_96 k_96 i_96 b_96 hJ v96_10 v96_11 hfz_96 hrz_960 hfg_96 hrg_960 hrg_961 hfe_96 hre_960 hre_961 hre_962 hfk_96 hrk_960 hrk_961 hrk_962 hfi_96 hri_960 hri_961 hfb_96 hrb_960 hrb_961 hn => absurd hn (by omega)), (fun M v116_1 z_116 g_116 e_116 k_116 i_116 b_116 hJ v116_10 v116_11 hfz_116 hrz_1160 hfg_116 hrg_1160 hrg_1161 hfe_116 hre_1160 hre_1161 hre_1162 hfk_116 hrk_1160 hrk_1161 hrk_1162 hfi_116 hri_1160 hri_1161 hfb_116 hrb_1160 hrb_1161 hn => absurd hn (by omega)), (fun M v136_1 z_136 g_136 e_136 k_136 i_136 b_136 hJ v136_10 v136_11 hfz_136 hrz_1360 hfg_136 hrg_1360 hrg_1361 hfe_136 hre_1360 hre_1361 hre_1362 hfk_136 hrk_1360 hrk_1361 hrk_1362 hfi_136 hri_1360 hri_1361 hfb_136 hrb_1360 hrb_1361 hn => absurd hn (by omega))⟩
    | succ n ih =>
      obtain ⟨ih55, ih75, ih96, ih116, ih136⟩ := ih
      refine ⟨?_, ?_, ?_, ?_, ?_⟩
      · intro M v55_1 z_55 g_55 e_55 k_55 i_55 b_55 hJ v55_10 v55_11 hfz_55 hrz_550 hfg_55 hrg_550 hrg_551 hfe_55 hre_550 hre_551 hre_552 hfk_55 hrk_550 hrk_551 hrk_552 hfi_55 hri_550 hri_551 hfb_55 hrb_550 hrb_551 hn
        refine w_lo dX9_boying_55 rfl rfl rfl rfl ?_
        refine w_me (st' := [.long (131277443786868 : Int64), .ref 386]) dX9_boying_56 rfl rfl rfl rfl rfl ?_
        refine w_iv dX9_boying_59 rfl rfl (As := [.long (131277443786868 : Int64)]) rfl rfl hJ.1.1 zs_386 (Nat.le_of_ble_eq_true rfl) ?_
        refine ZV.imp (k_2321 (131277443786868 : Int64) z_55 hfz_55 (by omega) (by omega) g_55 hfg_55 (by omega) (by omega) e_55 hfe_55 (by omega) (by omega) k_55 hfk_55 (by omega) (by omega) hN hJ.1) ?_
        rintro _ ⟨M1, rfl, hJ2, hq3⟩
        have hJ4 := zJ_trans hJ hJ2 (zSub_cons (fun _ _ h h' hk => zIR_s (zIR_e (by omega) (by omega) hk)) (zSub_cons (fun _ _ h h' hk => zIR_s (zIR_s (zIR_e (by omega) (by omega) hk))) (zSub_cons (fun _ _ h h' hk => zIR_s (zIR_s (zIR_s (zIR_e (by omega) (by omega) hk)))) (zSub_cons (fun _ _ h h' hk => zIR_s (zIR_s (zIR_s (zIR_s (zIR_e (by omega) (by omega) hk))))) (zSub_cons (fun _ _ h h' hk => zIR_s (zIR_s (zIR_s (zIR_s (zIR_s (zIR_e (by omega) (by omega) hk)))))) (zSub_cons (fun _ _ h h' hk => zIR_s (zIR_s (zIR_s (zIR_s (zIR_s (zIR_s (zIR_e (by omega) (by omega) hk))))))) (zSub_cons (fun _ _ h h' hk => zIR_s (zIR_s (zIR_s (zIR_s (zIR_s (zIR_s (zIR_s (zIR_e (by omega) (by omega) hk)))))))) zSub_nil)))))))
        obtain ⟨x5, f6, h7, x8, f9, h10, h11, x12, f13, h14, h15, h16, x17, f18, h19, h20, h21, -⟩ := hq3
        show ZW _ _ _ _ _ _ _ (62, [some (.ref 386), some (.int v55_1)], [], M1)
        refine w_lo dX9_boying_62 rfl rfl rfl rfl ?_
        refine w_gf dX9_boying_63 rfl hJ4.1.1 zs_386 (zr_386_15 hJ4.1) ?_
        refine w_lo dX9_boying_66 rfl rfl rfl rfl ?_
        refine w_lo dX9_boying_67 rfl rfl rfl rfl ?_
        refine w_ic dX9_boying_68 zi_1 ?_
        refine w_bi dX9_boying_69 (c := 99) (by decide) ?_
        refine w_iv dX9_boying_71 rfl rfl (As := [.int 1, .int 99]) rfl rfl hJ4.1.1 zs_386 (Nat.le_of_ble_eq_true rfl) ?_
        refine ZV.imp (k_2322 1 (by have := zt_1; omega) (by have := zt_1; omega) 99 (by have := zt_99; omega) (by have := zt_99; omega) x5 f6 (by have := zt_1; have := zt_99; omega) (by have := zt_1; have := zt_99; omega) x8 f9 (by have := zt_1; have := zt_99; omega) (by have := zt_1; have := zt_99; omega) x12 f13 (by have := zt_1; have := zt_99; omega) (by have := zt_1; have := zt_99; omega) x17 f18 (by have := zt_1; have := zt_99; omega) (by have := zt_1; have := zt_99; omega) hN hJ4.1) ?_
        rintro _ ⟨x25, M22, rfl, h26, h27, hJ23, hq24⟩
        have hJ28 := zJ_trans hJ4 hJ23 (zSub_cons (fun _ _ h h' hk => zIR_s (zIR_e (by omega) (by omega) hk)) (zSub_cons (fun _ _ h h' hk => zIR_s (zIR_s (zIR_e (by omega) (by omega) hk))) (zSub_cons (fun _ _ h h' hk => zIR_s (zIR_s (zIR_s (zIR_e (by omega) (by omega) hk)))) (zSub_cons (fun _ _ h h' hk => zIR_s (zIR_s (zIR_s (zIR_s (zIR_e (by omega) (by omega) hk))))) (zSub_cons (fun _ _ h h' hk => zIR_s (zIR_s (zIR_s (zIR_s (zIR_s (zIR_e (by omega) (by omega) hk)))))) (zSub_cons (fun _ _ h h' hk => zIR_s (zIR_s (zIR_s (zIR_s (zIR_s (zIR_s (zIR_e (by omega) (by omega) hk))))))) (zSub_cons (fun _ _ h h' hk => zIR_s (zIR_s (zIR_s (zIR_s (zIR_s (zIR_s (zIR_s (zIR_e (by omega) (by omega) hk)))))))) zSub_nil)))))))
        obtain ⟨x29, f30, h31, x32, f33, h34, h35, x36, f37, h38, h39, h40, x41, f42, h43, h44, h45, -⟩ := hq24
        have := zt_1; have := zt_99
        show ZW _ _ _ _ _ _ _ (74, [some (.ref 386), some (.int v55_1)], [.int x25, .int v55_1, .ref 390], M22)
        refine w_isi dX9_boying_74 hJ28 zs_390 (by omega) (by omega) zu_390 (zbot _) (ztop _) (zIR_a (by omega) (by omega)) ?_
        intro M46 hJ47 f48 hn49
        have f50 := (hn49 (386) 2 (Or.inl (by omega))).trans (f30)
        have f51 := (hn49 (386) 3 (Or.inl (by omega))).trans (f33)
        have f52 := (hn49 (386) 5 (Or.inl (by omega))).trans (f37)
        have f53 := (hn49 (386) 8 (Or.inl (by omega))).trans (f42)
        have f54 := (hn49 (386) 35 (Or.inl (by omega))).trans ((hJ23.2 (386) 35 (zNI_k (by decide) (by decide) (zNI_k (by decide) (by decide) (zNI_k (by decide) (by decide) (zNI_k (by decide) (by decide) (zNI_k (by decide) (by decide) (zNI_k (by decide) (by decide) (zNI_k (by decide) (by decide) zNI_nil)))))))).trans ((hJ2.2 (386) 35 (zNI_k (by decide) (by decide) (zNI_k (by decide) (by decide) (zNI_k (by decide) (by decide) (zNI_k (by decide) (by decide) (zNI_k (by decide) (by decide) (zNI_k (by decide) (by decide) (zNI_k (by decide) (by decide) zNI_nil)))))))).trans (hfi_55)))
        have f55 := (hn49 (388) (i_55 : Int32).toInt.toNat (Or.inl (by omega))).trans ((hJ23.2 (388) (i_55 : Int32).toInt.toNat (zNI (by omega) (zNI (by omega) (zNI (by omega) (zNI (by omega) (zNI (by omega) (zNI (by omega) (zNI (by omega) zNI_nil)))))))).trans ((hJ2.2 (388) (i_55 : Int32).toInt.toNat (zNI (by omega) (zNI (by omega) (zNI (by omega) (zNI (by omega) (zNI (by omega) (zNI (by omega) (zNI (by omega) zNI_nil)))))))).trans (hfb_55)))
        exact ih75 M46 v55_1 x29 x32 x36 x41 i_55 b_55 hJ47 (by omega) (by omega) f50 (by omega) f51 (by omega) (by omega) f52 (by omega) (by omega) (by omega) f53 (by omega) (by omega) (by omega) f54 (by omega) (by omega) f55 (by omega) (by omega) (by omega)
      · intro M v75_1 z_75 g_75 e_75 k_75 i_75 b_75 hJ v75_10 v75_11 hfz_75 hrz_750 hfg_75 hrg_750 hrg_751 hfe_75 hre_750 hre_751 hre_752 hfk_75 hrk_750 hrk_751 hrk_752 hfi_75 hri_750 hri_751 hfb_75 hrb_750 hrb_751 hn
        refine w_lo dX9_boying_75 rfl rfl rfl rfl ?_
        refine w_me (st' := [.long (431198598248 : Int64), .ref 386]) dX9_boying_76 rfl rfl rfl rfl rfl ?_
        refine w_iv dX9_boying_79 rfl rfl (As := [.long (431198598248 : Int64)]) rfl rfl hJ.1.1 zs_386 (Nat.le_of_ble_eq_true rfl) ?_
        refine ZV.imp (k_2321 (431198598248 : Int64) z_75 hfz_75 (by omega) (by omega) g_75 hfg_75 (by omega) (by omega) e_75 hfe_75 (by omega) (by omega) k_75 hfk_75 (by omega) (by omega) hN hJ.1) ?_
        rintro _ ⟨M56, rfl, hJ57, hq58⟩
        have hJ59 := zJ_trans hJ hJ57 (zSub_cons (fun _ _ h h' hk => zIR_s (zIR_e (by omega) (by omega) hk)) (zSub_cons (fun _ _ h h' hk => zIR_s (zIR_s (zIR_e (by omega) (by omega) hk))) (zSub_cons (fun _ _ h h' hk => zIR_s (zIR_s (zIR_s (zIR_e (by omega) (by omega) hk)))) (zSub_cons (fun _ _ h h' hk => zIR_s (zIR_s (zIR_s (zIR_s (zIR_e (by omega) (by omega) hk))))) (zSub_cons (fun _ _ h h' hk => zIR_s (zIR_s (zIR_s (zIR_s (zIR_s (zIR_e (by omega) (by omega) hk)))))) (zSub_cons (fun _ _ h h' hk => zIR_s (zIR_s (zIR_s (zIR_s (zIR_s (zIR_s (zIR_e (by omega) (by omega) hk))))))) (zSub_cons (fun _ _ h h' hk => zIR_s (zIR_s (zIR_s (zIR_s (zIR_s (zIR_s (zIR_s (zIR_e (by omega) (by omega) hk)))))))) zSub_nil)))))))
        obtain ⟨x60, f61, h62, x63, f64, h65, h66, x67, f68, h69, h70, h71, x72, f73, h74, h75, h76, -⟩ := hq58
        show ZW _ _ _ _ _ _ _ (82, [some (.ref 386), some (.int v75_1)], [], M56)
        refine w_lo dX9_boying_82 rfl rfl rfl rfl ?_
        refine w_gf dX9_boying_83 rfl hJ59.1.1 zs_386 (zr_386_16 hJ59.1) ?_
        refine w_lo dX9_boying_86 rfl rfl rfl rfl ?_
        refine w_lo dX9_boying_87 rfl rfl rfl rfl ?_
        refine w_ic dX9_boying_88 zi_1 ?_
        refine w_si dX9_boying_89 (c := 999) (by decide) ?_
        refine w_iv dX9_boying_92 rfl rfl (As := [.int 1, .int 999]) rfl rfl hJ59.1.1 zs_386 (Nat.le_of_ble_eq_true rfl) ?_
        refine ZV.imp (k_2322 1 (by have := zt_1; omega) (by have := zt_1; omega) 999 (by have := zt_999; omega) (by have := zt_999; omega) x60 f61 (by have := zt_1; have := zt_999; omega) (by have := zt_1; have := zt_999; omega) x63 f64 (by have := zt_1; have := zt_999; omega) (by have := zt_1; have := zt_999; omega) x67 f68 (by have := zt_1; have := zt_999; omega) (by have := zt_1; have := zt_999; omega) x72 f73 (by have := zt_1; have := zt_999; omega) (by have := zt_1; have := zt_999; omega) hN hJ59.1) ?_
        rintro _ ⟨x80, M77, rfl, h81, h82, hJ78, hq79⟩
        have hJ83 := zJ_trans hJ59 hJ78 (zSub_cons (fun _ _ h h' hk => zIR_s (zIR_e (by omega) (by omega) hk)) (zSub_cons (fun _ _ h h' hk => zIR_s (zIR_s (zIR_e (by omega) (by omega) hk))) (zSub_cons (fun _ _ h h' hk => zIR_s (zIR_s (zIR_s (zIR_e (by omega) (by omega) hk)))) (zSub_cons (fun _ _ h h' hk => zIR_s (zIR_s (zIR_s (zIR_s (zIR_e (by omega) (by omega) hk))))) (zSub_cons (fun _ _ h h' hk => zIR_s (zIR_s (zIR_s (zIR_s (zIR_s (zIR_e (by omega) (by omega) hk)))))) (zSub_cons (fun _ _ h h' hk => zIR_s (zIR_s (zIR_s (zIR_s (zIR_s (zIR_s (zIR_e (by omega) (by omega) hk))))))) (zSub_cons (fun _ _ h h' hk => zIR_s (zIR_s (zIR_s (zIR_s (zIR_s (zIR_s (zIR_s (zIR_e (by omega) (by omega) hk)))))))) zSub_nil)))))))
        obtain ⟨x84, f85, h86, x87, f88, h89, h90, x91, f92, h93, h94, h95, x96, f97, h98, h99, h100, -⟩ := hq79
        have := zt_1; have := zt_999
        show ZW _ _ _ _ _ _ _ (95, [some (.ref 386), some (.int v75_1)], [.int x80, .int v75_1, .ref 391], M77)
        refine w_isi dX9_boying_95 hJ83 zs_391 (by omega) (by omega) zu_391 (zbot _) (ztop _) (zIR_a (by omega) (by omega)) ?_
        intro M101 hJ102 f103 hn104
        have f105 := (hn104 (386) 2 (Or.inl (by omega))).trans (f85)
        have f106 := (hn104 (386) 3 (Or.inl (by omega))).trans (f88)
        have f107 := (hn104 (386) 5 (Or.inl (by omega))).trans (f92)
        have f108 := (hn104 (386) 8 (Or.inl (by omega))).trans (f97)
        have f109 := (hn104 (386) 35 (Or.inl (by omega))).trans ((hJ78.2 (386) 35 (zNI_k (by decide) (by decide) (zNI_k (by decide) (by decide) (zNI_k (by decide) (by decide) (zNI_k (by decide) (by decide) (zNI_k (by decide) (by decide) (zNI_k (by decide) (by decide) (zNI_k (by decide) (by decide) zNI_nil)))))))).trans ((hJ57.2 (386) 35 (zNI_k (by decide) (by decide) (zNI_k (by decide) (by decide) (zNI_k (by decide) (by decide) (zNI_k (by decide) (by decide) (zNI_k (by decide) (by decide) (zNI_k (by decide) (by decide) (zNI_k (by decide) (by decide) zNI_nil)))))))).trans (hfi_75)))
        have f110 := (hn104 (388) (i_75 : Int32).toInt.toNat (Or.inl (by omega))).trans ((hJ78.2 (388) (i_75 : Int32).toInt.toNat (zNI (by omega) (zNI (by omega) (zNI (by omega) (zNI (by omega) (zNI (by omega) (zNI (by omega) (zNI (by omega) zNI_nil)))))))).trans ((hJ57.2 (388) (i_75 : Int32).toInt.toNat (zNI (by omega) (zNI (by omega) (zNI (by omega) (zNI (by omega) (zNI (by omega) (zNI (by omega) (zNI (by omega) zNI_nil)))))))).trans (hfb_75)))
        exact ih96 M101 v75_1 x84 x87 x91 x96 i_75 b_75 hJ102 (by omega) (by omega) f105 (by omega) f106 (by omega) (by omega) f107 (by omega) (by omega) (by omega) f108 (by omega) (by omega) (by omega) f109 (by omega) (by omega) f110 (by omega) (by omega) (by omega)
      · intro M v96_1 z_96 g_96 e_96 k_96 i_96 b_96 hJ v96_10 v96_11 hfz_96 hrz_960 hfg_96 hrg_960 hrg_961 hfe_96 hre_960 hre_961 hre_962 hfk_96 hrk_960 hrk_961 hrk_962 hfi_96 hri_960 hri_961 hfb_96 hrb_960 hrb_961 hn
        refine w_lo dX9_boying_96 rfl rfl rfl rfl ?_
        refine w_me (st' := [.long (1868850291 : Int64), .ref 386]) dX9_boying_97 rfl rfl rfl rfl rfl ?_
        refine w_iv dX9_boying_100 rfl rfl (As := [.long (1868850291 : Int64)]) rfl rfl hJ.1.1 zs_386 (Nat.le_of_ble_eq_true rfl) ?_
        refine ZV.imp (k_2321 (1868850291 : Int64) z_96 hfz_96 (by omega) (by omega) g_96 hfg_96 (by omega) (by omega) e_96 hfe_96 (by omega) (by omega) k_96 hfk_96 (by omega) (by omega) hN hJ.1) ?_
        rintro _ ⟨M111, rfl, hJ112, hq113⟩
        have hJ114 := zJ_trans hJ hJ112 (zSub_cons (fun _ _ h h' hk => zIR_s (zIR_e (by omega) (by omega) hk)) (zSub_cons (fun _ _ h h' hk => zIR_s (zIR_s (zIR_e (by omega) (by omega) hk))) (zSub_cons (fun _ _ h h' hk => zIR_s (zIR_s (zIR_s (zIR_e (by omega) (by omega) hk)))) (zSub_cons (fun _ _ h h' hk => zIR_s (zIR_s (zIR_s (zIR_s (zIR_e (by omega) (by omega) hk))))) (zSub_cons (fun _ _ h h' hk => zIR_s (zIR_s (zIR_s (zIR_s (zIR_s (zIR_e (by omega) (by omega) hk)))))) (zSub_cons (fun _ _ h h' hk => zIR_s (zIR_s (zIR_s (zIR_s (zIR_s (zIR_s (zIR_e (by omega) (by omega) hk))))))) (zSub_cons (fun _ _ h h' hk => zIR_s (zIR_s (zIR_s (zIR_s (zIR_s (zIR_s (zIR_s (zIR_e (by omega) (by omega) hk)))))))) zSub_nil)))))))
        obtain ⟨x115, f116, h117, x118, f119, h120, h121, x122, f123, h124, h125, h126, x127, f128, h129, h130, h131, -⟩ := hq113
        show ZW _ _ _ _ _ _ _ (103, [some (.ref 386), some (.int v96_1)], [], M111)
        refine w_lo dX9_boying_103 rfl rfl rfl rfl ?_
        refine w_gf dX9_boying_104 rfl hJ114.1.1 zs_386 (zr_386_17 hJ114.1) ?_
        refine w_lo dX9_boying_107 rfl rfl rfl rfl ?_
        refine w_lo dX9_boying_108 rfl rfl rfl rfl ?_
        refine w_ic dX9_boying_109 zi_0 ?_
        refine w_bi dX9_boying_110 (c := 100) (by decide) ?_
        refine w_iv dX9_boying_112 rfl rfl (As := [.int 0, .int 100]) rfl rfl hJ114.1.1 zs_386 (Nat.le_of_ble_eq_true rfl) ?_
        refine ZV.imp (k_2322 0 (by have := zt_0; omega) (by have := zt_0; omega) 100 (by have := zt_100; omega) (by have := zt_100; omega) x115 f116 (by have := zt_0; have := zt_100; omega) (by have := zt_0; have := zt_100; omega) x118 f119 (by have := zt_0; have := zt_100; omega) (by have := zt_0; have := zt_100; omega) x122 f123 (by have := zt_0; have := zt_100; omega) (by have := zt_0; have := zt_100; omega) x127 f128 (by have := zt_0; have := zt_100; omega) (by have := zt_0; have := zt_100; omega) hN hJ114.1) ?_
        rintro _ ⟨x135, M132, rfl, h136, h137, hJ133, hq134⟩
        have hJ138 := zJ_trans hJ114 hJ133 (zSub_cons (fun _ _ h h' hk => zIR_s (zIR_e (by omega) (by omega) hk)) (zSub_cons (fun _ _ h h' hk => zIR_s (zIR_s (zIR_e (by omega) (by omega) hk))) (zSub_cons (fun _ _ h h' hk => zIR_s (zIR_s (zIR_s (zIR_e (by omega) (by omega) hk)))) (zSub_cons (fun _ _ h h' hk => zIR_s (zIR_s (zIR_s (zIR_s (zIR_e (by omega) (by omega) hk))))) (zSub_cons (fun _ _ h h' hk => zIR_s (zIR_s (zIR_s (zIR_s (zIR_s (zIR_e (by omega) (by omega) hk)))))) (zSub_cons (fun _ _ h h' hk => zIR_s (zIR_s (zIR_s (zIR_s (zIR_s (zIR_s (zIR_e (by omega) (by omega) hk))))))) (zSub_cons (fun _ _ h h' hk => zIR_s (zIR_s (zIR_s (zIR_s (zIR_s (zIR_s (zIR_s (zIR_e (by omega) (by omega) hk)))))))) zSub_nil)))))))
        obtain ⟨x139, f140, h141, x142, f143, h144, h145, x146, f147, h148, h149, h150, x151, f152, h153, h154, h155, -⟩ := hq134
        have := zt_0; have := zt_100
        show ZW _ _ _ _ _ _ _ (115, [some (.ref 386), some (.int v96_1)], [.int x135, .int v96_1, .ref 392], M132)
        refine w_isi dX9_boying_115 hJ138 zs_392 (by omega) (by omega) zu_392 (zbot _) (ztop _) (zIR_a (by omega) (by omega)) ?_
        intro M156 hJ157 f158 hn159
        have f160 := (hn159 (386) 2 (Or.inl (by omega))).trans (f140)
        have f161 := (hn159 (386) 3 (Or.inl (by omega))).trans (f143)
        have f162 := (hn159 (386) 5 (Or.inl (by omega))).trans (f147)
        have f163 := (hn159 (386) 8 (Or.inl (by omega))).trans (f152)
        have f164 := (hn159 (386) 35 (Or.inl (by omega))).trans ((hJ133.2 (386) 35 (zNI_k (by decide) (by decide) (zNI_k (by decide) (by decide) (zNI_k (by decide) (by decide) (zNI_k (by decide) (by decide) (zNI_k (by decide) (by decide) (zNI_k (by decide) (by decide) (zNI_k (by decide) (by decide) zNI_nil)))))))).trans ((hJ112.2 (386) 35 (zNI_k (by decide) (by decide) (zNI_k (by decide) (by decide) (zNI_k (by decide) (by decide) (zNI_k (by decide) (by decide) (zNI_k (by decide) (by decide) (zNI_k (by decide) (by decide) (zNI_k (by decide) (by decide) zNI_nil)))))))).trans (hfi_96)))
        have f165 := (hn159 (388) (i_96 : Int32).toInt.toNat (Or.inl (by omega))).trans ((hJ133.2 (388) (i_96 : Int32).toInt.toNat (zNI (by omega) (zNI (by omega) (zNI (by omega) (zNI (by omega) (zNI (by omega) (zNI (by omega) (zNI (by omega) zNI_nil)))))))).trans ((hJ112.2 (388) (i_96 : Int32).toInt.toNat (zNI (by omega) (zNI (by omega) (zNI (by omega) (zNI (by omega) (zNI (by omega) (zNI (by omega) (zNI (by omega) zNI_nil)))))))).trans (hfb_96)))
        exact ih116 M156 v96_1 x139 x142 x146 x151 i_96 b_96 hJ157 (by omega) (by omega) f160 (by omega) f161 (by omega) (by omega) f162 (by omega) (by omega) (by omega) f163 (by omega) (by omega) (by omega) f164 (by omega) (by omega) f165 (by omega) (by omega) (by omega)
      · intro M v116_1 z_116 g_116 e_116 k_116 i_116 b_116 hJ v116_10 v116_11 hfz_116 hrz_1160 hfg_116 hrg_1160 hrg_1161 hfe_116 hre_1160 hre_1161 hre_1162 hfk_116 hrk_1160 hrk_1161 hrk_1162 hfi_116 hri_1160 hri_1161 hfb_116 hrb_1160 hrb_1161 hn
        refine w_lo dX9_boying_116 rfl rfl rfl rfl ?_
        refine w_me (st' := [.long (483006377075 : Int64), .ref 386]) dX9_boying_117 rfl rfl rfl rfl rfl ?_
        refine w_iv dX9_boying_120 rfl rfl (As := [.long (483006377075 : Int64)]) rfl rfl hJ.1.1 zs_386 (Nat.le_of_ble_eq_true rfl) ?_
        refine ZV.imp (k_2321 (483006377075 : Int64) z_116 hfz_116 (by omega) (by omega) g_116 hfg_116 (by omega) (by omega) e_116 hfe_116 (by omega) (by omega) k_116 hfk_116 (by omega) (by omega) hN hJ.1) ?_
        rintro _ ⟨M166, rfl, hJ167, hq168⟩
        have hJ169 := zJ_trans hJ hJ167 (zSub_cons (fun _ _ h h' hk => zIR_s (zIR_e (by omega) (by omega) hk)) (zSub_cons (fun _ _ h h' hk => zIR_s (zIR_s (zIR_e (by omega) (by omega) hk))) (zSub_cons (fun _ _ h h' hk => zIR_s (zIR_s (zIR_s (zIR_e (by omega) (by omega) hk)))) (zSub_cons (fun _ _ h h' hk => zIR_s (zIR_s (zIR_s (zIR_s (zIR_e (by omega) (by omega) hk))))) (zSub_cons (fun _ _ h h' hk => zIR_s (zIR_s (zIR_s (zIR_s (zIR_s (zIR_e (by omega) (by omega) hk)))))) (zSub_cons (fun _ _ h h' hk => zIR_s (zIR_s (zIR_s (zIR_s (zIR_s (zIR_s (zIR_e (by omega) (by omega) hk))))))) (zSub_cons (fun _ _ h h' hk => zIR_s (zIR_s (zIR_s (zIR_s (zIR_s (zIR_s (zIR_s (zIR_e (by omega) (by omega) hk)))))))) zSub_nil)))))))
        obtain ⟨x170, f171, h172, x173, f174, h175, h176, x177, f178, h179, h180, h181, x182, f183, h184, h185, h186, -⟩ := hq168
        show ZW _ _ _ _ _ _ _ (123, [some (.ref 386), some (.int v116_1)], [], M166)
        refine w_lo dX9_boying_123 rfl rfl rfl rfl ?_
        refine w_gf dX9_boying_124 rfl hJ169.1.1 zs_386 (zr_386_18 hJ169.1) ?_
        refine w_lo dX9_boying_127 rfl rfl rfl rfl ?_
        refine w_lo dX9_boying_128 rfl rfl rfl rfl ?_
        refine w_ic dX9_boying_129 zi_0 ?_
        refine w_bi dX9_boying_130 (c := 99) (by decide) ?_
        refine w_iv dX9_boying_132 rfl rfl (As := [.int 0, .int 99]) rfl rfl hJ169.1.1 zs_386 (Nat.le_of_ble_eq_true rfl) ?_
        refine ZV.imp (k_2322 0 (by have := zt_0; omega) (by have := zt_0; omega) 99 (by have := zt_99; omega) (by have := zt_99; omega) x170 f171 (by have := zt_0; have := zt_99; omega) (by have := zt_0; have := zt_99; omega) x173 f174 (by have := zt_0; have := zt_99; omega) (by have := zt_0; have := zt_99; omega) x177 f178 (by have := zt_0; have := zt_99; omega) (by have := zt_0; have := zt_99; omega) x182 f183 (by have := zt_0; have := zt_99; omega) (by have := zt_0; have := zt_99; omega) hN hJ169.1) ?_
        rintro _ ⟨x190, M187, rfl, h191, h192, hJ188, hq189⟩
        have hJ193 := zJ_trans hJ169 hJ188 (zSub_cons (fun _ _ h h' hk => zIR_s (zIR_e (by omega) (by omega) hk)) (zSub_cons (fun _ _ h h' hk => zIR_s (zIR_s (zIR_e (by omega) (by omega) hk))) (zSub_cons (fun _ _ h h' hk => zIR_s (zIR_s (zIR_s (zIR_e (by omega) (by omega) hk)))) (zSub_cons (fun _ _ h h' hk => zIR_s (zIR_s (zIR_s (zIR_s (zIR_e (by omega) (by omega) hk))))) (zSub_cons (fun _ _ h h' hk => zIR_s (zIR_s (zIR_s (zIR_s (zIR_s (zIR_e (by omega) (by omega) hk)))))) (zSub_cons (fun _ _ h h' hk => zIR_s (zIR_s (zIR_s (zIR_s (zIR_s (zIR_s (zIR_e (by omega) (by omega) hk))))))) (zSub_cons (fun _ _ h h' hk => zIR_s (zIR_s (zIR_s (zIR_s (zIR_s (zIR_s (zIR_s (zIR_e (by omega) (by omega) hk)))))))) zSub_nil)))))))
        obtain ⟨x194, f195, h196, x197, f198, h199, h200, x201, f202, h203, h204, h205, x206, f207, h208, h209, h210, -⟩ := hq189
        have := zt_0; have := zt_99
        show ZW _ _ _ _ _ _ _ (135, [some (.ref 386), some (.int v116_1)], [.int x190, .int v116_1, .ref 393], M187)
        refine w_isi dX9_boying_135 hJ193 zs_393 (by omega) (by omega) zu_393 (zbot _) (ztop _) (zIR_a (by omega) (by omega)) ?_
        intro M211 hJ212 f213 hn214
        have f215 := (hn214 (386) 2 (Or.inl (by omega))).trans (f195)
        have f216 := (hn214 (386) 3 (Or.inl (by omega))).trans (f198)
        have f217 := (hn214 (386) 5 (Or.inl (by omega))).trans (f202)
        have f218 := (hn214 (386) 8 (Or.inl (by omega))).trans (f207)
        have f219 := (hn214 (386) 35 (Or.inl (by omega))).trans ((hJ188.2 (386) 35 (zNI_k (by decide) (by decide) (zNI_k (by decide) (by decide) (zNI_k (by decide) (by decide) (zNI_k (by decide) (by decide) (zNI_k (by decide) (by decide) (zNI_k (by decide) (by decide) (zNI_k (by decide) (by decide) zNI_nil)))))))).trans ((hJ167.2 (386) 35 (zNI_k (by decide) (by decide) (zNI_k (by decide) (by decide) (zNI_k (by decide) (by decide) (zNI_k (by decide) (by decide) (zNI_k (by decide) (by decide) (zNI_k (by decide) (by decide) (zNI_k (by decide) (by decide) zNI_nil)))))))).trans (hfi_116)))
        have f220 := (hn214 (388) (i_116 : Int32).toInt.toNat (Or.inl (by omega))).trans ((hJ188.2 (388) (i_116 : Int32).toInt.toNat (zNI (by omega) (zNI (by omega) (zNI (by omega) (zNI (by omega) (zNI (by omega) (zNI (by omega) (zNI (by omega) zNI_nil)))))))).trans ((hJ167.2 (388) (i_116 : Int32).toInt.toNat (zNI (by omega) (zNI (by omega) (zNI (by omega) (zNI (by omega) (zNI (by omega) (zNI (by omega) (zNI (by omega) zNI_nil)))))))).trans (hfb_116)))
        exact ih136 M211 v116_1 x194 x197 x201 x206 i_116 b_116 hJ212 (by omega) (by omega) f215 (by omega) f216 (by omega) (by omega) f217 (by omega) (by omega) (by omega) f218 (by omega) (by omega) (by omega) f219 (by omega) (by omega) f220 (by omega) (by omega) (by omega)
      · intro M v136_1 z_136 g_136 e_136 k_136 i_136 b_136 hJ v136_10 v136_11 hfz_136 hrz_1360 hfg_136 hrg_1360 hrg_1361 hfe_136 hre_1360 hre_1361 hre_1362 hfk_136 hrk_1360 hrk_1361 hrk_1362 hfi_136 hri_1360 hri_1361 hfb_136 hrb_1360 hrb_1361 hn
        refine w_lo dX9_boying_136 rfl rfl rfl rfl ?_
        refine w_lo dX9_boying_137 rfl rfl rfl rfl ?_
        refine w_iv dX9_boying_138 rfl rfl (As := [.int v136_1]) rfl rfl hJ.1.1 zs_386 (Nat.le_of_ble_eq_true rfl) ?_
        refine ZV.imp (k_2324 v136_1 (by omega) (by omega) z_136 hfz_136 (by omega) (by omega) g_136 hfg_136 (by omega) (by omega) e_136 hfe_136 (by omega) (by omega) k_136 hfk_136 (by omega) (by omega) hN hJ.1) ?_
        rintro _ ⟨M221, rfl, hJ222, hq223⟩
        have hJ224 := zJ_trans hJ hJ222 (zSub_cons (fun _ _ h h' hk => zIR_a (by omega) (by omega)) (zSub_cons (fun _ _ h h' hk => zIR_s (zIR_e (by omega) (by omega) hk)) (zSub_cons (fun _ _ h h' hk => zIR_s (zIR_s (zIR_e (by omega) (by omega) hk))) (zSub_cons (fun _ _ h h' hk => zIR_s (zIR_s (zIR_s (zIR_e (by omega) (by omega) hk)))) (zSub_cons (fun _ _ h h' hk => zIR_s (zIR_s (zIR_s (zIR_s (zIR_e (by omega) (by omega) hk))))) (zSub_cons (fun _ _ h h' hk => zIR_s (zIR_s (zIR_s (zIR_s (zIR_s (zIR_e (by omega) (by omega) hk)))))) (zSub_cons (fun _ _ h h' hk => zIR_s (zIR_s (zIR_s (zIR_s (zIR_s (zIR_s (zIR_e (by omega) (by omega) hk))))))) (zSub_cons (fun _ _ h h' hk => zIR_s (zIR_s (zIR_s (zIR_s (zIR_s (zIR_s (zIR_s (zIR_e (by omega) (by omega) hk)))))))) zSub_nil))))))))
        obtain ⟨x225, f226, h227, x228, f229, h230, h231, x232, f233, h234, h235, h236, x237, f238, h239, h240, -⟩ := hq223
        show ZW _ _ _ _ _ _ _ (141, [some (.ref 386), some (.int v136_1)], [], M221)
        refine w_lo dX9_boying_141 rfl rfl rfl rfl ?_
        refine w_gf dX9_boying_142 rfl hJ224.1.1 zs_386 f238 ?_
        rcases Int.decEq x237.toInt (0 : Int) with h241 | h241
        · skip
          refine w_ine_t dX9_boying_145 (t := 161) rfl (by omega) ?_
          refine w_en dX9_boying_161 rfl ?_
          exact ⟨_, rfl, hJ224, ⟨x225, f226, (by omega), x228, f229, (by omega), (by omega), x232, f233, (by omega), (by omega), (by omega), x237, f238, (by omega), (by omega), (by omega), trivial⟩⟩
        · skip
          refine w_ine_f dX9_boying_145 (t := 161) rfl (by omega) ?_
          refine w_lo dX9_boying_148 rfl rfl rfl rfl ?_
          refine w_gf dX9_boying_149 rfl hJ224.1.1 zs_386 (zr_386_13 hJ224.1) ?_
          refine w_lo dX9_boying_152 rfl rfl rfl rfl ?_
          have f242 := (hJ222.2 (386) 35 (zNI (by omega) (zNI_k (by decide) (by decide) (zNI_k (by decide) (by decide) (zNI_k (by decide) (by decide) (zNI_k (by decide) (by decide) (zNI_k (by decide) (by decide) (zNI_k (by decide) (by decide) (zNI_k (by decide) (by decide) zNI_nil))))))))).trans (hfi_136)
          refine w_gf dX9_boying_153 rfl hJ224.1.1 zs_386 f242 ?_
          refine w_pu dX9_boying_156 rfl rfl ?_
          have f246 := (hJ222.2 (388) (i_136 : Int32).toInt.toNat (zNI (by omega) (zNI (by omega) (zNI (by omega) (zNI (by omega) (zNI (by omega) (zNI (by omega) (zNI (by omega) (zNI (by omega) zNI_nil))))))))).trans (hfb_136)
          refine w_ia dX9_boying_157 hJ224.1.1 zs_388 (znat (by omega)) f246 ?_
          refine w_ic dX9_boying_158 zi_1 ?_
          refine w_add dX9_boying_159 (by have := zt_1; omega) ?_
          intro x247 h248
          have := zt_1
          refine w_isi dX9_boying_160 hJ224 zs_388 (by omega) (by omega) zu_388 (by omega) (by omega) (zIR_a (by omega) (by omega)) ?_
          intro M249 hJ250 f251 hn252
          refine w_en dX9_boying_161 rfl ?_
          have f253 := (hn252 (386) 2 (Or.inl (by omega))).trans (f226)
          have f254 := (hn252 (386) 3 (Or.inl (by omega))).trans (f229)
          have f255 := (hn252 (386) 5 (Or.inl (by omega))).trans (f233)
          have f256 := (hn252 (386) 8 (Or.inl (by omega))).trans (f238)
          exact ⟨_, rfl, hJ250, ⟨x225, f253, (by omega), x228, f254, (by omega), (by omega), x232, f255, (by omega), (by omega), (by omega), x237, f256, (by omega), (by omega), (by omega), trivial⟩⟩
  obtain ⟨ih55, ih75, ih96, ih116, ih136⟩ := main 10
  show ZW _ _ _ _ _ _ _ (0, [some (.ref 386), none], [], M0)
  refine w_lo dX9_boying_0 rfl rfl rfl rfl ?_
  refine w_lo dX9_boying_1 rfl rfl rfl rfl ?_
  refine w_gf dX9_boying_2 rfl hJ0.1.1 zs_386 (zr_386_13 hJ0.1) ?_
  refine w_lo dX9_boying_5 rfl rfl rfl rfl ?_
  refine w_gfi dX9_boying_6 rfl hJ0.1 zs_386 (Nat.le_of_ble_eq_true rfl) zo_386_35 ?_
  intro x257 f258 h259 h260
  refine w_iai dX9_boying_9 hJ0.1 zs_388 (by omega) (by omega) zu_388 ?_
  intro x264 f261 h262 h263
  refine w_bi dX9_boying_10 (c := 12) (by decide) ?_
  rcases Int.decEq x264.toInt (12 : Int) with h265 | h265
  · skip
    refine w_cne_t dX9_boying_12 (t := 19) rfl (by have := zt_12; omega) ?_
    refine w_ic dX9_boying_19 zi_0 ?_
    refine w_iv dX9_boying_20 rfl rfl (As := [.int 0]) rfl rfl hJ0.1.1 zs_386 (Nat.le_of_ble_eq_true rfl) ?_
    refine ZV.of (ini := false) rfl (Nat.le_of_ble_eq_true rfl) (by decide +kernel) ?_
    show ZW _ _ _ _ _ _ _ (0, [some (.ref 386), some (.int 0)], [], M0)
    refine w_lo dX9_counts_0 rfl rfl rfl rfl ?_
    refine w_gf dX9_counts_1 rfl hJ0.1.1 zs_386 hffk ?_
    rcases Int.decEq fk.toInt (0 : Int) with h266 | h266
    · skip
      refine w_ine_t dX9_counts_4 (t := 20) rfl (by omega) ?_
      refine w_lo dX9_counts_20 rfl rfl rfl rfl ?_
      refine w_gf dX9_counts_21 rfl hJ0.1.1 zs_386 hffk ?_
      refine w_ine_t dX9_counts_24 (t := 31) rfl (by omega) ?_
      refine w_lo dX9_counts_31 rfl rfl rfl rfl ?_
      refine w_gf dX9_counts_32 rfl hJ0.1.1 zs_386 hffk ?_
      refine w_ine_t dX9_counts_35 (t := 42) rfl (by omega) ?_
      refine w_ic dX9_counts_42 zi_0 ?_
      refine w_en dX9_counts_43 rfl ?_
      show ZW _ _ _ _ _ _ _ (23, [some (.ref 386), none], [.int 0], M0)
      refine w_ine_f dX9_boying_23 (t := 27) rfl (by have := zt_0; omega) ?_
      refine w_en dX9_boying_26 rfl ?_
      exact ⟨_, rfl, hJ0, ⟨sz, hfsz, (by omega), sg, hfsg, (by omega), (by omega), se, hfse, (by omega), (by omega), (by omega), fk, hffk, (by omega), (by omega), (by omega), trivial⟩⟩
    · skip
      refine w_ine_f dX9_counts_4 (t := 20) rfl (by omega) ?_
      refine w_lo dX9_counts_7 rfl rfl rfl rfl ?_
      refine w_ieq_t dX9_counts_8 (t := 20) rfl (by have := zt_0; omega) ?_
      refine w_lo dX9_counts_20 rfl rfl rfl rfl ?_
      refine w_gf dX9_counts_21 rfl hJ0.1.1 zs_386 hffk ?_
      refine w_ine_f dX9_counts_24 (t := 31) rfl (by omega) ?_
      refine w_lo dX9_counts_27 rfl rfl rfl rfl ?_
      refine w_iv dX9_counts_28 rfl rfl (As := []) rfl rfl hJ0.1.1 zs_386 (Nat.le_of_ble_eq_true rfl) ?_
      refine ZV.imp (k_2310 sz hfsz (by omega) (by omega) sg hfsg (by omega) (by omega) se hfse (by omega) (by omega) fk hffk (by omega) (by omega) hN hJ0.1) ?_
      rintro _ ⟨M267, rfl, hJ268, hq269⟩
      have hJ270 := zJ_trans hJ0 hJ268 (zSub_cons (fun _ _ h h' hk => zIR_s (zIR_e (by omega) (by omega) hk)) (zSub_cons (fun _ _ h h' hk => zIR_s (zIR_s (zIR_e (by omega) (by omega) hk))) (zSub_cons (fun _ _ h h' hk => zIR_s (zIR_s (zIR_s (zIR_e (by omega) (by omega) hk)))) (zSub_cons (fun _ _ h h' hk => zIR_s (zIR_s (zIR_s (zIR_s (zIR_e (by omega) (by omega) hk))))) (zSub_cons (fun _ _ h h' hk => zIR_s (zIR_s (zIR_s (zIR_s (zIR_s (zIR_e (by omega) (by omega) hk)))))) (zSub_cons (fun _ _ h h' hk => zIR_s (zIR_s (zIR_s (zIR_s (zIR_s (zIR_s (zIR_e (by omega) (by omega) hk))))))) (zSub_cons (fun _ _ h h' hk => zIR_s (zIR_s (zIR_s (zIR_s (zIR_s (zIR_s (zIR_s (zIR_e (by omega) (by omega) hk)))))))) zSub_nil)))))))
      obtain ⟨x271, f272, h273, x274, f275, h276, h277, x278, f279, h280, h281, x282, f283, h284, h285, h286, x287, f288, h289, h290, -⟩ := hq269
      show ZW _ _ _ _ _ _ _ (31, [some (.ref 386), some (.int 0)], [], M267)
      refine w_lo dX9_counts_31 rfl rfl rfl rfl ?_
      refine w_gf dX9_counts_32 rfl hJ270.1.1 zs_386 f288 ?_
      rcases Int.decEq x287.toInt (0 : Int) with h291 | h291
      · skip
        refine w_ine_t dX9_counts_35 (t := 42) rfl (by omega) ?_
        refine w_ic dX9_counts_42 zi_0 ?_
        refine w_en dX9_counts_43 rfl ?_
        show ZW _ _ _ _ _ _ _ (23, [some (.ref 386), none], [.int 0], M267)
        refine w_ine_f dX9_boying_23 (t := 27) rfl (by have := zt_0; omega) ?_
        refine w_en dX9_boying_26 rfl ?_
        exact ⟨_, rfl, hJ270, ⟨x271, f272, (by omega), x274, f275, (by omega), (by omega), x282, f283, (by omega), (by omega), (by omega), x287, f288, (by omega), (by omega), (by omega), trivial⟩⟩
      · skip
        refine w_ine_f dX9_counts_35 (t := 42) rfl (by omega) ?_
        refine w_ic dX9_counts_38 zi_1 ?_
        refine w_gt dX9_counts_39 (t := 43) rfl ?_
        refine w_en dX9_counts_43 rfl ?_
        show ZW _ _ _ _ _ _ _ (23, [some (.ref 386), none], [.int 1], M267)
        refine w_ine_t dX9_boying_23 (t := 27) rfl (by have := zt_1; omega) ?_
        refine w_bi dX9_boying_27 (c := 12) (by decide) ?_
        refine w_lo dX9_boying_29 rfl rfl rfl rfl ?_
        have f292 := (hJ268.2 (386) 35 (zNI_k (by decide) (by decide) (zNI_k (by decide) (by decide) (zNI_k (by decide) (by decide) (zNI_k (by decide) (by decide) (zNI_k (by decide) (by decide) (zNI_k (by decide) (by decide) (zNI_k (by decide) (by decide) zNI_nil)))))))).trans (f258)
        refine w_gf dX9_boying_30 rfl hJ270.1.1 zs_386 f292 ?_
        refine w_mulc dX9_boying_33 zt_12 (by have := zt_12; omega) ?_
        intro x293 h294
        have := zt_12
        refine w_lo dX9_boying_34 rfl rfl rfl rfl ?_
        refine w_gf dX9_boying_35 rfl hJ270.1.1 zs_386 (zr_386_13 hJ270.1) ?_
        refine w_lo dX9_boying_38 rfl rfl rfl rfl ?_
        refine w_gf dX9_boying_39 rfl hJ270.1.1 zs_386 f292 ?_
        have f298 := (hJ268.2 (388) (x257 : Int32).toInt.toNat (zNI (by omega) (zNI (by omega) (zNI (by omega) (zNI (by omega) (zNI (by omega) (zNI (by omega) (zNI (by omega) zNI_nil)))))))).trans (f261)
        refine w_ia dX9_boying_42 hJ270.1.1 zs_388 (znat (by omega)) f298 ?_
        refine w_add dX9_boying_43 (by omega) ?_
        intro x299 h300
        refine w_lo (ml' := [some (.ref 386), some (.int x299)]) dX9_boying_44 rfl rfl rfl rfl ?_
        refine w_lo dX9_boying_45 rfl rfl rfl rfl ?_
        refine w_gf dX9_boying_46 rfl hJ270.1.1 zs_386 (zr_386_14 hJ270.1) ?_
        refine w_lo dX9_boying_49 rfl rfl rfl rfl ?_
        refine w_lo dX9_boying_50 rfl rfl rfl rfl ?_
        refine w_iv dX9_boying_51 rfl rfl (As := []) rfl rfl hJ270.1.1 zs_386 (Nat.le_of_ble_eq_true rfl) ?_
        refine ZV.imp (k_2318 x271 f272 (by omega) (by omega) x274 f275 (by omega) (by omega) x282 f283 (by omega) (by omega) x287 f288 (by omega) (by omega) hN hJ270.1) ?_
        rintro _ ⟨y304, M301, rfl, hJ302, hq303⟩
        have hJ305 := zJ_trans hJ270 hJ302 (zSub_cons (fun _ _ h h' hk => zIR_s (zIR_e (by omega) (by omega) hk)) (zSub_cons (fun _ _ h h' hk => zIR_s (zIR_s (zIR_e (by omega) (by omega) hk))) (zSub_cons (fun _ _ h h' hk => zIR_s (zIR_s (zIR_s (zIR_e (by omega) (by omega) hk)))) (zSub_cons (fun _ _ h h' hk => zIR_s (zIR_s (zIR_s (zIR_s (zIR_e (by omega) (by omega) hk))))) (zSub_cons (fun _ _ h h' hk => zIR_s (zIR_s (zIR_s (zIR_s (zIR_s (zIR_e (by omega) (by omega) hk)))))) (zSub_cons (fun _ _ h h' hk => zIR_s (zIR_s (zIR_s (zIR_s (zIR_s (zIR_s (zIR_e (by omega) (by omega) hk))))))) (zSub_cons (fun _ _ h h' hk => zIR_s (zIR_s (zIR_s (zIR_s (zIR_s (zIR_s (zIR_s (zIR_e (by omega) (by omega) hk)))))))) zSub_nil)))))))
        obtain ⟨x306, f307, h308, x309, f310, h311, h312, x313, f314, h315, h316, h317, x318, f319, h320, h321, h322, -⟩ := hq303
        show ZW _ _ _ _ _ _ _ (54, [some (.ref 386), some (.int x299)], [.long y304, .int x299, .ref 389], M301)
        refine w_lsi dX9_boying_54 hJ305 zs_389 (by omega) (by omega) zu_389 (zIR_a (by omega) (by omega)) ?_
        intro M323 hJ324 f325 hn326
        have f327 := (hn326 (386) 2 (Or.inl (by omega))).trans (f307)
        have f328 := (hn326 (386) 3 (Or.inl (by omega))).trans (f310)
        have f329 := (hn326 (386) 5 (Or.inl (by omega))).trans (f314)
        have f330 := (hn326 (386) 8 (Or.inl (by omega))).trans (f319)
        have f331 := (hn326 (386) 35 (Or.inl (by omega))).trans ((hJ302.2 (386) 35 (zNI_k (by decide) (by decide) (zNI_k (by decide) (by decide) (zNI_k (by decide) (by decide) (zNI_k (by decide) (by decide) (zNI_k (by decide) (by decide) (zNI_k (by decide) (by decide) (zNI_k (by decide) (by decide) zNI_nil)))))))).trans (f292))
        have f332 := (hn326 (388) (x257 : Int32).toInt.toNat (Or.inl (by omega))).trans ((hJ302.2 (388) (x257 : Int32).toInt.toNat (zNI (by omega) (zNI (by omega) (zNI (by omega) (zNI (by omega) (zNI (by omega) (zNI (by omega) (zNI (by omega) zNI_nil)))))))).trans (f298))
        exact ih55 M323 x299 x306 x309 x313 x318 x257 x264 hJ324 (by omega) (by omega) f327 (by omega) f328 (by omega) (by omega) f329 (by omega) (by omega) (by omega) f330 (by omega) (by omega) (by omega) f331 (by omega) (by omega) f332 (by omega) (by omega) (by omega)
  · skip
    refine w_cne_f dX9_boying_12 (t := 19) rfl (by have := zt_12; omega) ?_
    refine w_ic dX9_boying_15 zi_1 ?_
    refine w_gt dX9_boying_16 (t := 20) rfl ?_
    refine w_iv dX9_boying_20 rfl rfl (As := [.int 1]) rfl rfl hJ0.1.1 zs_386 (Nat.le_of_ble_eq_true rfl) ?_
    refine ZV.of (ini := false) rfl (Nat.le_of_ble_eq_true rfl) (by decide +kernel) ?_
    show ZW _ _ _ _ _ _ _ (0, [some (.ref 386), some (.int 1)], [], M0)
    refine w_lo dX9_counts_0 rfl rfl rfl rfl ?_
    refine w_gf dX9_counts_1 rfl hJ0.1.1 zs_386 hffk ?_
    rcases Int.decEq fk.toInt (0 : Int) with h333 | h333
    · skip
      refine w_ine_t dX9_counts_4 (t := 20) rfl (by omega) ?_
      refine w_lo dX9_counts_20 rfl rfl rfl rfl ?_
      refine w_gf dX9_counts_21 rfl hJ0.1.1 zs_386 hffk ?_
      refine w_ine_t dX9_counts_24 (t := 31) rfl (by omega) ?_
      refine w_lo dX9_counts_31 rfl rfl rfl rfl ?_
      refine w_gf dX9_counts_32 rfl hJ0.1.1 zs_386 hffk ?_
      refine w_ine_t dX9_counts_35 (t := 42) rfl (by omega) ?_
      refine w_ic dX9_counts_42 zi_0 ?_
      refine w_en dX9_counts_43 rfl ?_
      show ZW _ _ _ _ _ _ _ (23, [some (.ref 386), none], [.int 0], M0)
      refine w_ine_f dX9_boying_23 (t := 27) rfl (by have := zt_0; omega) ?_
      refine w_en dX9_boying_26 rfl ?_
      exact ⟨_, rfl, hJ0, ⟨sz, hfsz, (by omega), sg, hfsg, (by omega), (by omega), se, hfse, (by omega), (by omega), (by omega), fk, hffk, (by omega), (by omega), (by omega), trivial⟩⟩
    · skip
      refine w_ine_f dX9_counts_4 (t := 20) rfl (by omega) ?_
      refine w_lo dX9_counts_7 rfl rfl rfl rfl ?_
      refine w_ieq_f dX9_counts_8 (t := 20) rfl (by have := zt_1; omega) ?_
      refine w_lo dX9_counts_11 rfl rfl rfl rfl ?_
      refine w_ic dX9_counts_12 zi_5 ?_
      refine w_lo dX9_counts_13 rfl rfl rfl rfl ?_
      refine w_gfi dX9_counts_14 rfl hJ0.1 zs_386 (Nat.le_of_ble_eq_true rfl) zo_386_4 ?_
      intro x334 f335 h336 h337
      refine w_iv dX9_counts_17 rfl rfl (As := [.int 5, .int x334]) rfl rfl hJ0.1.1 zs_386 (Nat.le_of_ble_eq_true rfl) ?_
      refine ZV.of (ini := false) rfl (Nat.le_of_ble_eq_true rfl) (by decide +kernel) ?_
      show ZW _ _ _ _ _ _ _ (0, [some (.ref 386), some (.int 5), some (.int x334)], [], M0)
      refine w_lo dX9_blame_0 rfl rfl rfl rfl ?_
      refine w_gf dX9_blame_1 rfl hJ0.1.1 zs_386 hffk ?_
      refine w_ile_t dX9_blame_4 (t := 8) rfl (by omega) ?_
      refine w_lo dX9_blame_8 rfl rfl rfl rfl ?_
      refine w_lo dX9_blame_9 rfl rfl rfl rfl ?_
      refine w_pfi dX9_blame_10 rfl hJ0 zs_386 (Nat.le_of_ble_eq_true rfl) zo_386_8 (by have := zt_5; omega) (by have := zt_5; omega) (zIR_s (zIR_s (zIR_s (zIR_s (zIR_s (zIR_s (zIR_k (by omega) (by omega)))))))) rfl rfl rfl ?_
      intro M338 hJ339 f340 hn341
      refine w_lo dX9_blame_13 rfl rfl rfl rfl ?_
      refine w_lo dX9_blame_14 rfl rfl rfl rfl ?_
      refine w_pfi dX9_blame_15 rfl hJ339 zs_386 (Nat.le_of_ble_eq_true rfl) zo_386_9 (by omega) (by omega) (zIR_s (zIR_s (zIR_s (zIR_s (zIR_s (zIR_s (zIR_s (zIR_k (by omega) (by omega))))))))) rfl rfl rfl ?_
      intro M342 hJ343 f344 hn345
      refine w_en dX9_blame_18 rfl ?_
      show ZW _ _ _ _ _ _ _ (20, [some (.ref 386), some (.int 1)], [], M342)
      refine w_lo dX9_counts_20 rfl rfl rfl rfl ?_
      have f346 := (hn345 (386) 8 (Or.inr (by decide))).trans (f340)
      refine w_gf dX9_counts_21 rfl hJ343.1.1 zs_386 f346 ?_
      refine w_ine_t dX9_counts_24 (t := 31) rfl (by have := zt_5; omega) ?_
      refine w_lo dX9_counts_31 rfl rfl rfl rfl ?_
      refine w_gf dX9_counts_32 rfl hJ343.1.1 zs_386 f346 ?_
      refine w_ine_t dX9_counts_35 (t := 42) rfl (by have := zt_5; omega) ?_
      refine w_ic dX9_counts_42 zi_0 ?_
      refine w_en dX9_counts_43 rfl ?_
      show ZW _ _ _ _ _ _ _ (23, [some (.ref 386), none], [.int 0], M342)
      refine w_ine_f dX9_boying_23 (t := 27) rfl (by have := zt_0; omega) ?_
      refine w_en dX9_boying_26 rfl ?_
      have f347 := (hn345 (386) 2 (Or.inr (by decide))).trans ((hn341 (386) 2 (Or.inr (by decide))).trans (hfsz))
      have f348 := (hn345 (386) 3 (Or.inr (by decide))).trans ((hn341 (386) 3 (Or.inr (by decide))).trans (hfsg))
      have f349 := (hn345 (386) 5 (Or.inr (by decide))).trans ((hn341 (386) 5 (Or.inr (by decide))).trans (hfse))
      exact ⟨_, rfl, hJ343, ⟨sz, f347, (by omega), sg, f348, (by omega), (by omega), se, f349, (by omega), (by omega), (by omega), 5, f346, (by have := zt_5; omega), (by have := zt_5; omega), (by have := zt_5; omega), trivial⟩⟩
set_option maxRecDepth 100000 in
theorem k_2317 {X : List Int32} {d N : Nat} {M0 : zM} (a0 : Int32) (ha00 : (0 : Int) ≤ a0.toInt) (ha01 : a0.toInt ≤ 0) (sz : Int32) (hfsz : zvl M0 (386) 2 = some (.int sz)) (hrsz0 : 0 ≤ sz.toInt) (hrsz1 : sz.toInt ≤ 1600) (sg : Int32) (hfsg : zvl M0 (386) 3 = some (.int sg)) (hrsg0 : 0 ≤ sg.toInt) (hrsg1 : sg.toInt ≤ 3) (se : Int32) (hfse : zvl M0 (386) 5 = some (.int se)) (hrse0 : 0 ≤ se.toInt) (hrse1 : se.toInt ≤ sz.toInt) (fk : Int32) (hffk : zvl M0 (386) 8 = some (.int fk)) (hrfk0 : 0 ≤ fk.toInt) (hrfk1 : fk.toInt ≤ 5) (hN : N ≤ 600) (hB0 : zB N M0) : ZV X (d + 3) 2317 [.ref 386, .int a0] M0 (zRI N [(386, 387, 3), (386, 387, 4), (386, 387, 5), (386, 387, 6), (386, 387, 7), (386, 387, 8), (386, 387, 9)] M0 (0) (1) (fun v M' => (∃ nz : Int32, zvl M' (386) 2 = some (.int nz) ∧ (nz.toInt = sz.toInt) ∧ (∃ ng : Int32, zvl M' (386) 3 = some (.int ng) ∧ (0 ≤ ng.toInt) ∧ (ng.toInt ≤ 3) ∧ (∃ ne : Int32, zvl M' (386) 5 = some (.int ne) ∧ (se.toInt ≤ ne.toInt) ∧ (ne.toInt ≤ sz.toInt) ∧ (4 * (sz.toInt - ne.toInt) + ng.toInt ≤ 4 * (sz.toInt - se.toInt) + sg.toInt) ∧ (∃ nk : Int32, zvl M' (386) 8 = some (.int nk) ∧ (fk.toInt ≤ nk.toInt) ∧ (nk.toInt ≤ 5) ∧ (1 ≤ nk.toInt ∨ sg.toInt = 0 ∨ 4 * (sz.toInt - ne.toInt) + ng.toInt + 1 ≤ 4 * (sz.toInt - se.toInt) + sg.toInt) ∧ True)))))) := by
  have hJ0 : zJ N [(386, 387, 3), (386, 387, 4), (386, 387, 5), (386, 387, 6), (386, 387, 7), (386, 387, 8), (386, 387, 9)] M0 M0 := zJ_refl hB0
  refine ZV.of (ini := false) rfl (Nat.le_of_ble_eq_true rfl) (by decide +kernel) ?_
  show ZW _ _ _ _ _ _ _ (0, [some (.ref 386), some (.int a0)], [], M0)
  refine w_lo dX9_counts_0 rfl rfl rfl rfl ?_
  refine w_gf dX9_counts_1 rfl hJ0.1.1 zs_386 hffk ?_
  rcases Int.decEq fk.toInt (0 : Int) with h1 | h1
  · skip
    refine w_ine_t dX9_counts_4 (t := 20) rfl (by omega) ?_
    refine w_lo dX9_counts_20 rfl rfl rfl rfl ?_
    refine w_gf dX9_counts_21 rfl hJ0.1.1 zs_386 hffk ?_
    refine w_ine_t dX9_counts_24 (t := 31) rfl (by omega) ?_
    refine w_lo dX9_counts_31 rfl rfl rfl rfl ?_
    refine w_gf dX9_counts_32 rfl hJ0.1.1 zs_386 hffk ?_
    refine w_ine_t dX9_counts_35 (t := 42) rfl (by omega) ?_
    refine w_ic dX9_counts_42 zi_0 ?_
    refine w_en dX9_counts_43 rfl ?_
    exact ⟨_, _, rfl, (by have := zt_0; omega), (by have := zt_0; omega), hJ0, ⟨sz, hfsz, (by have := zt_0; omega), sg, hfsg, (by have := zt_0; omega), (by have := zt_0; omega), se, hfse, (by have := zt_0; omega), (by have := zt_0; omega), (by have := zt_0; omega), fk, hffk, (by have := zt_0; omega), (by have := zt_0; omega), (by have := zt_0; omega), trivial⟩⟩
  · skip
    refine w_ine_f dX9_counts_4 (t := 20) rfl (by omega) ?_
    refine w_lo dX9_counts_7 rfl rfl rfl rfl ?_
    refine w_ieq_t dX9_counts_8 (t := 20) rfl (by omega) ?_
    refine w_lo dX9_counts_20 rfl rfl rfl rfl ?_
    refine w_gf dX9_counts_21 rfl hJ0.1.1 zs_386 hffk ?_
    refine w_ine_f dX9_counts_24 (t := 31) rfl (by omega) ?_
    refine w_lo dX9_counts_27 rfl rfl rfl rfl ?_
    refine w_iv dX9_counts_28 rfl rfl (As := []) rfl rfl hJ0.1.1 zs_386 (Nat.le_of_ble_eq_true rfl) ?_
    refine ZV.imp (k_2310 sz hfsz (by omega) (by omega) sg hfsg (by omega) (by omega) se hfse (by omega) (by omega) fk hffk (by omega) (by omega) hN hJ0.1) ?_
    rintro _ ⟨M2, rfl, hJ3, hq4⟩
    have hJ5 := zJ_trans hJ0 hJ3 (zSub_cons (fun _ _ h h' hk => zIR_e (by omega) (by omega) hk) (zSub_cons (fun _ _ h h' hk => zIR_s (zIR_e (by omega) (by omega) hk)) (zSub_cons (fun _ _ h h' hk => zIR_s (zIR_s (zIR_e (by omega) (by omega) hk))) (zSub_cons (fun _ _ h h' hk => zIR_s (zIR_s (zIR_s (zIR_e (by omega) (by omega) hk)))) (zSub_cons (fun _ _ h h' hk => zIR_s (zIR_s (zIR_s (zIR_s (zIR_e (by omega) (by omega) hk))))) (zSub_cons (fun _ _ h h' hk => zIR_s (zIR_s (zIR_s (zIR_s (zIR_s (zIR_e (by omega) (by omega) hk)))))) (zSub_cons (fun _ _ h h' hk => zIR_s (zIR_s (zIR_s (zIR_s (zIR_s (zIR_s (zIR_e (by omega) (by omega) hk))))))) zSub_nil)))))))
    obtain ⟨x6, f7, h8, x9, f10, h11, h12, x13, f14, h15, h16, x17, f18, h19, h20, h21, x22, f23, h24, h25, -⟩ := hq4
    show ZW _ _ _ _ _ _ _ (31, [some (.ref 386), some (.int a0)], [], M2)
    refine w_lo dX9_counts_31 rfl rfl rfl rfl ?_
    refine w_gf dX9_counts_32 rfl hJ5.1.1 zs_386 f23 ?_
    rcases Int.decEq x22.toInt (0 : Int) with h26 | h26
    · skip
      refine w_ine_t dX9_counts_35 (t := 42) rfl (by omega) ?_
      refine w_ic dX9_counts_42 zi_0 ?_
      refine w_en dX9_counts_43 rfl ?_
      exact ⟨_, _, rfl, (by have := zt_0; omega), (by have := zt_0; omega), hJ5, ⟨x6, f7, (by have := zt_0; omega), x9, f10, (by have := zt_0; omega), (by have := zt_0; omega), x17, f18, (by have := zt_0; omega), (by have := zt_0; omega), (by have := zt_0; omega), x22, f23, (by have := zt_0; omega), (by have := zt_0; omega), (by have := zt_0; omega), trivial⟩⟩
    · skip
      refine w_ine_f dX9_counts_35 (t := 42) rfl (by omega) ?_
      refine w_ic dX9_counts_38 zi_1 ?_
      refine w_gt dX9_counts_39 (t := 43) rfl ?_
      refine w_en dX9_counts_43 rfl ?_
      exact ⟨_, _, rfl, (by have := zt_1; omega), (by have := zt_1; omega), hJ5, ⟨x6, f7, (by have := zt_1; omega), x9, f10, (by have := zt_1; omega), (by have := zt_1; omega), x17, f18, (by have := zt_1; omega), (by have := zt_1; omega), (by have := zt_1; omega), x22, f23, (by have := zt_1; omega), (by have := zt_1; omega), (by have := zt_1; omega), trivial⟩⟩
