/-! the first call: feed; the calls without arguments (wip/p1/mk24.py) -/
theorem zp_0 (a1 a2 a3 a4 a5 : Int32) : ∃ (v : Int32) (M1 M2 : zM), ZC [] 11 2049 [.ref 0, .int a1, .int a2, .int a3, .int a4, .int a5] zM0 (some (.int v), M1) ∧ ZC [] 11 2305 [.ref 386, .int a1, .int a2, .int a3, .int a4, .int a5] M1 (some (.int v), M2) ∧ zSh M1 ∧ zSh M2 := by
  refine zp_of ?_
  refine ZV.of (ini := false) rfl (Nat.le_of_ble_eq_true rfl) (by decide +kernel) ?_
  show ZW _ 10 8 false (some .int) cX8_feed _ (0, [some (.ref 0), some (.int a1), some (.int a2), some (.int a3), some (.int a4), some (.int a5)], [], zM0)
  refine w_lo dX8_feed_0 rfl rfl rfl rfl ?_
  refine w_gf dX8_feed_1 rfl zU_0.1 rfl ((zU_0).2 0 1 rfl |>.trans zq_0_1) ?_
  refine w_bi dX8_feed_4 (c := 20) (by decide) ?_
  refine w_pu (st' := [.int 20]) dX8_feed_6 rfl rfl ?_
  refine w_si dX8_feed_7 (c := 1600) (by decide) ?_
  refine w_cle_t dX8_feed_10 (t := 20) rfl (by decide) ?_
  refine w_lo dX8_feed_20 rfl rfl rfl rfl ?_
  refine w_lo dX8_feed_21 rfl rfl rfl rfl ?_
  refine w_iv dX8_feed_22 rfl rfl (As := [.int a1]) rfl rfl zU_0.1 rfl (Nat.le_of_ble_eq_true rfl) ?_
  refine ZV.of (ini := false) rfl (Nat.le_of_ble_eq_true rfl) (by decide +kernel) ?_
  show ZW _ 9 8 false none cX8_putOnTape _ (0, [some (.ref 0), some (.int a1), none], [], zM0)
  refine w_bi dX8_putOnTape_0 (c := 24) (by decide) ?_
  refine w_lo dX8_putOnTape_2 rfl rfl rfl rfl ?_
  refine w_lo dX8_putOnTape_3 rfl rfl rfl rfl ?_
  refine w_ilt_f dX8_putOnTape_4 (t := 49) rfl (by decide) ?_
  refine w_lo dX8_putOnTape_7 rfl rfl rfl rfl ?_
  refine w_gf dX8_putOnTape_8 rfl zU_0.1 rfl ((zU_0).2 0 1 rfl |>.trans zq_0_1) ?_
  refine w_si dX8_putOnTape_11 (c := 1600) (by decide) ?_
  refine w_cge_f dX8_putOnTape_14 (t := 49) rfl (by decide) ?_
  refine w_lo dX8_putOnTape_17 rfl rfl rfl rfl ?_
  refine w_gf dX8_putOnTape_18 rfl zU_0.1 rfl ((zU_0).2 0 0 rfl |>.trans zq_0_0) ?_
  refine w_lo dX8_putOnTape_21 rfl rfl rfl rfl ?_
  refine w_gf dX8_putOnTape_22 rfl zU_0.1 rfl ((zU_0).2 0 1 rfl |>.trans zq_0_1) ?_
  refine w_lo dX8_putOnTape_25 rfl rfl rfl rfl ?_
  refine w_lo dX8_putOnTape_26 rfl rfl rfl rfl ?_
  refine w_pu (st' := [.int (a1 >>> (24 &&& 31)), .int 0, .ref 1]) dX8_putOnTape_27 rfl rfl ?_
  refine w_si dX8_putOnTape_28 (c := 255) (by decide) ?_
  refine w_pu (st' := [.int ((a1 >>> (24 &&& 31)) &&& 255), .int 0, .ref 1]) dX8_putOnTape_31 rfl rfl ?_
  refine w_is dX8_putOnTape_32 zU_0 rfl (k := 0) zt_0 (Nat.le_of_ble_eq_true rfl) ?_
  intro M239 hU240 hv241 hn242
  refine w_lo dX8_putOnTape_33 rfl rfl rfl rfl ?_
  refine w_pu dX8_putOnTape_34 rfl rfl ?_
  refine w_gf dX8_putOnTape_35 rfl hU240.1 rfl ((hU240).2 0 1 rfl |>.trans zq_0_1) ?_
  refine w_ic dX8_putOnTape_38 zi_1 ?_
  refine w_pu (st' := [.int 1, .ref 0]) dX8_putOnTape_39 rfl rfl ?_
  refine w_pf dX8_putOnTape_40 rfl hU240 rfl (Nat.le_of_ble_eq_true rfl) rfl rfl rfl ?_
  intro M243 hU244 hv245 hn246
  refine w_lo (ml' := [some (.ref 0), some (.int a1), some (.int 16)]) dX8_putOnTape_43 rfl rfl rfl rfl ?_
  refine w_gt dX8_putOnTape_46 (t := 3) rfl ?_
  refine w_lo dX8_putOnTape_3 rfl rfl rfl rfl ?_
  refine w_ilt_f dX8_putOnTape_4 (t := 49) rfl (by decide) ?_
  refine w_lo dX8_putOnTape_7 rfl rfl rfl rfl ?_
  refine w_gf dX8_putOnTape_8 rfl hU244.1 rfl hv245 ?_
  refine w_si dX8_putOnTape_11 (c := 1600) (by decide) ?_
  refine w_cge_f dX8_putOnTape_14 (t := 49) rfl (by decide) ?_
  refine w_lo dX8_putOnTape_17 rfl rfl rfl rfl ?_
  refine w_gf dX8_putOnTape_18 rfl hU244.1 rfl ((hU244).2 0 0 rfl |>.trans zq_0_0) ?_
  refine w_lo dX8_putOnTape_21 rfl rfl rfl rfl ?_
  refine w_gf dX8_putOnTape_22 rfl hU244.1 rfl hv245 ?_
  refine w_lo dX8_putOnTape_25 rfl rfl rfl rfl ?_
  refine w_lo dX8_putOnTape_26 rfl rfl rfl rfl ?_
  refine w_pu (st' := [.int (a1 >>> (16 &&& 31)), .int 1, .ref 1]) dX8_putOnTape_27 rfl rfl ?_
  refine w_si dX8_putOnTape_28 (c := 255) (by decide) ?_
  refine w_pu (st' := [.int ((a1 >>> (16 &&& 31)) &&& 255), .int 1, .ref 1]) dX8_putOnTape_31 rfl rfl ?_
  refine w_is dX8_putOnTape_32 hU244 rfl (k := 1) zt_1 (Nat.le_of_ble_eq_true rfl) ?_
  intro M247 hU248 hv249 hn250
  have f251 := (hn250 0 1 (by decide)).trans hv245
  refine w_lo dX8_putOnTape_33 rfl rfl rfl rfl ?_
  refine w_pu dX8_putOnTape_34 rfl rfl ?_
  refine w_gf dX8_putOnTape_35 rfl hU248.1 rfl f251 ?_
  refine w_ic dX8_putOnTape_38 zi_1 ?_
  refine w_pu (st' := [.int 2, .ref 0]) dX8_putOnTape_39 rfl rfl ?_
  refine w_pf dX8_putOnTape_40 rfl hU248 rfl (Nat.le_of_ble_eq_true rfl) rfl rfl rfl ?_
  intro M252 hU253 hv254 hn255
  refine w_lo (ml' := [some (.ref 0), some (.int a1), some (.int 8)]) dX8_putOnTape_43 rfl rfl rfl rfl ?_
  refine w_gt dX8_putOnTape_46 (t := 3) rfl ?_
  refine w_lo dX8_putOnTape_3 rfl rfl rfl rfl ?_
  refine w_ilt_f dX8_putOnTape_4 (t := 49) rfl (by decide) ?_
  refine w_lo dX8_putOnTape_7 rfl rfl rfl rfl ?_
  refine w_gf dX8_putOnTape_8 rfl hU253.1 rfl hv254 ?_
  refine w_si dX8_putOnTape_11 (c := 1600) (by decide) ?_
  refine w_cge_f dX8_putOnTape_14 (t := 49) rfl (by decide) ?_
  refine w_lo dX8_putOnTape_17 rfl rfl rfl rfl ?_
  refine w_gf dX8_putOnTape_18 rfl hU253.1 rfl ((hU253).2 0 0 rfl |>.trans zq_0_0) ?_
  refine w_lo dX8_putOnTape_21 rfl rfl rfl rfl ?_
  refine w_gf dX8_putOnTape_22 rfl hU253.1 rfl hv254 ?_
  refine w_lo dX8_putOnTape_25 rfl rfl rfl rfl ?_
  refine w_lo dX8_putOnTape_26 rfl rfl rfl rfl ?_
  refine w_pu (st' := [.int (a1 >>> (8 &&& 31)), .int 2, .ref 1]) dX8_putOnTape_27 rfl rfl ?_
  refine w_si dX8_putOnTape_28 (c := 255) (by decide) ?_
  refine w_pu (st' := [.int ((a1 >>> (8 &&& 31)) &&& 255), .int 2, .ref 1]) dX8_putOnTape_31 rfl rfl ?_
  refine w_is dX8_putOnTape_32 hU253 rfl (k := 2) zt_2 (Nat.le_of_ble_eq_true rfl) ?_
  intro M256 hU257 hv258 hn259
  have f260 := (hn259 0 1 (by decide)).trans hv254
  refine w_lo dX8_putOnTape_33 rfl rfl rfl rfl ?_
  refine w_pu dX8_putOnTape_34 rfl rfl ?_
  refine w_gf dX8_putOnTape_35 rfl hU257.1 rfl f260 ?_
  refine w_ic dX8_putOnTape_38 zi_1 ?_
  refine w_pu (st' := [.int 3, .ref 0]) dX8_putOnTape_39 rfl rfl ?_
  refine w_pf dX8_putOnTape_40 rfl hU257 rfl (Nat.le_of_ble_eq_true rfl) rfl rfl rfl ?_
  intro M261 hU262 hv263 hn264
  refine w_lo (ml' := [some (.ref 0), some (.int a1), some (.int 0)]) dX8_putOnTape_43 rfl rfl rfl rfl ?_
  refine w_gt dX8_putOnTape_46 (t := 3) rfl ?_
  refine w_lo dX8_putOnTape_3 rfl rfl rfl rfl ?_
  refine w_ilt_f dX8_putOnTape_4 (t := 49) rfl (by decide) ?_
  refine w_lo dX8_putOnTape_7 rfl rfl rfl rfl ?_
  refine w_gf dX8_putOnTape_8 rfl hU262.1 rfl hv263 ?_
  refine w_si dX8_putOnTape_11 (c := 1600) (by decide) ?_
  refine w_cge_f dX8_putOnTape_14 (t := 49) rfl (by decide) ?_
  refine w_lo dX8_putOnTape_17 rfl rfl rfl rfl ?_
  refine w_gf dX8_putOnTape_18 rfl hU262.1 rfl ((hU262).2 0 0 rfl |>.trans zq_0_0) ?_
  refine w_lo dX8_putOnTape_21 rfl rfl rfl rfl ?_
  refine w_gf dX8_putOnTape_22 rfl hU262.1 rfl hv263 ?_
  refine w_lo dX8_putOnTape_25 rfl rfl rfl rfl ?_
  refine w_lo dX8_putOnTape_26 rfl rfl rfl rfl ?_
  refine w_pu (st' := [.int (a1 >>> (0 &&& 31)), .int 3, .ref 1]) dX8_putOnTape_27 rfl rfl ?_
  refine w_si dX8_putOnTape_28 (c := 255) (by decide) ?_
  refine w_pu (st' := [.int ((a1 >>> (0 &&& 31)) &&& 255), .int 3, .ref 1]) dX8_putOnTape_31 rfl rfl ?_
  refine w_is dX8_putOnTape_32 hU262 rfl (k := 3) zt_3 (Nat.le_of_ble_eq_true rfl) ?_
  intro M265 hU266 hv267 hn268
  have f269 := (hn268 0 1 (by decide)).trans hv263
  refine w_lo dX8_putOnTape_33 rfl rfl rfl rfl ?_
  refine w_pu dX8_putOnTape_34 rfl rfl ?_
  refine w_gf dX8_putOnTape_35 rfl hU266.1 rfl f269 ?_
  refine w_ic dX8_putOnTape_38 zi_1 ?_
  refine w_pu (st' := [.int 4, .ref 0]) dX8_putOnTape_39 rfl rfl ?_
  refine w_pf dX8_putOnTape_40 rfl hU266 rfl (Nat.le_of_ble_eq_true rfl) rfl rfl rfl ?_
  intro M270 hU271 hv272 hn273
  refine w_lo (ml' := [some (.ref 0), some (.int a1), some (.int (-8))]) dX8_putOnTape_43 rfl rfl rfl rfl ?_
  refine w_gt dX8_putOnTape_46 (t := 3) rfl ?_
  refine w_lo dX8_putOnTape_3 rfl rfl rfl rfl ?_
  refine w_ilt_t dX8_putOnTape_4 (t := 49) rfl (by decide) ?_
  refine w_en dX8_putOnTape_49 rfl ?_
  show ZW _ 10 8 false (some .int) cX8_feed _ (25, [some (.ref 0), some (.int a1), some (.int a2), some (.int a3), some (.int a4), some (.int a5)], [], M270)
  refine w_lo dX8_feed_25 rfl rfl rfl rfl ?_
  refine w_lo dX8_feed_26 rfl rfl rfl rfl ?_
  refine w_iv dX8_feed_27 rfl rfl (As := [.int a2]) rfl rfl hU271.1 rfl (Nat.le_of_ble_eq_true rfl) ?_
  refine ZV.of (ini := false) rfl (Nat.le_of_ble_eq_true rfl) (by decide +kernel) ?_
  show ZW _ 9 8 false none cX8_putOnTape _ (0, [some (.ref 0), some (.int a2), none], [], M270)
  refine w_bi dX8_putOnTape_0 (c := 24) (by decide) ?_
  refine w_lo dX8_putOnTape_2 rfl rfl rfl rfl ?_
  refine w_lo dX8_putOnTape_3 rfl rfl rfl rfl ?_
  refine w_ilt_f dX8_putOnTape_4 (t := 49) rfl (by decide) ?_
  refine w_lo dX8_putOnTape_7 rfl rfl rfl rfl ?_
  refine w_gf dX8_putOnTape_8 rfl hU271.1 rfl hv272 ?_
  refine w_si dX8_putOnTape_11 (c := 1600) (by decide) ?_
  refine w_cge_f dX8_putOnTape_14 (t := 49) rfl (by decide) ?_
  refine w_lo dX8_putOnTape_17 rfl rfl rfl rfl ?_
  refine w_gf dX8_putOnTape_18 rfl hU271.1 rfl ((hU271).2 0 0 rfl |>.trans zq_0_0) ?_
  refine w_lo dX8_putOnTape_21 rfl rfl rfl rfl ?_
  refine w_gf dX8_putOnTape_22 rfl hU271.1 rfl hv272 ?_
  refine w_lo dX8_putOnTape_25 rfl rfl rfl rfl ?_
  refine w_lo dX8_putOnTape_26 rfl rfl rfl rfl ?_
  refine w_pu (st' := [.int (a2 >>> (24 &&& 31)), .int 4, .ref 1]) dX8_putOnTape_27 rfl rfl ?_
  refine w_si dX8_putOnTape_28 (c := 255) (by decide) ?_
  refine w_pu (st' := [.int ((a2 >>> (24 &&& 31)) &&& 255), .int 4, .ref 1]) dX8_putOnTape_31 rfl rfl ?_
  refine w_is dX8_putOnTape_32 hU271 rfl (k := 4) zt_4 (Nat.le_of_ble_eq_true rfl) ?_
  intro M274 hU275 hv276 hn277
  have f278 := (hn277 0 1 (by decide)).trans hv272
  refine w_lo dX8_putOnTape_33 rfl rfl rfl rfl ?_
  refine w_pu dX8_putOnTape_34 rfl rfl ?_
  refine w_gf dX8_putOnTape_35 rfl hU275.1 rfl f278 ?_
  refine w_ic dX8_putOnTape_38 zi_1 ?_
  refine w_pu (st' := [.int 5, .ref 0]) dX8_putOnTape_39 rfl rfl ?_
  refine w_pf dX8_putOnTape_40 rfl hU275 rfl (Nat.le_of_ble_eq_true rfl) rfl rfl rfl ?_
  intro M279 hU280 hv281 hn282
  refine w_lo (ml' := [some (.ref 0), some (.int a2), some (.int 16)]) dX8_putOnTape_43 rfl rfl rfl rfl ?_
  refine w_gt dX8_putOnTape_46 (t := 3) rfl ?_
  refine w_lo dX8_putOnTape_3 rfl rfl rfl rfl ?_
  refine w_ilt_f dX8_putOnTape_4 (t := 49) rfl (by decide) ?_
  refine w_lo dX8_putOnTape_7 rfl rfl rfl rfl ?_
  refine w_gf dX8_putOnTape_8 rfl hU280.1 rfl hv281 ?_
  refine w_si dX8_putOnTape_11 (c := 1600) (by decide) ?_
  refine w_cge_f dX8_putOnTape_14 (t := 49) rfl (by decide) ?_
  refine w_lo dX8_putOnTape_17 rfl rfl rfl rfl ?_
  refine w_gf dX8_putOnTape_18 rfl hU280.1 rfl ((hU280).2 0 0 rfl |>.trans zq_0_0) ?_
  refine w_lo dX8_putOnTape_21 rfl rfl rfl rfl ?_
  refine w_gf dX8_putOnTape_22 rfl hU280.1 rfl hv281 ?_
  refine w_lo dX8_putOnTape_25 rfl rfl rfl rfl ?_
  refine w_lo dX8_putOnTape_26 rfl rfl rfl rfl ?_
  refine w_pu (st' := [.int (a2 >>> (16 &&& 31)), .int 5, .ref 1]) dX8_putOnTape_27 rfl rfl ?_
  refine w_si dX8_putOnTape_28 (c := 255) (by decide) ?_
  refine w_pu (st' := [.int ((a2 >>> (16 &&& 31)) &&& 255), .int 5, .ref 1]) dX8_putOnTape_31 rfl rfl ?_
  refine w_is dX8_putOnTape_32 hU280 rfl (k := 5) zt_5 (Nat.le_of_ble_eq_true rfl) ?_
  intro M283 hU284 hv285 hn286
  have f287 := (hn286 0 1 (by decide)).trans hv281
  refine w_lo dX8_putOnTape_33 rfl rfl rfl rfl ?_
  refine w_pu dX8_putOnTape_34 rfl rfl ?_
  refine w_gf dX8_putOnTape_35 rfl hU284.1 rfl f287 ?_
  refine w_ic dX8_putOnTape_38 zi_1 ?_
  refine w_pu (st' := [.int 6, .ref 0]) dX8_putOnTape_39 rfl rfl ?_
  refine w_pf dX8_putOnTape_40 rfl hU284 rfl (Nat.le_of_ble_eq_true rfl) rfl rfl rfl ?_
  intro M288 hU289 hv290 hn291
  refine w_lo (ml' := [some (.ref 0), some (.int a2), some (.int 8)]) dX8_putOnTape_43 rfl rfl rfl rfl ?_
  refine w_gt dX8_putOnTape_46 (t := 3) rfl ?_
  refine w_lo dX8_putOnTape_3 rfl rfl rfl rfl ?_
  refine w_ilt_f dX8_putOnTape_4 (t := 49) rfl (by decide) ?_
  refine w_lo dX8_putOnTape_7 rfl rfl rfl rfl ?_
  refine w_gf dX8_putOnTape_8 rfl hU289.1 rfl hv290 ?_
  refine w_si dX8_putOnTape_11 (c := 1600) (by decide) ?_
  refine w_cge_f dX8_putOnTape_14 (t := 49) rfl (by decide) ?_
  refine w_lo dX8_putOnTape_17 rfl rfl rfl rfl ?_
  refine w_gf dX8_putOnTape_18 rfl hU289.1 rfl ((hU289).2 0 0 rfl |>.trans zq_0_0) ?_
  refine w_lo dX8_putOnTape_21 rfl rfl rfl rfl ?_
  refine w_gf dX8_putOnTape_22 rfl hU289.1 rfl hv290 ?_
  refine w_lo dX8_putOnTape_25 rfl rfl rfl rfl ?_
  refine w_lo dX8_putOnTape_26 rfl rfl rfl rfl ?_
  refine w_pu (st' := [.int (a2 >>> (8 &&& 31)), .int 6, .ref 1]) dX8_putOnTape_27 rfl rfl ?_
  refine w_si dX8_putOnTape_28 (c := 255) (by decide) ?_
  refine w_pu (st' := [.int ((a2 >>> (8 &&& 31)) &&& 255), .int 6, .ref 1]) dX8_putOnTape_31 rfl rfl ?_
  refine w_is dX8_putOnTape_32 hU289 rfl (k := 6) zt_6 (Nat.le_of_ble_eq_true rfl) ?_
  intro M292 hU293 hv294 hn295
  have f296 := (hn295 0 1 (by decide)).trans hv290
  refine w_lo dX8_putOnTape_33 rfl rfl rfl rfl ?_
  refine w_pu dX8_putOnTape_34 rfl rfl ?_
  refine w_gf dX8_putOnTape_35 rfl hU293.1 rfl f296 ?_
  refine w_ic dX8_putOnTape_38 zi_1 ?_
  refine w_pu (st' := [.int 7, .ref 0]) dX8_putOnTape_39 rfl rfl ?_
  refine w_pf dX8_putOnTape_40 rfl hU293 rfl (Nat.le_of_ble_eq_true rfl) rfl rfl rfl ?_
  intro M297 hU298 hv299 hn300
  refine w_lo (ml' := [some (.ref 0), some (.int a2), some (.int 0)]) dX8_putOnTape_43 rfl rfl rfl rfl ?_
  refine w_gt dX8_putOnTape_46 (t := 3) rfl ?_
  refine w_lo dX8_putOnTape_3 rfl rfl rfl rfl ?_
  refine w_ilt_f dX8_putOnTape_4 (t := 49) rfl (by decide) ?_
  refine w_lo dX8_putOnTape_7 rfl rfl rfl rfl ?_
  refine w_gf dX8_putOnTape_8 rfl hU298.1 rfl hv299 ?_
  refine w_si dX8_putOnTape_11 (c := 1600) (by decide) ?_
  refine w_cge_f dX8_putOnTape_14 (t := 49) rfl (by decide) ?_
  refine w_lo dX8_putOnTape_17 rfl rfl rfl rfl ?_
  refine w_gf dX8_putOnTape_18 rfl hU298.1 rfl ((hU298).2 0 0 rfl |>.trans zq_0_0) ?_
  refine w_lo dX8_putOnTape_21 rfl rfl rfl rfl ?_
  refine w_gf dX8_putOnTape_22 rfl hU298.1 rfl hv299 ?_
  refine w_lo dX8_putOnTape_25 rfl rfl rfl rfl ?_
  refine w_lo dX8_putOnTape_26 rfl rfl rfl rfl ?_
  refine w_pu (st' := [.int (a2 >>> (0 &&& 31)), .int 7, .ref 1]) dX8_putOnTape_27 rfl rfl ?_
  refine w_si dX8_putOnTape_28 (c := 255) (by decide) ?_
  refine w_pu (st' := [.int ((a2 >>> (0 &&& 31)) &&& 255), .int 7, .ref 1]) dX8_putOnTape_31 rfl rfl ?_
  refine w_is dX8_putOnTape_32 hU298 rfl (k := 7) zt_7 (Nat.le_of_ble_eq_true rfl) ?_
  intro M301 hU302 hv303 hn304
  have f305 := (hn304 0 1 (by decide)).trans hv299
  refine w_lo dX8_putOnTape_33 rfl rfl rfl rfl ?_
  refine w_pu dX8_putOnTape_34 rfl rfl ?_
  refine w_gf dX8_putOnTape_35 rfl hU302.1 rfl f305 ?_
  refine w_ic dX8_putOnTape_38 zi_1 ?_
  refine w_pu (st' := [.int 8, .ref 0]) dX8_putOnTape_39 rfl rfl ?_
  refine w_pf dX8_putOnTape_40 rfl hU302 rfl (Nat.le_of_ble_eq_true rfl) rfl rfl rfl ?_
  intro M306 hU307 hv308 hn309
  refine w_lo (ml' := [some (.ref 0), some (.int a2), some (.int (-8))]) dX8_putOnTape_43 rfl rfl rfl rfl ?_
  refine w_gt dX8_putOnTape_46 (t := 3) rfl ?_
  refine w_lo dX8_putOnTape_3 rfl rfl rfl rfl ?_
  refine w_ilt_t dX8_putOnTape_4 (t := 49) rfl (by decide) ?_
  refine w_en dX8_putOnTape_49 rfl ?_
  show ZW _ 10 8 false (some .int) cX8_feed _ (30, [some (.ref 0), some (.int a1), some (.int a2), some (.int a3), some (.int a4), some (.int a5)], [], M306)
  refine w_lo dX8_feed_30 rfl rfl rfl rfl ?_
  refine w_lo dX8_feed_31 rfl rfl rfl rfl ?_
  refine w_iv dX8_feed_32 rfl rfl (As := [.int a3]) rfl rfl hU307.1 rfl (Nat.le_of_ble_eq_true rfl) ?_
  refine ZV.of (ini := false) rfl (Nat.le_of_ble_eq_true rfl) (by decide +kernel) ?_
  show ZW _ 9 8 false none cX8_putOnTape _ (0, [some (.ref 0), some (.int a3), none], [], M306)
  refine w_bi dX8_putOnTape_0 (c := 24) (by decide) ?_
  refine w_lo dX8_putOnTape_2 rfl rfl rfl rfl ?_
  refine w_lo dX8_putOnTape_3 rfl rfl rfl rfl ?_
  refine w_ilt_f dX8_putOnTape_4 (t := 49) rfl (by decide) ?_
  refine w_lo dX8_putOnTape_7 rfl rfl rfl rfl ?_
  refine w_gf dX8_putOnTape_8 rfl hU307.1 rfl hv308 ?_
  refine w_si dX8_putOnTape_11 (c := 1600) (by decide) ?_
  refine w_cge_f dX8_putOnTape_14 (t := 49) rfl (by decide) ?_
  refine w_lo dX8_putOnTape_17 rfl rfl rfl rfl ?_
  refine w_gf dX8_putOnTape_18 rfl hU307.1 rfl ((hU307).2 0 0 rfl |>.trans zq_0_0) ?_
  refine w_lo dX8_putOnTape_21 rfl rfl rfl rfl ?_
  refine w_gf dX8_putOnTape_22 rfl hU307.1 rfl hv308 ?_
  refine w_lo dX8_putOnTape_25 rfl rfl rfl rfl ?_
  refine w_lo dX8_putOnTape_26 rfl rfl rfl rfl ?_
  refine w_pu (st' := [.int (a3 >>> (24 &&& 31)), .int 8, .ref 1]) dX8_putOnTape_27 rfl rfl ?_
  refine w_si dX8_putOnTape_28 (c := 255) (by decide) ?_
  refine w_pu (st' := [.int ((a3 >>> (24 &&& 31)) &&& 255), .int 8, .ref 1]) dX8_putOnTape_31 rfl rfl ?_
  refine w_is dX8_putOnTape_32 hU307 rfl (k := 8) zt_8 (Nat.le_of_ble_eq_true rfl) ?_
  intro M310 hU311 hv312 hn313
  have f314 := (hn313 0 1 (by decide)).trans hv308
  refine w_lo dX8_putOnTape_33 rfl rfl rfl rfl ?_
  refine w_pu dX8_putOnTape_34 rfl rfl ?_
  refine w_gf dX8_putOnTape_35 rfl hU311.1 rfl f314 ?_
  refine w_ic dX8_putOnTape_38 zi_1 ?_
  refine w_pu (st' := [.int 9, .ref 0]) dX8_putOnTape_39 rfl rfl ?_
  refine w_pf dX8_putOnTape_40 rfl hU311 rfl (Nat.le_of_ble_eq_true rfl) rfl rfl rfl ?_
  intro M315 hU316 hv317 hn318
  refine w_lo (ml' := [some (.ref 0), some (.int a3), some (.int 16)]) dX8_putOnTape_43 rfl rfl rfl rfl ?_
  refine w_gt dX8_putOnTape_46 (t := 3) rfl ?_
  refine w_lo dX8_putOnTape_3 rfl rfl rfl rfl ?_
  refine w_ilt_f dX8_putOnTape_4 (t := 49) rfl (by decide) ?_
  refine w_lo dX8_putOnTape_7 rfl rfl rfl rfl ?_
  refine w_gf dX8_putOnTape_8 rfl hU316.1 rfl hv317 ?_
  refine w_si dX8_putOnTape_11 (c := 1600) (by decide) ?_
  refine w_cge_f dX8_putOnTape_14 (t := 49) rfl (by decide) ?_
  refine w_lo dX8_putOnTape_17 rfl rfl rfl rfl ?_
  refine w_gf dX8_putOnTape_18 rfl hU316.1 rfl ((hU316).2 0 0 rfl |>.trans zq_0_0) ?_
  refine w_lo dX8_putOnTape_21 rfl rfl rfl rfl ?_
  refine w_gf dX8_putOnTape_22 rfl hU316.1 rfl hv317 ?_
  refine w_lo dX8_putOnTape_25 rfl rfl rfl rfl ?_
  refine w_lo dX8_putOnTape_26 rfl rfl rfl rfl ?_
  refine w_pu (st' := [.int (a3 >>> (16 &&& 31)), .int 9, .ref 1]) dX8_putOnTape_27 rfl rfl ?_
  refine w_si dX8_putOnTape_28 (c := 255) (by decide) ?_
  refine w_pu (st' := [.int ((a3 >>> (16 &&& 31)) &&& 255), .int 9, .ref 1]) dX8_putOnTape_31 rfl rfl ?_
  refine w_is dX8_putOnTape_32 hU316 rfl (k := 9) zt_9 (Nat.le_of_ble_eq_true rfl) ?_
  intro M319 hU320 hv321 hn322
  have f323 := (hn322 0 1 (by decide)).trans hv317
  refine w_lo dX8_putOnTape_33 rfl rfl rfl rfl ?_
  refine w_pu dX8_putOnTape_34 rfl rfl ?_
  refine w_gf dX8_putOnTape_35 rfl hU320.1 rfl f323 ?_
  refine w_ic dX8_putOnTape_38 zi_1 ?_
  refine w_pu (st' := [.int 10, .ref 0]) dX8_putOnTape_39 rfl rfl ?_
  refine w_pf dX8_putOnTape_40 rfl hU320 rfl (Nat.le_of_ble_eq_true rfl) rfl rfl rfl ?_
  intro M324 hU325 hv326 hn327
  refine w_lo (ml' := [some (.ref 0), some (.int a3), some (.int 8)]) dX8_putOnTape_43 rfl rfl rfl rfl ?_
  refine w_gt dX8_putOnTape_46 (t := 3) rfl ?_
  refine w_lo dX8_putOnTape_3 rfl rfl rfl rfl ?_
  refine w_ilt_f dX8_putOnTape_4 (t := 49) rfl (by decide) ?_
  refine w_lo dX8_putOnTape_7 rfl rfl rfl rfl ?_
  refine w_gf dX8_putOnTape_8 rfl hU325.1 rfl hv326 ?_
  refine w_si dX8_putOnTape_11 (c := 1600) (by decide) ?_
  refine w_cge_f dX8_putOnTape_14 (t := 49) rfl (by decide) ?_
  refine w_lo dX8_putOnTape_17 rfl rfl rfl rfl ?_
  refine w_gf dX8_putOnTape_18 rfl hU325.1 rfl ((hU325).2 0 0 rfl |>.trans zq_0_0) ?_
  refine w_lo dX8_putOnTape_21 rfl rfl rfl rfl ?_
  refine w_gf dX8_putOnTape_22 rfl hU325.1 rfl hv326 ?_
  refine w_lo dX8_putOnTape_25 rfl rfl rfl rfl ?_
  refine w_lo dX8_putOnTape_26 rfl rfl rfl rfl ?_
  refine w_pu (st' := [.int (a3 >>> (8 &&& 31)), .int 10, .ref 1]) dX8_putOnTape_27 rfl rfl ?_
  refine w_si dX8_putOnTape_28 (c := 255) (by decide) ?_
  refine w_pu (st' := [.int ((a3 >>> (8 &&& 31)) &&& 255), .int 10, .ref 1]) dX8_putOnTape_31 rfl rfl ?_
  refine w_is dX8_putOnTape_32 hU325 rfl (k := 10) zt_10 (Nat.le_of_ble_eq_true rfl) ?_
  intro M328 hU329 hv330 hn331
  have f332 := (hn331 0 1 (by decide)).trans hv326
  refine w_lo dX8_putOnTape_33 rfl rfl rfl rfl ?_
  refine w_pu dX8_putOnTape_34 rfl rfl ?_
  refine w_gf dX8_putOnTape_35 rfl hU329.1 rfl f332 ?_
  refine w_ic dX8_putOnTape_38 zi_1 ?_
  refine w_pu (st' := [.int 11, .ref 0]) dX8_putOnTape_39 rfl rfl ?_
  refine w_pf dX8_putOnTape_40 rfl hU329 rfl (Nat.le_of_ble_eq_true rfl) rfl rfl rfl ?_
  intro M333 hU334 hv335 hn336
  refine w_lo (ml' := [some (.ref 0), some (.int a3), some (.int 0)]) dX8_putOnTape_43 rfl rfl rfl rfl ?_
  refine w_gt dX8_putOnTape_46 (t := 3) rfl ?_
  refine w_lo dX8_putOnTape_3 rfl rfl rfl rfl ?_
  refine w_ilt_f dX8_putOnTape_4 (t := 49) rfl (by decide) ?_
  refine w_lo dX8_putOnTape_7 rfl rfl rfl rfl ?_
  refine w_gf dX8_putOnTape_8 rfl hU334.1 rfl hv335 ?_
  refine w_si dX8_putOnTape_11 (c := 1600) (by decide) ?_
  refine w_cge_f dX8_putOnTape_14 (t := 49) rfl (by decide) ?_
  refine w_lo dX8_putOnTape_17 rfl rfl rfl rfl ?_
  refine w_gf dX8_putOnTape_18 rfl hU334.1 rfl ((hU334).2 0 0 rfl |>.trans zq_0_0) ?_
  refine w_lo dX8_putOnTape_21 rfl rfl rfl rfl ?_
  refine w_gf dX8_putOnTape_22 rfl hU334.1 rfl hv335 ?_
  refine w_lo dX8_putOnTape_25 rfl rfl rfl rfl ?_
  refine w_lo dX8_putOnTape_26 rfl rfl rfl rfl ?_
  refine w_pu (st' := [.int (a3 >>> (0 &&& 31)), .int 11, .ref 1]) dX8_putOnTape_27 rfl rfl ?_
  refine w_si dX8_putOnTape_28 (c := 255) (by decide) ?_
  refine w_pu (st' := [.int ((a3 >>> (0 &&& 31)) &&& 255), .int 11, .ref 1]) dX8_putOnTape_31 rfl rfl ?_
  refine w_is dX8_putOnTape_32 hU334 rfl (k := 11) zt_11 (Nat.le_of_ble_eq_true rfl) ?_
  intro M337 hU338 hv339 hn340
  have f341 := (hn340 0 1 (by decide)).trans hv335
  refine w_lo dX8_putOnTape_33 rfl rfl rfl rfl ?_
  refine w_pu dX8_putOnTape_34 rfl rfl ?_
  refine w_gf dX8_putOnTape_35 rfl hU338.1 rfl f341 ?_
  refine w_ic dX8_putOnTape_38 zi_1 ?_
  refine w_pu (st' := [.int 12, .ref 0]) dX8_putOnTape_39 rfl rfl ?_
  refine w_pf dX8_putOnTape_40 rfl hU338 rfl (Nat.le_of_ble_eq_true rfl) rfl rfl rfl ?_
  intro M342 hU343 hv344 hn345
  refine w_lo (ml' := [some (.ref 0), some (.int a3), some (.int (-8))]) dX8_putOnTape_43 rfl rfl rfl rfl ?_
  refine w_gt dX8_putOnTape_46 (t := 3) rfl ?_
  refine w_lo dX8_putOnTape_3 rfl rfl rfl rfl ?_
  refine w_ilt_t dX8_putOnTape_4 (t := 49) rfl (by decide) ?_
  refine w_en dX8_putOnTape_49 rfl ?_
  show ZW _ 10 8 false (some .int) cX8_feed _ (35, [some (.ref 0), some (.int a1), some (.int a2), some (.int a3), some (.int a4), some (.int a5)], [], M342)
  refine w_lo dX8_feed_35 rfl rfl rfl rfl ?_
  refine w_lo dX8_feed_36 rfl rfl rfl rfl ?_
  refine w_iv dX8_feed_38 rfl rfl (As := [.int a4]) rfl rfl hU343.1 rfl (Nat.le_of_ble_eq_true rfl) ?_
  refine ZV.of (ini := false) rfl (Nat.le_of_ble_eq_true rfl) (by decide +kernel) ?_
  show ZW _ 9 8 false none cX8_putOnTape _ (0, [some (.ref 0), some (.int a4), none], [], M342)
  refine w_bi dX8_putOnTape_0 (c := 24) (by decide) ?_
  refine w_lo dX8_putOnTape_2 rfl rfl rfl rfl ?_
  refine w_lo dX8_putOnTape_3 rfl rfl rfl rfl ?_
  refine w_ilt_f dX8_putOnTape_4 (t := 49) rfl (by decide) ?_
  refine w_lo dX8_putOnTape_7 rfl rfl rfl rfl ?_
  refine w_gf dX8_putOnTape_8 rfl hU343.1 rfl hv344 ?_
  refine w_si dX8_putOnTape_11 (c := 1600) (by decide) ?_
  refine w_cge_f dX8_putOnTape_14 (t := 49) rfl (by decide) ?_
  refine w_lo dX8_putOnTape_17 rfl rfl rfl rfl ?_
  refine w_gf dX8_putOnTape_18 rfl hU343.1 rfl ((hU343).2 0 0 rfl |>.trans zq_0_0) ?_
  refine w_lo dX8_putOnTape_21 rfl rfl rfl rfl ?_
  refine w_gf dX8_putOnTape_22 rfl hU343.1 rfl hv344 ?_
  refine w_lo dX8_putOnTape_25 rfl rfl rfl rfl ?_
  refine w_lo dX8_putOnTape_26 rfl rfl rfl rfl ?_
  refine w_pu (st' := [.int (a4 >>> (24 &&& 31)), .int 12, .ref 1]) dX8_putOnTape_27 rfl rfl ?_
  refine w_si dX8_putOnTape_28 (c := 255) (by decide) ?_
  refine w_pu (st' := [.int ((a4 >>> (24 &&& 31)) &&& 255), .int 12, .ref 1]) dX8_putOnTape_31 rfl rfl ?_
  refine w_is dX8_putOnTape_32 hU343 rfl (k := 12) zt_12 (Nat.le_of_ble_eq_true rfl) ?_
  intro M346 hU347 hv348 hn349
  have f350 := (hn349 0 1 (by decide)).trans hv344
  refine w_lo dX8_putOnTape_33 rfl rfl rfl rfl ?_
  refine w_pu dX8_putOnTape_34 rfl rfl ?_
  refine w_gf dX8_putOnTape_35 rfl hU347.1 rfl f350 ?_
  refine w_ic dX8_putOnTape_38 zi_1 ?_
  refine w_pu (st' := [.int 13, .ref 0]) dX8_putOnTape_39 rfl rfl ?_
  refine w_pf dX8_putOnTape_40 rfl hU347 rfl (Nat.le_of_ble_eq_true rfl) rfl rfl rfl ?_
  intro M351 hU352 hv353 hn354
  refine w_lo (ml' := [some (.ref 0), some (.int a4), some (.int 16)]) dX8_putOnTape_43 rfl rfl rfl rfl ?_
  refine w_gt dX8_putOnTape_46 (t := 3) rfl ?_
  refine w_lo dX8_putOnTape_3 rfl rfl rfl rfl ?_
  refine w_ilt_f dX8_putOnTape_4 (t := 49) rfl (by decide) ?_
  refine w_lo dX8_putOnTape_7 rfl rfl rfl rfl ?_
  refine w_gf dX8_putOnTape_8 rfl hU352.1 rfl hv353 ?_
  refine w_si dX8_putOnTape_11 (c := 1600) (by decide) ?_
  refine w_cge_f dX8_putOnTape_14 (t := 49) rfl (by decide) ?_
  refine w_lo dX8_putOnTape_17 rfl rfl rfl rfl ?_
  refine w_gf dX8_putOnTape_18 rfl hU352.1 rfl ((hU352).2 0 0 rfl |>.trans zq_0_0) ?_
  refine w_lo dX8_putOnTape_21 rfl rfl rfl rfl ?_
  refine w_gf dX8_putOnTape_22 rfl hU352.1 rfl hv353 ?_
  refine w_lo dX8_putOnTape_25 rfl rfl rfl rfl ?_
  refine w_lo dX8_putOnTape_26 rfl rfl rfl rfl ?_
  refine w_pu (st' := [.int (a4 >>> (16 &&& 31)), .int 13, .ref 1]) dX8_putOnTape_27 rfl rfl ?_
  refine w_si dX8_putOnTape_28 (c := 255) (by decide) ?_
  refine w_pu (st' := [.int ((a4 >>> (16 &&& 31)) &&& 255), .int 13, .ref 1]) dX8_putOnTape_31 rfl rfl ?_
  refine w_is dX8_putOnTape_32 hU352 rfl (k := 13) zt_13 (Nat.le_of_ble_eq_true rfl) ?_
  intro M355 hU356 hv357 hn358
  have f359 := (hn358 0 1 (by decide)).trans hv353
  refine w_lo dX8_putOnTape_33 rfl rfl rfl rfl ?_
  refine w_pu dX8_putOnTape_34 rfl rfl ?_
  refine w_gf dX8_putOnTape_35 rfl hU356.1 rfl f359 ?_
  refine w_ic dX8_putOnTape_38 zi_1 ?_
  refine w_pu (st' := [.int 14, .ref 0]) dX8_putOnTape_39 rfl rfl ?_
  refine w_pf dX8_putOnTape_40 rfl hU356 rfl (Nat.le_of_ble_eq_true rfl) rfl rfl rfl ?_
  intro M360 hU361 hv362 hn363
  refine w_lo (ml' := [some (.ref 0), some (.int a4), some (.int 8)]) dX8_putOnTape_43 rfl rfl rfl rfl ?_
  refine w_gt dX8_putOnTape_46 (t := 3) rfl ?_
  refine w_lo dX8_putOnTape_3 rfl rfl rfl rfl ?_
  refine w_ilt_f dX8_putOnTape_4 (t := 49) rfl (by decide) ?_
  refine w_lo dX8_putOnTape_7 rfl rfl rfl rfl ?_
  refine w_gf dX8_putOnTape_8 rfl hU361.1 rfl hv362 ?_
  refine w_si dX8_putOnTape_11 (c := 1600) (by decide) ?_
  refine w_cge_f dX8_putOnTape_14 (t := 49) rfl (by decide) ?_
  refine w_lo dX8_putOnTape_17 rfl rfl rfl rfl ?_
  refine w_gf dX8_putOnTape_18 rfl hU361.1 rfl ((hU361).2 0 0 rfl |>.trans zq_0_0) ?_
  refine w_lo dX8_putOnTape_21 rfl rfl rfl rfl ?_
  refine w_gf dX8_putOnTape_22 rfl hU361.1 rfl hv362 ?_
  refine w_lo dX8_putOnTape_25 rfl rfl rfl rfl ?_
  refine w_lo dX8_putOnTape_26 rfl rfl rfl rfl ?_
  refine w_pu (st' := [.int (a4 >>> (8 &&& 31)), .int 14, .ref 1]) dX8_putOnTape_27 rfl rfl ?_
  refine w_si dX8_putOnTape_28 (c := 255) (by decide) ?_
  refine w_pu (st' := [.int ((a4 >>> (8 &&& 31)) &&& 255), .int 14, .ref 1]) dX8_putOnTape_31 rfl rfl ?_
  refine w_is dX8_putOnTape_32 hU361 rfl (k := 14) zt_14 (Nat.le_of_ble_eq_true rfl) ?_
  intro M364 hU365 hv366 hn367
  have f368 := (hn367 0 1 (by decide)).trans hv362
  refine w_lo dX8_putOnTape_33 rfl rfl rfl rfl ?_
  refine w_pu dX8_putOnTape_34 rfl rfl ?_
  refine w_gf dX8_putOnTape_35 rfl hU365.1 rfl f368 ?_
  refine w_ic dX8_putOnTape_38 zi_1 ?_
  refine w_pu (st' := [.int 15, .ref 0]) dX8_putOnTape_39 rfl rfl ?_
  refine w_pf dX8_putOnTape_40 rfl hU365 rfl (Nat.le_of_ble_eq_true rfl) rfl rfl rfl ?_
  intro M369 hU370 hv371 hn372
  refine w_lo (ml' := [some (.ref 0), some (.int a4), some (.int 0)]) dX8_putOnTape_43 rfl rfl rfl rfl ?_
  refine w_gt dX8_putOnTape_46 (t := 3) rfl ?_
  refine w_lo dX8_putOnTape_3 rfl rfl rfl rfl ?_
  refine w_ilt_f dX8_putOnTape_4 (t := 49) rfl (by decide) ?_
  refine w_lo dX8_putOnTape_7 rfl rfl rfl rfl ?_
  refine w_gf dX8_putOnTape_8 rfl hU370.1 rfl hv371 ?_
  refine w_si dX8_putOnTape_11 (c := 1600) (by decide) ?_
  refine w_cge_f dX8_putOnTape_14 (t := 49) rfl (by decide) ?_
  refine w_lo dX8_putOnTape_17 rfl rfl rfl rfl ?_
  refine w_gf dX8_putOnTape_18 rfl hU370.1 rfl ((hU370).2 0 0 rfl |>.trans zq_0_0) ?_
  refine w_lo dX8_putOnTape_21 rfl rfl rfl rfl ?_
  refine w_gf dX8_putOnTape_22 rfl hU370.1 rfl hv371 ?_
  refine w_lo dX8_putOnTape_25 rfl rfl rfl rfl ?_
  refine w_lo dX8_putOnTape_26 rfl rfl rfl rfl ?_
  refine w_pu (st' := [.int (a4 >>> (0 &&& 31)), .int 15, .ref 1]) dX8_putOnTape_27 rfl rfl ?_
  refine w_si dX8_putOnTape_28 (c := 255) (by decide) ?_
  refine w_pu (st' := [.int ((a4 >>> (0 &&& 31)) &&& 255), .int 15, .ref 1]) dX8_putOnTape_31 rfl rfl ?_
  refine w_is dX8_putOnTape_32 hU370 rfl (k := 15) zt_15 (Nat.le_of_ble_eq_true rfl) ?_
  intro M373 hU374 hv375 hn376
  have f377 := (hn376 0 1 (by decide)).trans hv371
  refine w_lo dX8_putOnTape_33 rfl rfl rfl rfl ?_
  refine w_pu dX8_putOnTape_34 rfl rfl ?_
  refine w_gf dX8_putOnTape_35 rfl hU374.1 rfl f377 ?_
  refine w_ic dX8_putOnTape_38 zi_1 ?_
  refine w_pu (st' := [.int 16, .ref 0]) dX8_putOnTape_39 rfl rfl ?_
  refine w_pf dX8_putOnTape_40 rfl hU374 rfl (Nat.le_of_ble_eq_true rfl) rfl rfl rfl ?_
  intro M378 hU379 hv380 hn381
  refine w_lo (ml' := [some (.ref 0), some (.int a4), some (.int (-8))]) dX8_putOnTape_43 rfl rfl rfl rfl ?_
  refine w_gt dX8_putOnTape_46 (t := 3) rfl ?_
  refine w_lo dX8_putOnTape_3 rfl rfl rfl rfl ?_
  refine w_ilt_t dX8_putOnTape_4 (t := 49) rfl (by decide) ?_
  refine w_en dX8_putOnTape_49 rfl ?_
  show ZW _ 10 8 false (some .int) cX8_feed _ (41, [some (.ref 0), some (.int a1), some (.int a2), some (.int a3), some (.int a4), some (.int a5)], [], M378)
  refine w_lo dX8_feed_41 rfl rfl rfl rfl ?_
  refine w_lo dX8_feed_42 rfl rfl rfl rfl ?_
  refine w_iv dX8_feed_44 rfl rfl (As := [.int a5]) rfl rfl hU379.1 rfl (Nat.le_of_ble_eq_true rfl) ?_
  refine ZV.of (ini := false) rfl (Nat.le_of_ble_eq_true rfl) (by decide +kernel) ?_
  show ZW _ 9 8 false none cX8_putOnTape _ (0, [some (.ref 0), some (.int a5), none], [], M378)
  refine w_bi dX8_putOnTape_0 (c := 24) (by decide) ?_
  refine w_lo dX8_putOnTape_2 rfl rfl rfl rfl ?_
  refine w_lo dX8_putOnTape_3 rfl rfl rfl rfl ?_
  refine w_ilt_f dX8_putOnTape_4 (t := 49) rfl (by decide) ?_
  refine w_lo dX8_putOnTape_7 rfl rfl rfl rfl ?_
  refine w_gf dX8_putOnTape_8 rfl hU379.1 rfl hv380 ?_
  refine w_si dX8_putOnTape_11 (c := 1600) (by decide) ?_
  refine w_cge_f dX8_putOnTape_14 (t := 49) rfl (by decide) ?_
  refine w_lo dX8_putOnTape_17 rfl rfl rfl rfl ?_
  refine w_gf dX8_putOnTape_18 rfl hU379.1 rfl ((hU379).2 0 0 rfl |>.trans zq_0_0) ?_
  refine w_lo dX8_putOnTape_21 rfl rfl rfl rfl ?_
  refine w_gf dX8_putOnTape_22 rfl hU379.1 rfl hv380 ?_
  refine w_lo dX8_putOnTape_25 rfl rfl rfl rfl ?_
  refine w_lo dX8_putOnTape_26 rfl rfl rfl rfl ?_
  refine w_pu (st' := [.int (a5 >>> (24 &&& 31)), .int 16, .ref 1]) dX8_putOnTape_27 rfl rfl ?_
  refine w_si dX8_putOnTape_28 (c := 255) (by decide) ?_
  refine w_pu (st' := [.int ((a5 >>> (24 &&& 31)) &&& 255), .int 16, .ref 1]) dX8_putOnTape_31 rfl rfl ?_
  refine w_is dX8_putOnTape_32 hU379 rfl (k := 16) zt_16 (Nat.le_of_ble_eq_true rfl) ?_
  intro M382 hU383 hv384 hn385
  have f386 := (hn385 0 1 (by decide)).trans hv380
  refine w_lo dX8_putOnTape_33 rfl rfl rfl rfl ?_
  refine w_pu dX8_putOnTape_34 rfl rfl ?_
  refine w_gf dX8_putOnTape_35 rfl hU383.1 rfl f386 ?_
  refine w_ic dX8_putOnTape_38 zi_1 ?_
  refine w_pu (st' := [.int 17, .ref 0]) dX8_putOnTape_39 rfl rfl ?_
  refine w_pf dX8_putOnTape_40 rfl hU383 rfl (Nat.le_of_ble_eq_true rfl) rfl rfl rfl ?_
  intro M387 hU388 hv389 hn390
  refine w_lo (ml' := [some (.ref 0), some (.int a5), some (.int 16)]) dX8_putOnTape_43 rfl rfl rfl rfl ?_
  refine w_gt dX8_putOnTape_46 (t := 3) rfl ?_
  refine w_lo dX8_putOnTape_3 rfl rfl rfl rfl ?_
  refine w_ilt_f dX8_putOnTape_4 (t := 49) rfl (by decide) ?_
  refine w_lo dX8_putOnTape_7 rfl rfl rfl rfl ?_
  refine w_gf dX8_putOnTape_8 rfl hU388.1 rfl hv389 ?_
  refine w_si dX8_putOnTape_11 (c := 1600) (by decide) ?_
  refine w_cge_f dX8_putOnTape_14 (t := 49) rfl (by decide) ?_
  refine w_lo dX8_putOnTape_17 rfl rfl rfl rfl ?_
  refine w_gf dX8_putOnTape_18 rfl hU388.1 rfl ((hU388).2 0 0 rfl |>.trans zq_0_0) ?_
  refine w_lo dX8_putOnTape_21 rfl rfl rfl rfl ?_
  refine w_gf dX8_putOnTape_22 rfl hU388.1 rfl hv389 ?_
  refine w_lo dX8_putOnTape_25 rfl rfl rfl rfl ?_
  refine w_lo dX8_putOnTape_26 rfl rfl rfl rfl ?_
  refine w_pu (st' := [.int (a5 >>> (16 &&& 31)), .int 17, .ref 1]) dX8_putOnTape_27 rfl rfl ?_
  refine w_si dX8_putOnTape_28 (c := 255) (by decide) ?_
  refine w_pu (st' := [.int ((a5 >>> (16 &&& 31)) &&& 255), .int 17, .ref 1]) dX8_putOnTape_31 rfl rfl ?_
  refine w_is dX8_putOnTape_32 hU388 rfl (k := 17) zt_17 (Nat.le_of_ble_eq_true rfl) ?_
  intro M391 hU392 hv393 hn394
  have f395 := (hn394 0 1 (by decide)).trans hv389
  refine w_lo dX8_putOnTape_33 rfl rfl rfl rfl ?_
  refine w_pu dX8_putOnTape_34 rfl rfl ?_
  refine w_gf dX8_putOnTape_35 rfl hU392.1 rfl f395 ?_
  refine w_ic dX8_putOnTape_38 zi_1 ?_
  refine w_pu (st' := [.int 18, .ref 0]) dX8_putOnTape_39 rfl rfl ?_
  refine w_pf dX8_putOnTape_40 rfl hU392 rfl (Nat.le_of_ble_eq_true rfl) rfl rfl rfl ?_
  intro M396 hU397 hv398 hn399
  refine w_lo (ml' := [some (.ref 0), some (.int a5), some (.int 8)]) dX8_putOnTape_43 rfl rfl rfl rfl ?_
  refine w_gt dX8_putOnTape_46 (t := 3) rfl ?_
  refine w_lo dX8_putOnTape_3 rfl rfl rfl rfl ?_
  refine w_ilt_f dX8_putOnTape_4 (t := 49) rfl (by decide) ?_
  refine w_lo dX8_putOnTape_7 rfl rfl rfl rfl ?_
  refine w_gf dX8_putOnTape_8 rfl hU397.1 rfl hv398 ?_
  refine w_si dX8_putOnTape_11 (c := 1600) (by decide) ?_
  refine w_cge_f dX8_putOnTape_14 (t := 49) rfl (by decide) ?_
  refine w_lo dX8_putOnTape_17 rfl rfl rfl rfl ?_
  refine w_gf dX8_putOnTape_18 rfl hU397.1 rfl ((hU397).2 0 0 rfl |>.trans zq_0_0) ?_
  refine w_lo dX8_putOnTape_21 rfl rfl rfl rfl ?_
  refine w_gf dX8_putOnTape_22 rfl hU397.1 rfl hv398 ?_
  refine w_lo dX8_putOnTape_25 rfl rfl rfl rfl ?_
  refine w_lo dX8_putOnTape_26 rfl rfl rfl rfl ?_
  refine w_pu (st' := [.int (a5 >>> (8 &&& 31)), .int 18, .ref 1]) dX8_putOnTape_27 rfl rfl ?_
  refine w_si dX8_putOnTape_28 (c := 255) (by decide) ?_
  refine w_pu (st' := [.int ((a5 >>> (8 &&& 31)) &&& 255), .int 18, .ref 1]) dX8_putOnTape_31 rfl rfl ?_
  refine w_is dX8_putOnTape_32 hU397 rfl (k := 18) zt_18 (Nat.le_of_ble_eq_true rfl) ?_
  intro M400 hU401 hv402 hn403
  have f404 := (hn403 0 1 (by decide)).trans hv398
  refine w_lo dX8_putOnTape_33 rfl rfl rfl rfl ?_
  refine w_pu dX8_putOnTape_34 rfl rfl ?_
  refine w_gf dX8_putOnTape_35 rfl hU401.1 rfl f404 ?_
  refine w_ic dX8_putOnTape_38 zi_1 ?_
  refine w_pu (st' := [.int 19, .ref 0]) dX8_putOnTape_39 rfl rfl ?_
  refine w_pf dX8_putOnTape_40 rfl hU401 rfl (Nat.le_of_ble_eq_true rfl) rfl rfl rfl ?_
  intro M405 hU406 hv407 hn408
  refine w_lo (ml' := [some (.ref 0), some (.int a5), some (.int 0)]) dX8_putOnTape_43 rfl rfl rfl rfl ?_
  refine w_gt dX8_putOnTape_46 (t := 3) rfl ?_
  refine w_lo dX8_putOnTape_3 rfl rfl rfl rfl ?_
  refine w_ilt_f dX8_putOnTape_4 (t := 49) rfl (by decide) ?_
  refine w_lo dX8_putOnTape_7 rfl rfl rfl rfl ?_
  refine w_gf dX8_putOnTape_8 rfl hU406.1 rfl hv407 ?_
  refine w_si dX8_putOnTape_11 (c := 1600) (by decide) ?_
  refine w_cge_f dX8_putOnTape_14 (t := 49) rfl (by decide) ?_
  refine w_lo dX8_putOnTape_17 rfl rfl rfl rfl ?_
  refine w_gf dX8_putOnTape_18 rfl hU406.1 rfl ((hU406).2 0 0 rfl |>.trans zq_0_0) ?_
  refine w_lo dX8_putOnTape_21 rfl rfl rfl rfl ?_
  refine w_gf dX8_putOnTape_22 rfl hU406.1 rfl hv407 ?_
  refine w_lo dX8_putOnTape_25 rfl rfl rfl rfl ?_
  refine w_lo dX8_putOnTape_26 rfl rfl rfl rfl ?_
  refine w_pu (st' := [.int (a5 >>> (0 &&& 31)), .int 19, .ref 1]) dX8_putOnTape_27 rfl rfl ?_
  refine w_si dX8_putOnTape_28 (c := 255) (by decide) ?_
  refine w_pu (st' := [.int ((a5 >>> (0 &&& 31)) &&& 255), .int 19, .ref 1]) dX8_putOnTape_31 rfl rfl ?_
  refine w_is dX8_putOnTape_32 hU406 rfl (k := 19) zt_19 (Nat.le_of_ble_eq_true rfl) ?_
  intro M409 hU410 hv411 hn412
  have f413 := (hn412 0 1 (by decide)).trans hv407
  refine w_lo dX8_putOnTape_33 rfl rfl rfl rfl ?_
  refine w_pu dX8_putOnTape_34 rfl rfl ?_
  refine w_gf dX8_putOnTape_35 rfl hU410.1 rfl f413 ?_
  refine w_ic dX8_putOnTape_38 zi_1 ?_
  refine w_pu (st' := [.int 20, .ref 0]) dX8_putOnTape_39 rfl rfl ?_
  refine w_pf dX8_putOnTape_40 rfl hU410 rfl (Nat.le_of_ble_eq_true rfl) rfl rfl rfl ?_
  intro M414 hU415 hv416 hn417
  refine w_lo (ml' := [some (.ref 0), some (.int a5), some (.int (-8))]) dX8_putOnTape_43 rfl rfl rfl rfl ?_
  refine w_gt dX8_putOnTape_46 (t := 3) rfl ?_
  refine w_lo dX8_putOnTape_3 rfl rfl rfl rfl ?_
  refine w_ilt_t dX8_putOnTape_4 (t := 49) rfl (by decide) ?_
  refine w_en dX8_putOnTape_49 rfl ?_
  show ZW _ 10 8 false (some .int) cX8_feed _ (47, [some (.ref 0), some (.int a1), some (.int a2), some (.int a3), some (.int a4), some (.int a5)], [], M414)
  refine w_lo dX8_feed_47 rfl rfl rfl rfl ?_
  refine w_gf dX8_feed_48 rfl hU415.1 rfl hv416 ?_
  refine w_en dX8_feed_51 rfl ?_
  refine ⟨_, rfl, ?_⟩
  refine ZV.of (ini := false) rfl (Nat.le_of_ble_eq_true rfl) (by decide +kernel) ?_
  show ZW _ 10 9 false (some .int) cX9_feed _ (0, [some (.ref 386), some (.int a1), some (.int a2), some (.int a3), some (.int a4), some (.int a5)], [], M414)
  refine w_lo dX9_feed_0 rfl rfl rfl rfl ?_
  refine w_gf dX9_feed_1 rfl hU415.1 rfl ((hU415).2 386 1 rfl |>.trans zq_386_1) ?_
  refine w_bi dX9_feed_4 (c := 20) (by decide) ?_
  refine w_pu (st' := [.int 20]) dX9_feed_6 rfl rfl ?_
  refine w_si dX9_feed_7 (c := 1600) (by decide) ?_
  refine w_cle_t dX9_feed_10 (t := 19) rfl (by decide) ?_
  refine w_lo dX9_feed_19 rfl rfl rfl rfl ?_
  refine w_lo dX9_feed_20 rfl rfl rfl rfl ?_
  refine w_iv dX9_feed_21 rfl rfl (As := [.int a1]) rfl rfl hU415.1 rfl (Nat.le_of_ble_eq_true rfl) ?_
  refine ZV.of (ini := false) rfl (Nat.le_of_ble_eq_true rfl) (by decide +kernel) ?_
  show ZW _ 9 9 false none cX9_put _ (0, [some (.ref 386), some (.int a1), none], [], M414)
  refine w_bi dX9_put_0 (c := 24) (by decide) ?_
  refine w_lo dX9_put_2 rfl rfl rfl rfl ?_
  refine w_lo dX9_put_3 rfl rfl rfl rfl ?_
  refine w_ilt_f dX9_put_4 (t := 39) rfl (by decide) ?_
  refine w_lo dX9_put_7 rfl rfl rfl rfl ?_
  refine w_gf dX9_put_8 rfl hU415.1 rfl ((hU415).2 386 0 rfl |>.trans zq_386_0) ?_
  refine w_lo dX9_put_11 rfl rfl rfl rfl ?_
  refine w_gf dX9_put_12 rfl hU415.1 rfl ((hU415).2 386 1 rfl |>.trans zq_386_1) ?_
  refine w_lo dX9_put_15 rfl rfl rfl rfl ?_
  refine w_lo dX9_put_16 rfl rfl rfl rfl ?_
  refine w_pu (st' := [.int (a1 >>> (24 &&& 31)), .int 0, .ref 387]) dX9_put_17 rfl rfl ?_
  refine w_si dX9_put_18 (c := 255) (by decide) ?_
  refine w_pu (st' := [.int ((a1 >>> (24 &&& 31)) &&& 255), .int 0, .ref 387]) dX9_put_21 rfl rfl ?_
  refine w_is dX9_put_22 hU415 rfl (k := 0) zt_0 (Nat.le_of_ble_eq_true rfl) ?_
  intro M418 hU419 hv420 hn421
  have f422 := (hn421 0 1 (by decide)).trans hv416
  refine w_lo dX9_put_23 rfl rfl rfl rfl ?_
  refine w_pu dX9_put_24 rfl rfl ?_
  refine w_gf dX9_put_25 rfl hU419.1 rfl ((hU419).2 386 1 rfl |>.trans zq_386_1) ?_
  refine w_ic dX9_put_28 zi_1 ?_
  refine w_pu (st' := [.int 1, .ref 386]) dX9_put_29 rfl rfl ?_
  refine w_pf dX9_put_30 rfl hU419 rfl (Nat.le_of_ble_eq_true rfl) rfl rfl rfl ?_
  intro M423 hU424 hv425 hn426
  have f427 := (hn426 0 1 (by decide)).trans f422
  refine w_lo (ml' := [some (.ref 386), some (.int a1), some (.int 16)]) dX9_put_33 rfl rfl rfl rfl ?_
  refine w_gt dX9_put_36 (t := 3) rfl ?_
  refine w_lo dX9_put_3 rfl rfl rfl rfl ?_
  refine w_ilt_f dX9_put_4 (t := 39) rfl (by decide) ?_
  refine w_lo dX9_put_7 rfl rfl rfl rfl ?_
  refine w_gf dX9_put_8 rfl hU424.1 rfl ((hU424).2 386 0 rfl |>.trans zq_386_0) ?_
  refine w_lo dX9_put_11 rfl rfl rfl rfl ?_
  refine w_gf dX9_put_12 rfl hU424.1 rfl hv425 ?_
  refine w_lo dX9_put_15 rfl rfl rfl rfl ?_
  refine w_lo dX9_put_16 rfl rfl rfl rfl ?_
  refine w_pu (st' := [.int (a1 >>> (16 &&& 31)), .int 1, .ref 387]) dX9_put_17 rfl rfl ?_
  refine w_si dX9_put_18 (c := 255) (by decide) ?_
  refine w_pu (st' := [.int ((a1 >>> (16 &&& 31)) &&& 255), .int 1, .ref 387]) dX9_put_21 rfl rfl ?_
  refine w_is dX9_put_22 hU424 rfl (k := 1) zt_1 (Nat.le_of_ble_eq_true rfl) ?_
  intro M428 hU429 hv430 hn431
  have f432 := (hn431 0 1 (by decide)).trans f427
  have f433 := (hn431 386 1 (by decide)).trans hv425
  refine w_lo dX9_put_23 rfl rfl rfl rfl ?_
  refine w_pu dX9_put_24 rfl rfl ?_
  refine w_gf dX9_put_25 rfl hU429.1 rfl f433 ?_
  refine w_ic dX9_put_28 zi_1 ?_
  refine w_pu (st' := [.int 2, .ref 386]) dX9_put_29 rfl rfl ?_
  refine w_pf dX9_put_30 rfl hU429 rfl (Nat.le_of_ble_eq_true rfl) rfl rfl rfl ?_
  intro M434 hU435 hv436 hn437
  have f438 := (hn437 0 1 (by decide)).trans f432
  refine w_lo (ml' := [some (.ref 386), some (.int a1), some (.int 8)]) dX9_put_33 rfl rfl rfl rfl ?_
  refine w_gt dX9_put_36 (t := 3) rfl ?_
  refine w_lo dX9_put_3 rfl rfl rfl rfl ?_
  refine w_ilt_f dX9_put_4 (t := 39) rfl (by decide) ?_
  refine w_lo dX9_put_7 rfl rfl rfl rfl ?_
  refine w_gf dX9_put_8 rfl hU435.1 rfl ((hU435).2 386 0 rfl |>.trans zq_386_0) ?_
  refine w_lo dX9_put_11 rfl rfl rfl rfl ?_
  refine w_gf dX9_put_12 rfl hU435.1 rfl hv436 ?_
  refine w_lo dX9_put_15 rfl rfl rfl rfl ?_
  refine w_lo dX9_put_16 rfl rfl rfl rfl ?_
  refine w_pu (st' := [.int (a1 >>> (8 &&& 31)), .int 2, .ref 387]) dX9_put_17 rfl rfl ?_
  refine w_si dX9_put_18 (c := 255) (by decide) ?_
  refine w_pu (st' := [.int ((a1 >>> (8 &&& 31)) &&& 255), .int 2, .ref 387]) dX9_put_21 rfl rfl ?_
  refine w_is dX9_put_22 hU435 rfl (k := 2) zt_2 (Nat.le_of_ble_eq_true rfl) ?_
  intro M439 hU440 hv441 hn442
  have f443 := (hn442 0 1 (by decide)).trans f438
  have f444 := (hn442 386 1 (by decide)).trans hv436
  refine w_lo dX9_put_23 rfl rfl rfl rfl ?_
  refine w_pu dX9_put_24 rfl rfl ?_
  refine w_gf dX9_put_25 rfl hU440.1 rfl f444 ?_
  refine w_ic dX9_put_28 zi_1 ?_
  refine w_pu (st' := [.int 3, .ref 386]) dX9_put_29 rfl rfl ?_
  refine w_pf dX9_put_30 rfl hU440 rfl (Nat.le_of_ble_eq_true rfl) rfl rfl rfl ?_
  intro M445 hU446 hv447 hn448
  have f449 := (hn448 0 1 (by decide)).trans f443
  refine w_lo (ml' := [some (.ref 386), some (.int a1), some (.int 0)]) dX9_put_33 rfl rfl rfl rfl ?_
  refine w_gt dX9_put_36 (t := 3) rfl ?_
  refine w_lo dX9_put_3 rfl rfl rfl rfl ?_
  refine w_ilt_f dX9_put_4 (t := 39) rfl (by decide) ?_
  refine w_lo dX9_put_7 rfl rfl rfl rfl ?_
  refine w_gf dX9_put_8 rfl hU446.1 rfl ((hU446).2 386 0 rfl |>.trans zq_386_0) ?_
  refine w_lo dX9_put_11 rfl rfl rfl rfl ?_
  refine w_gf dX9_put_12 rfl hU446.1 rfl hv447 ?_
  refine w_lo dX9_put_15 rfl rfl rfl rfl ?_
  refine w_lo dX9_put_16 rfl rfl rfl rfl ?_
  refine w_pu (st' := [.int (a1 >>> (0 &&& 31)), .int 3, .ref 387]) dX9_put_17 rfl rfl ?_
  refine w_si dX9_put_18 (c := 255) (by decide) ?_
  refine w_pu (st' := [.int ((a1 >>> (0 &&& 31)) &&& 255), .int 3, .ref 387]) dX9_put_21 rfl rfl ?_
  refine w_is dX9_put_22 hU446 rfl (k := 3) zt_3 (Nat.le_of_ble_eq_true rfl) ?_
  intro M450 hU451 hv452 hn453
  have f454 := (hn453 0 1 (by decide)).trans f449
  have f455 := (hn453 386 1 (by decide)).trans hv447
  refine w_lo dX9_put_23 rfl rfl rfl rfl ?_
  refine w_pu dX9_put_24 rfl rfl ?_
  refine w_gf dX9_put_25 rfl hU451.1 rfl f455 ?_
  refine w_ic dX9_put_28 zi_1 ?_
  refine w_pu (st' := [.int 4, .ref 386]) dX9_put_29 rfl rfl ?_
  refine w_pf dX9_put_30 rfl hU451 rfl (Nat.le_of_ble_eq_true rfl) rfl rfl rfl ?_
  intro M456 hU457 hv458 hn459
  have f460 := (hn459 0 1 (by decide)).trans f454
  refine w_lo (ml' := [some (.ref 386), some (.int a1), some (.int (-8))]) dX9_put_33 rfl rfl rfl rfl ?_
  refine w_gt dX9_put_36 (t := 3) rfl ?_
  refine w_lo dX9_put_3 rfl rfl rfl rfl ?_
  refine w_ilt_t dX9_put_4 (t := 39) rfl (by decide) ?_
  refine w_en dX9_put_39 rfl ?_
  show ZW _ 10 9 false (some .int) cX9_feed _ (24, [some (.ref 386), some (.int a1), some (.int a2), some (.int a3), some (.int a4), some (.int a5)], [], M456)
  refine w_lo dX9_feed_24 rfl rfl rfl rfl ?_
  refine w_lo dX9_feed_25 rfl rfl rfl rfl ?_
  refine w_iv dX9_feed_26 rfl rfl (As := [.int a2]) rfl rfl hU457.1 rfl (Nat.le_of_ble_eq_true rfl) ?_
  refine ZV.of (ini := false) rfl (Nat.le_of_ble_eq_true rfl) (by decide +kernel) ?_
  show ZW _ 9 9 false none cX9_put _ (0, [some (.ref 386), some (.int a2), none], [], M456)
  refine w_bi dX9_put_0 (c := 24) (by decide) ?_
  refine w_lo dX9_put_2 rfl rfl rfl rfl ?_
  refine w_lo dX9_put_3 rfl rfl rfl rfl ?_
  refine w_ilt_f dX9_put_4 (t := 39) rfl (by decide) ?_
  refine w_lo dX9_put_7 rfl rfl rfl rfl ?_
  refine w_gf dX9_put_8 rfl hU457.1 rfl ((hU457).2 386 0 rfl |>.trans zq_386_0) ?_
  refine w_lo dX9_put_11 rfl rfl rfl rfl ?_
  refine w_gf dX9_put_12 rfl hU457.1 rfl hv458 ?_
  refine w_lo dX9_put_15 rfl rfl rfl rfl ?_
  refine w_lo dX9_put_16 rfl rfl rfl rfl ?_
  refine w_pu (st' := [.int (a2 >>> (24 &&& 31)), .int 4, .ref 387]) dX9_put_17 rfl rfl ?_
  refine w_si dX9_put_18 (c := 255) (by decide) ?_
  refine w_pu (st' := [.int ((a2 >>> (24 &&& 31)) &&& 255), .int 4, .ref 387]) dX9_put_21 rfl rfl ?_
  refine w_is dX9_put_22 hU457 rfl (k := 4) zt_4 (Nat.le_of_ble_eq_true rfl) ?_
  intro M461 hU462 hv463 hn464
  have f465 := (hn464 0 1 (by decide)).trans f460
  have f466 := (hn464 386 1 (by decide)).trans hv458
  refine w_lo dX9_put_23 rfl rfl rfl rfl ?_
  refine w_pu dX9_put_24 rfl rfl ?_
  refine w_gf dX9_put_25 rfl hU462.1 rfl f466 ?_
  refine w_ic dX9_put_28 zi_1 ?_
  refine w_pu (st' := [.int 5, .ref 386]) dX9_put_29 rfl rfl ?_
  refine w_pf dX9_put_30 rfl hU462 rfl (Nat.le_of_ble_eq_true rfl) rfl rfl rfl ?_
  intro M467 hU468 hv469 hn470
  have f471 := (hn470 0 1 (by decide)).trans f465
  refine w_lo (ml' := [some (.ref 386), some (.int a2), some (.int 16)]) dX9_put_33 rfl rfl rfl rfl ?_
  refine w_gt dX9_put_36 (t := 3) rfl ?_
  refine w_lo dX9_put_3 rfl rfl rfl rfl ?_
  refine w_ilt_f dX9_put_4 (t := 39) rfl (by decide) ?_
  refine w_lo dX9_put_7 rfl rfl rfl rfl ?_
  refine w_gf dX9_put_8 rfl hU468.1 rfl ((hU468).2 386 0 rfl |>.trans zq_386_0) ?_
  refine w_lo dX9_put_11 rfl rfl rfl rfl ?_
  refine w_gf dX9_put_12 rfl hU468.1 rfl hv469 ?_
  refine w_lo dX9_put_15 rfl rfl rfl rfl ?_
  refine w_lo dX9_put_16 rfl rfl rfl rfl ?_
  refine w_pu (st' := [.int (a2 >>> (16 &&& 31)), .int 5, .ref 387]) dX9_put_17 rfl rfl ?_
  refine w_si dX9_put_18 (c := 255) (by decide) ?_
  refine w_pu (st' := [.int ((a2 >>> (16 &&& 31)) &&& 255), .int 5, .ref 387]) dX9_put_21 rfl rfl ?_
  refine w_is dX9_put_22 hU468 rfl (k := 5) zt_5 (Nat.le_of_ble_eq_true rfl) ?_
  intro M472 hU473 hv474 hn475
  have f476 := (hn475 0 1 (by decide)).trans f471
  have f477 := (hn475 386 1 (by decide)).trans hv469
  refine w_lo dX9_put_23 rfl rfl rfl rfl ?_
  refine w_pu dX9_put_24 rfl rfl ?_
  refine w_gf dX9_put_25 rfl hU473.1 rfl f477 ?_
  refine w_ic dX9_put_28 zi_1 ?_
  refine w_pu (st' := [.int 6, .ref 386]) dX9_put_29 rfl rfl ?_
  refine w_pf dX9_put_30 rfl hU473 rfl (Nat.le_of_ble_eq_true rfl) rfl rfl rfl ?_
  intro M478 hU479 hv480 hn481
  have f482 := (hn481 0 1 (by decide)).trans f476
  refine w_lo (ml' := [some (.ref 386), some (.int a2), some (.int 8)]) dX9_put_33 rfl rfl rfl rfl ?_
  refine w_gt dX9_put_36 (t := 3) rfl ?_
  refine w_lo dX9_put_3 rfl rfl rfl rfl ?_
  refine w_ilt_f dX9_put_4 (t := 39) rfl (by decide) ?_
  refine w_lo dX9_put_7 rfl rfl rfl rfl ?_
  refine w_gf dX9_put_8 rfl hU479.1 rfl ((hU479).2 386 0 rfl |>.trans zq_386_0) ?_
  refine w_lo dX9_put_11 rfl rfl rfl rfl ?_
  refine w_gf dX9_put_12 rfl hU479.1 rfl hv480 ?_
  refine w_lo dX9_put_15 rfl rfl rfl rfl ?_
  refine w_lo dX9_put_16 rfl rfl rfl rfl ?_
  refine w_pu (st' := [.int (a2 >>> (8 &&& 31)), .int 6, .ref 387]) dX9_put_17 rfl rfl ?_
  refine w_si dX9_put_18 (c := 255) (by decide) ?_
  refine w_pu (st' := [.int ((a2 >>> (8 &&& 31)) &&& 255), .int 6, .ref 387]) dX9_put_21 rfl rfl ?_
  refine w_is dX9_put_22 hU479 rfl (k := 6) zt_6 (Nat.le_of_ble_eq_true rfl) ?_
  intro M483 hU484 hv485 hn486
  have f487 := (hn486 0 1 (by decide)).trans f482
  have f488 := (hn486 386 1 (by decide)).trans hv480
  refine w_lo dX9_put_23 rfl rfl rfl rfl ?_
  refine w_pu dX9_put_24 rfl rfl ?_
  refine w_gf dX9_put_25 rfl hU484.1 rfl f488 ?_
  refine w_ic dX9_put_28 zi_1 ?_
  refine w_pu (st' := [.int 7, .ref 386]) dX9_put_29 rfl rfl ?_
  refine w_pf dX9_put_30 rfl hU484 rfl (Nat.le_of_ble_eq_true rfl) rfl rfl rfl ?_
  intro M489 hU490 hv491 hn492
  have f493 := (hn492 0 1 (by decide)).trans f487
  refine w_lo (ml' := [some (.ref 386), some (.int a2), some (.int 0)]) dX9_put_33 rfl rfl rfl rfl ?_
  refine w_gt dX9_put_36 (t := 3) rfl ?_
  refine w_lo dX9_put_3 rfl rfl rfl rfl ?_
  refine w_ilt_f dX9_put_4 (t := 39) rfl (by decide) ?_
  refine w_lo dX9_put_7 rfl rfl rfl rfl ?_
  refine w_gf dX9_put_8 rfl hU490.1 rfl ((hU490).2 386 0 rfl |>.trans zq_386_0) ?_
  refine w_lo dX9_put_11 rfl rfl rfl rfl ?_
  refine w_gf dX9_put_12 rfl hU490.1 rfl hv491 ?_
  refine w_lo dX9_put_15 rfl rfl rfl rfl ?_
  refine w_lo dX9_put_16 rfl rfl rfl rfl ?_
  refine w_pu (st' := [.int (a2 >>> (0 &&& 31)), .int 7, .ref 387]) dX9_put_17 rfl rfl ?_
  refine w_si dX9_put_18 (c := 255) (by decide) ?_
  refine w_pu (st' := [.int ((a2 >>> (0 &&& 31)) &&& 255), .int 7, .ref 387]) dX9_put_21 rfl rfl ?_
  refine w_is dX9_put_22 hU490 rfl (k := 7) zt_7 (Nat.le_of_ble_eq_true rfl) ?_
  intro M494 hU495 hv496 hn497
  have f498 := (hn497 0 1 (by decide)).trans f493
  have f499 := (hn497 386 1 (by decide)).trans hv491
  refine w_lo dX9_put_23 rfl rfl rfl rfl ?_
  refine w_pu dX9_put_24 rfl rfl ?_
  refine w_gf dX9_put_25 rfl hU495.1 rfl f499 ?_
  refine w_ic dX9_put_28 zi_1 ?_
  refine w_pu (st' := [.int 8, .ref 386]) dX9_put_29 rfl rfl ?_
  refine w_pf dX9_put_30 rfl hU495 rfl (Nat.le_of_ble_eq_true rfl) rfl rfl rfl ?_
  intro M500 hU501 hv502 hn503
  have f504 := (hn503 0 1 (by decide)).trans f498
  refine w_lo (ml' := [some (.ref 386), some (.int a2), some (.int (-8))]) dX9_put_33 rfl rfl rfl rfl ?_
  refine w_gt dX9_put_36 (t := 3) rfl ?_
  refine w_lo dX9_put_3 rfl rfl rfl rfl ?_
  refine w_ilt_t dX9_put_4 (t := 39) rfl (by decide) ?_
  refine w_en dX9_put_39 rfl ?_
  show ZW _ 10 9 false (some .int) cX9_feed _ (29, [some (.ref 386), some (.int a1), some (.int a2), some (.int a3), some (.int a4), some (.int a5)], [], M500)
  refine w_lo dX9_feed_29 rfl rfl rfl rfl ?_
  refine w_lo dX9_feed_30 rfl rfl rfl rfl ?_
  refine w_iv dX9_feed_31 rfl rfl (As := [.int a3]) rfl rfl hU501.1 rfl (Nat.le_of_ble_eq_true rfl) ?_
  refine ZV.of (ini := false) rfl (Nat.le_of_ble_eq_true rfl) (by decide +kernel) ?_
  show ZW _ 9 9 false none cX9_put _ (0, [some (.ref 386), some (.int a3), none], [], M500)
  refine w_bi dX9_put_0 (c := 24) (by decide) ?_
  refine w_lo dX9_put_2 rfl rfl rfl rfl ?_
  refine w_lo dX9_put_3 rfl rfl rfl rfl ?_
  refine w_ilt_f dX9_put_4 (t := 39) rfl (by decide) ?_
  refine w_lo dX9_put_7 rfl rfl rfl rfl ?_
  refine w_gf dX9_put_8 rfl hU501.1 rfl ((hU501).2 386 0 rfl |>.trans zq_386_0) ?_
  refine w_lo dX9_put_11 rfl rfl rfl rfl ?_
  refine w_gf dX9_put_12 rfl hU501.1 rfl hv502 ?_
  refine w_lo dX9_put_15 rfl rfl rfl rfl ?_
  refine w_lo dX9_put_16 rfl rfl rfl rfl ?_
  refine w_pu (st' := [.int (a3 >>> (24 &&& 31)), .int 8, .ref 387]) dX9_put_17 rfl rfl ?_
  refine w_si dX9_put_18 (c := 255) (by decide) ?_
  refine w_pu (st' := [.int ((a3 >>> (24 &&& 31)) &&& 255), .int 8, .ref 387]) dX9_put_21 rfl rfl ?_
  refine w_is dX9_put_22 hU501 rfl (k := 8) zt_8 (Nat.le_of_ble_eq_true rfl) ?_
  intro M505 hU506 hv507 hn508
  have f509 := (hn508 0 1 (by decide)).trans f504
  have f510 := (hn508 386 1 (by decide)).trans hv502
  refine w_lo dX9_put_23 rfl rfl rfl rfl ?_
  refine w_pu dX9_put_24 rfl rfl ?_
  refine w_gf dX9_put_25 rfl hU506.1 rfl f510 ?_
  refine w_ic dX9_put_28 zi_1 ?_
  refine w_pu (st' := [.int 9, .ref 386]) dX9_put_29 rfl rfl ?_
  refine w_pf dX9_put_30 rfl hU506 rfl (Nat.le_of_ble_eq_true rfl) rfl rfl rfl ?_
  intro M511 hU512 hv513 hn514
  have f515 := (hn514 0 1 (by decide)).trans f509
  refine w_lo (ml' := [some (.ref 386), some (.int a3), some (.int 16)]) dX9_put_33 rfl rfl rfl rfl ?_
  refine w_gt dX9_put_36 (t := 3) rfl ?_
  refine w_lo dX9_put_3 rfl rfl rfl rfl ?_
  refine w_ilt_f dX9_put_4 (t := 39) rfl (by decide) ?_
  refine w_lo dX9_put_7 rfl rfl rfl rfl ?_
  refine w_gf dX9_put_8 rfl hU512.1 rfl ((hU512).2 386 0 rfl |>.trans zq_386_0) ?_
  refine w_lo dX9_put_11 rfl rfl rfl rfl ?_
  refine w_gf dX9_put_12 rfl hU512.1 rfl hv513 ?_
  refine w_lo dX9_put_15 rfl rfl rfl rfl ?_
  refine w_lo dX9_put_16 rfl rfl rfl rfl ?_
  refine w_pu (st' := [.int (a3 >>> (16 &&& 31)), .int 9, .ref 387]) dX9_put_17 rfl rfl ?_
  refine w_si dX9_put_18 (c := 255) (by decide) ?_
  refine w_pu (st' := [.int ((a3 >>> (16 &&& 31)) &&& 255), .int 9, .ref 387]) dX9_put_21 rfl rfl ?_
  refine w_is dX9_put_22 hU512 rfl (k := 9) zt_9 (Nat.le_of_ble_eq_true rfl) ?_
  intro M516 hU517 hv518 hn519
  have f520 := (hn519 0 1 (by decide)).trans f515
  have f521 := (hn519 386 1 (by decide)).trans hv513
  refine w_lo dX9_put_23 rfl rfl rfl rfl ?_
  refine w_pu dX9_put_24 rfl rfl ?_
  refine w_gf dX9_put_25 rfl hU517.1 rfl f521 ?_
  refine w_ic dX9_put_28 zi_1 ?_
  refine w_pu (st' := [.int 10, .ref 386]) dX9_put_29 rfl rfl ?_
  refine w_pf dX9_put_30 rfl hU517 rfl (Nat.le_of_ble_eq_true rfl) rfl rfl rfl ?_
  intro M522 hU523 hv524 hn525
  have f526 := (hn525 0 1 (by decide)).trans f520
  refine w_lo (ml' := [some (.ref 386), some (.int a3), some (.int 8)]) dX9_put_33 rfl rfl rfl rfl ?_
  refine w_gt dX9_put_36 (t := 3) rfl ?_
  refine w_lo dX9_put_3 rfl rfl rfl rfl ?_
  refine w_ilt_f dX9_put_4 (t := 39) rfl (by decide) ?_
  refine w_lo dX9_put_7 rfl rfl rfl rfl ?_
  refine w_gf dX9_put_8 rfl hU523.1 rfl ((hU523).2 386 0 rfl |>.trans zq_386_0) ?_
  refine w_lo dX9_put_11 rfl rfl rfl rfl ?_
  refine w_gf dX9_put_12 rfl hU523.1 rfl hv524 ?_
  refine w_lo dX9_put_15 rfl rfl rfl rfl ?_
  refine w_lo dX9_put_16 rfl rfl rfl rfl ?_
  refine w_pu (st' := [.int (a3 >>> (8 &&& 31)), .int 10, .ref 387]) dX9_put_17 rfl rfl ?_
  refine w_si dX9_put_18 (c := 255) (by decide) ?_
  refine w_pu (st' := [.int ((a3 >>> (8 &&& 31)) &&& 255), .int 10, .ref 387]) dX9_put_21 rfl rfl ?_
  refine w_is dX9_put_22 hU523 rfl (k := 10) zt_10 (Nat.le_of_ble_eq_true rfl) ?_
  intro M527 hU528 hv529 hn530
  have f531 := (hn530 0 1 (by decide)).trans f526
  have f532 := (hn530 386 1 (by decide)).trans hv524
  refine w_lo dX9_put_23 rfl rfl rfl rfl ?_
  refine w_pu dX9_put_24 rfl rfl ?_
  refine w_gf dX9_put_25 rfl hU528.1 rfl f532 ?_
  refine w_ic dX9_put_28 zi_1 ?_
  refine w_pu (st' := [.int 11, .ref 386]) dX9_put_29 rfl rfl ?_
  refine w_pf dX9_put_30 rfl hU528 rfl (Nat.le_of_ble_eq_true rfl) rfl rfl rfl ?_
  intro M533 hU534 hv535 hn536
  have f537 := (hn536 0 1 (by decide)).trans f531
  refine w_lo (ml' := [some (.ref 386), some (.int a3), some (.int 0)]) dX9_put_33 rfl rfl rfl rfl ?_
  refine w_gt dX9_put_36 (t := 3) rfl ?_
  refine w_lo dX9_put_3 rfl rfl rfl rfl ?_
  refine w_ilt_f dX9_put_4 (t := 39) rfl (by decide) ?_
  refine w_lo dX9_put_7 rfl rfl rfl rfl ?_
  refine w_gf dX9_put_8 rfl hU534.1 rfl ((hU534).2 386 0 rfl |>.trans zq_386_0) ?_
  refine w_lo dX9_put_11 rfl rfl rfl rfl ?_
  refine w_gf dX9_put_12 rfl hU534.1 rfl hv535 ?_
  refine w_lo dX9_put_15 rfl rfl rfl rfl ?_
  refine w_lo dX9_put_16 rfl rfl rfl rfl ?_
  refine w_pu (st' := [.int (a3 >>> (0 &&& 31)), .int 11, .ref 387]) dX9_put_17 rfl rfl ?_
  refine w_si dX9_put_18 (c := 255) (by decide) ?_
  refine w_pu (st' := [.int ((a3 >>> (0 &&& 31)) &&& 255), .int 11, .ref 387]) dX9_put_21 rfl rfl ?_
  refine w_is dX9_put_22 hU534 rfl (k := 11) zt_11 (Nat.le_of_ble_eq_true rfl) ?_
  intro M538 hU539 hv540 hn541
  have f542 := (hn541 0 1 (by decide)).trans f537
  have f543 := (hn541 386 1 (by decide)).trans hv535
  refine w_lo dX9_put_23 rfl rfl rfl rfl ?_
  refine w_pu dX9_put_24 rfl rfl ?_
  refine w_gf dX9_put_25 rfl hU539.1 rfl f543 ?_
  refine w_ic dX9_put_28 zi_1 ?_
  refine w_pu (st' := [.int 12, .ref 386]) dX9_put_29 rfl rfl ?_
  refine w_pf dX9_put_30 rfl hU539 rfl (Nat.le_of_ble_eq_true rfl) rfl rfl rfl ?_
  intro M544 hU545 hv546 hn547
  have f548 := (hn547 0 1 (by decide)).trans f542
  refine w_lo (ml' := [some (.ref 386), some (.int a3), some (.int (-8))]) dX9_put_33 rfl rfl rfl rfl ?_
  refine w_gt dX9_put_36 (t := 3) rfl ?_
  refine w_lo dX9_put_3 rfl rfl rfl rfl ?_
  refine w_ilt_t dX9_put_4 (t := 39) rfl (by decide) ?_
  refine w_en dX9_put_39 rfl ?_
  show ZW _ 10 9 false (some .int) cX9_feed _ (34, [some (.ref 386), some (.int a1), some (.int a2), some (.int a3), some (.int a4), some (.int a5)], [], M544)
  refine w_lo dX9_feed_34 rfl rfl rfl rfl ?_
  refine w_lo dX9_feed_35 rfl rfl rfl rfl ?_
  refine w_iv dX9_feed_37 rfl rfl (As := [.int a4]) rfl rfl hU545.1 rfl (Nat.le_of_ble_eq_true rfl) ?_
  refine ZV.of (ini := false) rfl (Nat.le_of_ble_eq_true rfl) (by decide +kernel) ?_
  show ZW _ 9 9 false none cX9_put _ (0, [some (.ref 386), some (.int a4), none], [], M544)
  refine w_bi dX9_put_0 (c := 24) (by decide) ?_
  refine w_lo dX9_put_2 rfl rfl rfl rfl ?_
  refine w_lo dX9_put_3 rfl rfl rfl rfl ?_
  refine w_ilt_f dX9_put_4 (t := 39) rfl (by decide) ?_
  refine w_lo dX9_put_7 rfl rfl rfl rfl ?_
  refine w_gf dX9_put_8 rfl hU545.1 rfl ((hU545).2 386 0 rfl |>.trans zq_386_0) ?_
  refine w_lo dX9_put_11 rfl rfl rfl rfl ?_
  refine w_gf dX9_put_12 rfl hU545.1 rfl hv546 ?_
  refine w_lo dX9_put_15 rfl rfl rfl rfl ?_
  refine w_lo dX9_put_16 rfl rfl rfl rfl ?_
  refine w_pu (st' := [.int (a4 >>> (24 &&& 31)), .int 12, .ref 387]) dX9_put_17 rfl rfl ?_
  refine w_si dX9_put_18 (c := 255) (by decide) ?_
  refine w_pu (st' := [.int ((a4 >>> (24 &&& 31)) &&& 255), .int 12, .ref 387]) dX9_put_21 rfl rfl ?_
  refine w_is dX9_put_22 hU545 rfl (k := 12) zt_12 (Nat.le_of_ble_eq_true rfl) ?_
  intro M549 hU550 hv551 hn552
  have f553 := (hn552 0 1 (by decide)).trans f548
  have f554 := (hn552 386 1 (by decide)).trans hv546
  refine w_lo dX9_put_23 rfl rfl rfl rfl ?_
  refine w_pu dX9_put_24 rfl rfl ?_
  refine w_gf dX9_put_25 rfl hU550.1 rfl f554 ?_
  refine w_ic dX9_put_28 zi_1 ?_
  refine w_pu (st' := [.int 13, .ref 386]) dX9_put_29 rfl rfl ?_
  refine w_pf dX9_put_30 rfl hU550 rfl (Nat.le_of_ble_eq_true rfl) rfl rfl rfl ?_
  intro M555 hU556 hv557 hn558
  have f559 := (hn558 0 1 (by decide)).trans f553
  refine w_lo (ml' := [some (.ref 386), some (.int a4), some (.int 16)]) dX9_put_33 rfl rfl rfl rfl ?_
  refine w_gt dX9_put_36 (t := 3) rfl ?_
  refine w_lo dX9_put_3 rfl rfl rfl rfl ?_
  refine w_ilt_f dX9_put_4 (t := 39) rfl (by decide) ?_
  refine w_lo dX9_put_7 rfl rfl rfl rfl ?_
  refine w_gf dX9_put_8 rfl hU556.1 rfl ((hU556).2 386 0 rfl |>.trans zq_386_0) ?_
  refine w_lo dX9_put_11 rfl rfl rfl rfl ?_
  refine w_gf dX9_put_12 rfl hU556.1 rfl hv557 ?_
  refine w_lo dX9_put_15 rfl rfl rfl rfl ?_
  refine w_lo dX9_put_16 rfl rfl rfl rfl ?_
  refine w_pu (st' := [.int (a4 >>> (16 &&& 31)), .int 13, .ref 387]) dX9_put_17 rfl rfl ?_
  refine w_si dX9_put_18 (c := 255) (by decide) ?_
  refine w_pu (st' := [.int ((a4 >>> (16 &&& 31)) &&& 255), .int 13, .ref 387]) dX9_put_21 rfl rfl ?_
  refine w_is dX9_put_22 hU556 rfl (k := 13) zt_13 (Nat.le_of_ble_eq_true rfl) ?_
  intro M560 hU561 hv562 hn563
  have f564 := (hn563 0 1 (by decide)).trans f559
  have f565 := (hn563 386 1 (by decide)).trans hv557
  refine w_lo dX9_put_23 rfl rfl rfl rfl ?_
  refine w_pu dX9_put_24 rfl rfl ?_
  refine w_gf dX9_put_25 rfl hU561.1 rfl f565 ?_
  refine w_ic dX9_put_28 zi_1 ?_
  refine w_pu (st' := [.int 14, .ref 386]) dX9_put_29 rfl rfl ?_
  refine w_pf dX9_put_30 rfl hU561 rfl (Nat.le_of_ble_eq_true rfl) rfl rfl rfl ?_
  intro M566 hU567 hv568 hn569
  have f570 := (hn569 0 1 (by decide)).trans f564
  refine w_lo (ml' := [some (.ref 386), some (.int a4), some (.int 8)]) dX9_put_33 rfl rfl rfl rfl ?_
  refine w_gt dX9_put_36 (t := 3) rfl ?_
  refine w_lo dX9_put_3 rfl rfl rfl rfl ?_
  refine w_ilt_f dX9_put_4 (t := 39) rfl (by decide) ?_
  refine w_lo dX9_put_7 rfl rfl rfl rfl ?_
  refine w_gf dX9_put_8 rfl hU567.1 rfl ((hU567).2 386 0 rfl |>.trans zq_386_0) ?_
  refine w_lo dX9_put_11 rfl rfl rfl rfl ?_
  refine w_gf dX9_put_12 rfl hU567.1 rfl hv568 ?_
  refine w_lo dX9_put_15 rfl rfl rfl rfl ?_
  refine w_lo dX9_put_16 rfl rfl rfl rfl ?_
  refine w_pu (st' := [.int (a4 >>> (8 &&& 31)), .int 14, .ref 387]) dX9_put_17 rfl rfl ?_
  refine w_si dX9_put_18 (c := 255) (by decide) ?_
  refine w_pu (st' := [.int ((a4 >>> (8 &&& 31)) &&& 255), .int 14, .ref 387]) dX9_put_21 rfl rfl ?_
  refine w_is dX9_put_22 hU567 rfl (k := 14) zt_14 (Nat.le_of_ble_eq_true rfl) ?_
  intro M571 hU572 hv573 hn574
  have f575 := (hn574 0 1 (by decide)).trans f570
  have f576 := (hn574 386 1 (by decide)).trans hv568
  refine w_lo dX9_put_23 rfl rfl rfl rfl ?_
  refine w_pu dX9_put_24 rfl rfl ?_
  refine w_gf dX9_put_25 rfl hU572.1 rfl f576 ?_
  refine w_ic dX9_put_28 zi_1 ?_
  refine w_pu (st' := [.int 15, .ref 386]) dX9_put_29 rfl rfl ?_
  refine w_pf dX9_put_30 rfl hU572 rfl (Nat.le_of_ble_eq_true rfl) rfl rfl rfl ?_
  intro M577 hU578 hv579 hn580
  have f581 := (hn580 0 1 (by decide)).trans f575
  refine w_lo (ml' := [some (.ref 386), some (.int a4), some (.int 0)]) dX9_put_33 rfl rfl rfl rfl ?_
  refine w_gt dX9_put_36 (t := 3) rfl ?_
  refine w_lo dX9_put_3 rfl rfl rfl rfl ?_
  refine w_ilt_f dX9_put_4 (t := 39) rfl (by decide) ?_
  refine w_lo dX9_put_7 rfl rfl rfl rfl ?_
  refine w_gf dX9_put_8 rfl hU578.1 rfl ((hU578).2 386 0 rfl |>.trans zq_386_0) ?_
  refine w_lo dX9_put_11 rfl rfl rfl rfl ?_
  refine w_gf dX9_put_12 rfl hU578.1 rfl hv579 ?_
  refine w_lo dX9_put_15 rfl rfl rfl rfl ?_
  refine w_lo dX9_put_16 rfl rfl rfl rfl ?_
  refine w_pu (st' := [.int (a4 >>> (0 &&& 31)), .int 15, .ref 387]) dX9_put_17 rfl rfl ?_
  refine w_si dX9_put_18 (c := 255) (by decide) ?_
  refine w_pu (st' := [.int ((a4 >>> (0 &&& 31)) &&& 255), .int 15, .ref 387]) dX9_put_21 rfl rfl ?_
  refine w_is dX9_put_22 hU578 rfl (k := 15) zt_15 (Nat.le_of_ble_eq_true rfl) ?_
  intro M582 hU583 hv584 hn585
  have f586 := (hn585 0 1 (by decide)).trans f581
  have f587 := (hn585 386 1 (by decide)).trans hv579
  refine w_lo dX9_put_23 rfl rfl rfl rfl ?_
  refine w_pu dX9_put_24 rfl rfl ?_
  refine w_gf dX9_put_25 rfl hU583.1 rfl f587 ?_
  refine w_ic dX9_put_28 zi_1 ?_
  refine w_pu (st' := [.int 16, .ref 386]) dX9_put_29 rfl rfl ?_
  refine w_pf dX9_put_30 rfl hU583 rfl (Nat.le_of_ble_eq_true rfl) rfl rfl rfl ?_
  intro M588 hU589 hv590 hn591
  have f592 := (hn591 0 1 (by decide)).trans f586
  refine w_lo (ml' := [some (.ref 386), some (.int a4), some (.int (-8))]) dX9_put_33 rfl rfl rfl rfl ?_
  refine w_gt dX9_put_36 (t := 3) rfl ?_
  refine w_lo dX9_put_3 rfl rfl rfl rfl ?_
  refine w_ilt_t dX9_put_4 (t := 39) rfl (by decide) ?_
  refine w_en dX9_put_39 rfl ?_
  show ZW _ 10 9 false (some .int) cX9_feed _ (40, [some (.ref 386), some (.int a1), some (.int a2), some (.int a3), some (.int a4), some (.int a5)], [], M588)
  refine w_lo dX9_feed_40 rfl rfl rfl rfl ?_
  refine w_lo dX9_feed_41 rfl rfl rfl rfl ?_
  refine w_iv dX9_feed_43 rfl rfl (As := [.int a5]) rfl rfl hU589.1 rfl (Nat.le_of_ble_eq_true rfl) ?_
  refine ZV.of (ini := false) rfl (Nat.le_of_ble_eq_true rfl) (by decide +kernel) ?_
  show ZW _ 9 9 false none cX9_put _ (0, [some (.ref 386), some (.int a5), none], [], M588)
  refine w_bi dX9_put_0 (c := 24) (by decide) ?_
  refine w_lo dX9_put_2 rfl rfl rfl rfl ?_
  refine w_lo dX9_put_3 rfl rfl rfl rfl ?_
  refine w_ilt_f dX9_put_4 (t := 39) rfl (by decide) ?_
  refine w_lo dX9_put_7 rfl rfl rfl rfl ?_
  refine w_gf dX9_put_8 rfl hU589.1 rfl ((hU589).2 386 0 rfl |>.trans zq_386_0) ?_
  refine w_lo dX9_put_11 rfl rfl rfl rfl ?_
  refine w_gf dX9_put_12 rfl hU589.1 rfl hv590 ?_
  refine w_lo dX9_put_15 rfl rfl rfl rfl ?_
  refine w_lo dX9_put_16 rfl rfl rfl rfl ?_
  refine w_pu (st' := [.int (a5 >>> (24 &&& 31)), .int 16, .ref 387]) dX9_put_17 rfl rfl ?_
  refine w_si dX9_put_18 (c := 255) (by decide) ?_
  refine w_pu (st' := [.int ((a5 >>> (24 &&& 31)) &&& 255), .int 16, .ref 387]) dX9_put_21 rfl rfl ?_
  refine w_is dX9_put_22 hU589 rfl (k := 16) zt_16 (Nat.le_of_ble_eq_true rfl) ?_
  intro M593 hU594 hv595 hn596
  have f597 := (hn596 0 1 (by decide)).trans f592
  have f598 := (hn596 386 1 (by decide)).trans hv590
  refine w_lo dX9_put_23 rfl rfl rfl rfl ?_
  refine w_pu dX9_put_24 rfl rfl ?_
  refine w_gf dX9_put_25 rfl hU594.1 rfl f598 ?_
  refine w_ic dX9_put_28 zi_1 ?_
  refine w_pu (st' := [.int 17, .ref 386]) dX9_put_29 rfl rfl ?_
  refine w_pf dX9_put_30 rfl hU594 rfl (Nat.le_of_ble_eq_true rfl) rfl rfl rfl ?_
  intro M599 hU600 hv601 hn602
  have f603 := (hn602 0 1 (by decide)).trans f597
  refine w_lo (ml' := [some (.ref 386), some (.int a5), some (.int 16)]) dX9_put_33 rfl rfl rfl rfl ?_
  refine w_gt dX9_put_36 (t := 3) rfl ?_
  refine w_lo dX9_put_3 rfl rfl rfl rfl ?_
  refine w_ilt_f dX9_put_4 (t := 39) rfl (by decide) ?_
  refine w_lo dX9_put_7 rfl rfl rfl rfl ?_
  refine w_gf dX9_put_8 rfl hU600.1 rfl ((hU600).2 386 0 rfl |>.trans zq_386_0) ?_
  refine w_lo dX9_put_11 rfl rfl rfl rfl ?_
  refine w_gf dX9_put_12 rfl hU600.1 rfl hv601 ?_
  refine w_lo dX9_put_15 rfl rfl rfl rfl ?_
  refine w_lo dX9_put_16 rfl rfl rfl rfl ?_
  refine w_pu (st' := [.int (a5 >>> (16 &&& 31)), .int 17, .ref 387]) dX9_put_17 rfl rfl ?_
  refine w_si dX9_put_18 (c := 255) (by decide) ?_
  refine w_pu (st' := [.int ((a5 >>> (16 &&& 31)) &&& 255), .int 17, .ref 387]) dX9_put_21 rfl rfl ?_
  refine w_is dX9_put_22 hU600 rfl (k := 17) zt_17 (Nat.le_of_ble_eq_true rfl) ?_
  intro M604 hU605 hv606 hn607
  have f608 := (hn607 0 1 (by decide)).trans f603
  have f609 := (hn607 386 1 (by decide)).trans hv601
  refine w_lo dX9_put_23 rfl rfl rfl rfl ?_
  refine w_pu dX9_put_24 rfl rfl ?_
  refine w_gf dX9_put_25 rfl hU605.1 rfl f609 ?_
  refine w_ic dX9_put_28 zi_1 ?_
  refine w_pu (st' := [.int 18, .ref 386]) dX9_put_29 rfl rfl ?_
  refine w_pf dX9_put_30 rfl hU605 rfl (Nat.le_of_ble_eq_true rfl) rfl rfl rfl ?_
  intro M610 hU611 hv612 hn613
  have f614 := (hn613 0 1 (by decide)).trans f608
  refine w_lo (ml' := [some (.ref 386), some (.int a5), some (.int 8)]) dX9_put_33 rfl rfl rfl rfl ?_
  refine w_gt dX9_put_36 (t := 3) rfl ?_
  refine w_lo dX9_put_3 rfl rfl rfl rfl ?_
  refine w_ilt_f dX9_put_4 (t := 39) rfl (by decide) ?_
  refine w_lo dX9_put_7 rfl rfl rfl rfl ?_
  refine w_gf dX9_put_8 rfl hU611.1 rfl ((hU611).2 386 0 rfl |>.trans zq_386_0) ?_
  refine w_lo dX9_put_11 rfl rfl rfl rfl ?_
  refine w_gf dX9_put_12 rfl hU611.1 rfl hv612 ?_
  refine w_lo dX9_put_15 rfl rfl rfl rfl ?_
  refine w_lo dX9_put_16 rfl rfl rfl rfl ?_
  refine w_pu (st' := [.int (a5 >>> (8 &&& 31)), .int 18, .ref 387]) dX9_put_17 rfl rfl ?_
  refine w_si dX9_put_18 (c := 255) (by decide) ?_
  refine w_pu (st' := [.int ((a5 >>> (8 &&& 31)) &&& 255), .int 18, .ref 387]) dX9_put_21 rfl rfl ?_
  refine w_is dX9_put_22 hU611 rfl (k := 18) zt_18 (Nat.le_of_ble_eq_true rfl) ?_
  intro M615 hU616 hv617 hn618
  have f619 := (hn618 0 1 (by decide)).trans f614
  have f620 := (hn618 386 1 (by decide)).trans hv612
  refine w_lo dX9_put_23 rfl rfl rfl rfl ?_
  refine w_pu dX9_put_24 rfl rfl ?_
  refine w_gf dX9_put_25 rfl hU616.1 rfl f620 ?_
  refine w_ic dX9_put_28 zi_1 ?_
  refine w_pu (st' := [.int 19, .ref 386]) dX9_put_29 rfl rfl ?_
  refine w_pf dX9_put_30 rfl hU616 rfl (Nat.le_of_ble_eq_true rfl) rfl rfl rfl ?_
  intro M621 hU622 hv623 hn624
  have f625 := (hn624 0 1 (by decide)).trans f619
  refine w_lo (ml' := [some (.ref 386), some (.int a5), some (.int 0)]) dX9_put_33 rfl rfl rfl rfl ?_
  refine w_gt dX9_put_36 (t := 3) rfl ?_
  refine w_lo dX9_put_3 rfl rfl rfl rfl ?_
  refine w_ilt_f dX9_put_4 (t := 39) rfl (by decide) ?_
  refine w_lo dX9_put_7 rfl rfl rfl rfl ?_
  refine w_gf dX9_put_8 rfl hU622.1 rfl ((hU622).2 386 0 rfl |>.trans zq_386_0) ?_
  refine w_lo dX9_put_11 rfl rfl rfl rfl ?_
  refine w_gf dX9_put_12 rfl hU622.1 rfl hv623 ?_
  refine w_lo dX9_put_15 rfl rfl rfl rfl ?_
  refine w_lo dX9_put_16 rfl rfl rfl rfl ?_
  refine w_pu (st' := [.int (a5 >>> (0 &&& 31)), .int 19, .ref 387]) dX9_put_17 rfl rfl ?_
  refine w_si dX9_put_18 (c := 255) (by decide) ?_
  refine w_pu (st' := [.int ((a5 >>> (0 &&& 31)) &&& 255), .int 19, .ref 387]) dX9_put_21 rfl rfl ?_
  refine w_is dX9_put_22 hU622 rfl (k := 19) zt_19 (Nat.le_of_ble_eq_true rfl) ?_
  intro M626 hU627 hv628 hn629
  have f630 := (hn629 0 1 (by decide)).trans f625
  have f631 := (hn629 386 1 (by decide)).trans hv623
  refine w_lo dX9_put_23 rfl rfl rfl rfl ?_
  refine w_pu dX9_put_24 rfl rfl ?_
  refine w_gf dX9_put_25 rfl hU627.1 rfl f631 ?_
  refine w_ic dX9_put_28 zi_1 ?_
  refine w_pu (st' := [.int 20, .ref 386]) dX9_put_29 rfl rfl ?_
  refine w_pf dX9_put_30 rfl hU627 rfl (Nat.le_of_ble_eq_true rfl) rfl rfl rfl ?_
  intro M632 hU633 hv634 hn635
  have f636 := (hn635 0 1 (by decide)).trans f630
  refine w_lo (ml' := [some (.ref 386), some (.int a5), some (.int (-8))]) dX9_put_33 rfl rfl rfl rfl ?_
  refine w_gt dX9_put_36 (t := 3) rfl ?_
  refine w_lo dX9_put_3 rfl rfl rfl rfl ?_
  refine w_ilt_t dX9_put_4 (t := 39) rfl (by decide) ?_
  refine w_en dX9_put_39 rfl ?_
  show ZW _ 10 9 false (some .int) cX9_feed _ (46, [some (.ref 386), some (.int a1), some (.int a2), some (.int a3), some (.int a4), some (.int a5)], [], M632)
  refine w_lo dX9_feed_46 rfl rfl rfl rfl ?_
  refine w_gf dX9_feed_47 rfl hU633.1 rfl hv634 ?_
  refine w_en dX9_feed_50 rfl ?_
  exact ⟨rfl, hU415.1, hU633.1⟩
