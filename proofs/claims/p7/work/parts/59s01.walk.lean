/-! walks by pure conditions (wip/safe/vcp.py) -/
set_option maxHeartbeats 20000000 in
set_option maxRecDepth 100000 in
theorem u_2325 {X : List Int32} {d N : Nat} {M0 : zM}  (hN : N ≤ 600) (hB0 : zB N M0) {Q : zF → Prop} (hb : b_2325 (zi M0) Q) : ZV X (d + 4) 2325 [.ref 386] M0 (zRV N [(395, 396, 1000), (386, 387, 3), (386, 387, 4), (386, 387, 5), (386, 387, 6), (386, 387, 7), (386, 387, 8), (386, 387, 9)] M0 (fun M' => Q (zi M'))) := by
  have hJ0 : zJ N [(395, 396, 1000), (386, 387, 3), (386, 387, 4), (386, 387, 5), (386, 387, 6), (386, 387, 7), (386, 387, 8), (386, 387, 9)] M0 M0 := zJ_refl hB0
  refine ZV.of (ini := false) rfl (Nat.le_of_ble_eq_true rfl) (by decide +kernel) ?_
  unfold b_2325 at hb
  replace hb : zHd _ := hb
  show ZW _ _ _ _ _ _ _ (0, [some (.ref 386), none, none], [], M0)
  refine w_lo dX9_slacking_0 rfl rfl rfl rfl ?_
  refine w_ic dX9_slacking_1 zi_0 ?_
  refine w_iv dX9_slacking_2 rfl rfl (As := [.int 0]) rfl rfl hJ0.1.1 zs_386 (Nat.le_of_ble_eq_true rfl) ?_
  refine ZV.of (ini := false) rfl (Nat.le_of_ble_eq_true rfl) (by decide +kernel) ?_
  show ZW _ _ _ _ _ _ _ (0, [some (.ref 386), some (.int 0)], [], M0)
  refine w_lo dX9_counts_0 rfl rfl rfl rfl ?_
  refine w_gfi dX9_counts_1 rfl hJ0.1 zs_386 (Nat.le_of_ble_eq_true rfl) zo_386_8 ?_
  intro x1 f2 h3 h4
  replace hb : zHd _ := hb x1.toInt (ziE f2) h3 h4
  rcases Int.decEq x1.toInt (0 : Int) with h5 | h5
  · skip
    replace hb : zHd _ := hb.1 h5
    refine w_ine_t dX9_counts_4 (t := 20) rfl (by omega) ?_
    refine w_lo dX9_counts_20 rfl rfl rfl rfl ?_
    refine w_gf dX9_counts_21 rfl hJ0.1.1 zs_386 f2 ?_
    refine w_ine_t dX9_counts_24 (t := 31) rfl (by omega) ?_
    refine w_lo dX9_counts_31 rfl rfl rfl rfl ?_
    refine w_gf dX9_counts_32 rfl hJ0.1.1 zs_386 f2 ?_
    refine w_ine_t dX9_counts_35 (t := 42) rfl (by omega) ?_
    refine w_ic dX9_counts_42 zi_0 ?_
    refine w_en dX9_counts_43 rfl ?_
    show ZW _ _ _ _ _ _ _ (5, [some (.ref 386), none, none], [.int 0], M0)
    refine w_ine_f dX9_slacking_5 (t := 9) rfl (by have := zt_0; omega) ?_
    refine w_en dX9_slacking_8 rfl ?_
    exact ⟨_, rfl, hJ0, hb⟩
  · skip
    replace hb : zHd _ := hb.2 h5
    refine w_ine_f dX9_counts_4 (t := 20) rfl (by omega) ?_
    refine w_lo dX9_counts_7 rfl rfl rfl rfl ?_
    refine w_ieq_t dX9_counts_8 (t := 20) rfl (by have := zt_0; omega) ?_
    refine w_lo dX9_counts_20 rfl rfl rfl rfl ?_
    refine w_gf dX9_counts_21 rfl hJ0.1.1 zs_386 f2 ?_
    refine w_ine_f dX9_counts_24 (t := 31) rfl (by omega) ?_
    refine w_lo dX9_counts_27 rfl rfl rfl rfl ?_
    refine w_iv dX9_counts_28 rfl rfl (As := []) rfl rfl hJ0.1.1 zs_386 (Nat.le_of_ble_eq_true rfl) ?_
    obtain ⟨P8, hp9, hb⟩ := hb
    replace hb : zHd _ := hb
    refine ZV.imp (u_2310 hN hJ0.1 hp9) ?_
    rintro _ ⟨M6, rfl, hJ7, hq10⟩
    replace hb : zHd _ := hb  (zi M6) (zi_fr hJ7.2) hq10
    have hJ12 := zJ_trans hJ0 hJ7 (zSub_cons (fun _ _ h h' hk => zIR_s (zIR_e (by omega) (by omega) hk)) (zSub_cons (fun _ _ h h' hk => zIR_s (zIR_s (zIR_e (by omega) (by omega) hk))) (zSub_cons (fun _ _ h h' hk => zIR_s (zIR_s (zIR_s (zIR_e (by omega) (by omega) hk)))) (zSub_cons (fun _ _ h h' hk => zIR_s (zIR_s (zIR_s (zIR_s (zIR_e (by omega) (by omega) hk))))) (zSub_cons (fun _ _ h h' hk => zIR_s (zIR_s (zIR_s (zIR_s (zIR_s (zIR_e (by omega) (by omega) hk)))))) (zSub_cons (fun _ _ h h' hk => zIR_s (zIR_s (zIR_s (zIR_s (zIR_s (zIR_s (zIR_e (by omega) (by omega) hk))))))) (zSub_cons (fun _ _ h h' hk => zIR_s (zIR_s (zIR_s (zIR_s (zIR_s (zIR_s (zIR_s (zIR_e (by omega) (by omega) hk)))))))) zSub_nil)))))))
    show ZW _ _ _ _ _ _ _ (31, [some (.ref 386), some (.int 0)], [], M6)
    refine w_lo dX9_counts_31 rfl rfl rfl rfl ?_
    refine w_gfi dX9_counts_32 rfl hJ12.1 zs_386 (Nat.le_of_ble_eq_true rfl) zo_386_8 ?_
    intro x13 f14 h15 h16
    replace hb : zHd _ := hb x13.toInt (ziE f14) h15 h16
    rcases Int.decEq x13.toInt (0 : Int) with h17 | h17
    · skip
      replace hb : zHd _ := hb.1 h17
      refine w_ine_t dX9_counts_35 (t := 42) rfl (by omega) ?_
      refine w_ic dX9_counts_42 zi_0 ?_
      refine w_en dX9_counts_43 rfl ?_
      show ZW _ _ _ _ _ _ _ (5, [some (.ref 386), none, none], [.int 0], M6)
      refine w_ine_f dX9_slacking_5 (t := 9) rfl (by have := zt_0; omega) ?_
      refine w_en dX9_slacking_8 rfl ?_
      exact ⟨_, rfl, hJ12, hb⟩
    · skip
      replace hb : zHd _ := hb.2 h17
      refine w_ine_f dX9_counts_35 (t := 42) rfl (by omega) ?_
      refine w_ic dX9_counts_38 zi_1 ?_
      refine w_gt dX9_counts_39 (t := 43) rfl ?_
      refine w_en dX9_counts_43 rfl ?_
      show ZW _ _ _ _ _ _ _ (5, [some (.ref 386), none, none], [.int 1], M6)
      refine w_ine_t dX9_slacking_5 (t := 9) rfl (by have := zt_1; omega) ?_
      refine w_lo dX9_slacking_9 rfl rfl rfl rfl ?_
      refine w_ic dX9_slacking_10 zi_0 ?_
      refine w_bi dX9_slacking_11 (c := 99) (by decide) ?_
      refine w_iv dX9_slacking_13 rfl rfl (As := [.int 0, .int 99]) rfl rfl hJ12.1.1 zs_386 (Nat.le_of_ble_eq_true rfl) ?_
      obtain ⟨P20, hp21, hb⟩ := hb
      replace hb : zHd _ := hb
      have hp21c : b_2322 (zi M6) (0 : Int32).toInt (99 : Int32).toInt P20 := by rw [zt_0, zt_99]; exact hp21
      refine ZV.imp (u_2322 0 99 hN hJ12.1 hp21c) ?_
      rintro _ ⟨x23, M18, rfl, h24, h25, hJ19, hq22⟩
      replace hb : zHd _ := hb x23.toInt  (zi M18) (zi_fr hJ19.2) hq22
      have hJ27 := zJ_trans hJ12 hJ19 (zSub_cons (fun _ _ h h' hk => zIR_s (zIR_e (by omega) (by omega) hk)) (zSub_cons (fun _ _ h h' hk => zIR_s (zIR_s (zIR_e (by omega) (by omega) hk))) (zSub_cons (fun _ _ h h' hk => zIR_s (zIR_s (zIR_s (zIR_e (by omega) (by omega) hk)))) (zSub_cons (fun _ _ h h' hk => zIR_s (zIR_s (zIR_s (zIR_s (zIR_e (by omega) (by omega) hk))))) (zSub_cons (fun _ _ h h' hk => zIR_s (zIR_s (zIR_s (zIR_s (zIR_s (zIR_e (by omega) (by omega) hk)))))) (zSub_cons (fun _ _ h h' hk => zIR_s (zIR_s (zIR_s (zIR_s (zIR_s (zIR_s (zIR_e (by omega) (by omega) hk))))))) (zSub_cons (fun _ _ h h' hk => zIR_s (zIR_s (zIR_s (zIR_s (zIR_s (zIR_s (zIR_s (zIR_e (by omega) (by omega) hk)))))))) zSub_nil)))))))
      show ZW _ _ _ _ _ _ _ (16, [some (.ref 386), none, none], [.int x23], M18)
      refine w_lo (ml' := [some (.ref 386), some (.int x23), none]) dX9_slacking_16 rfl rfl rfl rfl ?_
      refine w_lo dX9_slacking_17 rfl rfl rfl rfl ?_
      refine w_me (st' := [.long (24948 : Int64), .ref 386]) dX9_slacking_18 rfl rfl rfl rfl rfl ?_
      refine w_iv dX9_slacking_21 rfl rfl (As := [.long (24948 : Int64)]) rfl rfl hJ27.1.1 zs_386 (Nat.le_of_ble_eq_true rfl) ?_
      obtain ⟨P30, hp31, hb⟩ := hb
      replace hb : zHd _ := hb
      have hp31c : b_2321 (zi M18) (24948 : Int64).toInt P30 := by rw [ztl_24948]; exact hp31
      refine ZV.imp (u_2321 (24948 : Int64) hN hJ27.1 hp31c) ?_
      rintro _ ⟨M28, rfl, hJ29, hq32⟩
      replace hb : zHd _ := hb  (zi M28) (zi_fr hJ29.2) hq32
      have hJ34 := zJ_trans hJ27 hJ29 (zSub_cons (fun _ _ h h' hk => zIR_s (zIR_e (by omega) (by omega) hk)) (zSub_cons (fun _ _ h h' hk => zIR_s (zIR_s (zIR_e (by omega) (by omega) hk))) (zSub_cons (fun _ _ h h' hk => zIR_s (zIR_s (zIR_s (zIR_e (by omega) (by omega) hk)))) (zSub_cons (fun _ _ h h' hk => zIR_s (zIR_s (zIR_s (zIR_s (zIR_e (by omega) (by omega) hk))))) (zSub_cons (fun _ _ h h' hk => zIR_s (zIR_s (zIR_s (zIR_s (zIR_s (zIR_e (by omega) (by omega) hk)))))) (zSub_cons (fun _ _ h h' hk => zIR_s (zIR_s (zIR_s (zIR_s (zIR_s (zIR_s (zIR_e (by omega) (by omega) hk))))))) (zSub_cons (fun _ _ h h' hk => zIR_s (zIR_s (zIR_s (zIR_s (zIR_s (zIR_s (zIR_s (zIR_e (by omega) (by omega) hk)))))))) zSub_nil)))))))
      show ZW _ _ _ _ _ _ _ (24, [some (.ref 386), some (.int x23), none], [], M28)
      refine w_lo dX9_slacking_24 rfl rfl rfl rfl ?_
      refine w_ic dX9_slacking_25 zi_0 ?_
      refine w_bi dX9_slacking_26 (c := 10) (by decide) ?_
      refine w_iv dX9_slacking_28 rfl rfl (As := [.int 0, .int 10]) rfl rfl hJ34.1.1 zs_386 (Nat.le_of_ble_eq_true rfl) ?_
      obtain ⟨P37, hp38, hb⟩ := hb
      replace hb : zHd _ := hb
      have hp38c : b_2322 (zi M28) (0 : Int32).toInt (10 : Int32).toInt P37 := by rw [zt_0, zt_10]; exact hp38
      refine ZV.imp (u_2322 0 10 hN hJ34.1 hp38c) ?_
      rintro _ ⟨x40, M35, rfl, h41, h42, hJ36, hq39⟩
      replace hb : zHd _ := hb x40.toInt  (zi M35) (zi_fr hJ36.2) hq39
      have hJ44 := zJ_trans hJ34 hJ36 (zSub_cons (fun _ _ h h' hk => zIR_s (zIR_e (by omega) (by omega) hk)) (zSub_cons (fun _ _ h h' hk => zIR_s (zIR_s (zIR_e (by omega) (by omega) hk))) (zSub_cons (fun _ _ h h' hk => zIR_s (zIR_s (zIR_s (zIR_e (by omega) (by omega) hk)))) (zSub_cons (fun _ _ h h' hk => zIR_s (zIR_s (zIR_s (zIR_s (zIR_e (by omega) (by omega) hk))))) (zSub_cons (fun _ _ h h' hk => zIR_s (zIR_s (zIR_s (zIR_s (zIR_s (zIR_e (by omega) (by omega) hk)))))) (zSub_cons (fun _ _ h h' hk => zIR_s (zIR_s (zIR_s (zIR_s (zIR_s (zIR_s (zIR_e (by omega) (by omega) hk))))))) (zSub_cons (fun _ _ h h' hk => zIR_s (zIR_s (zIR_s (zIR_s (zIR_s (zIR_s (zIR_s (zIR_e (by omega) (by omega) hk)))))))) zSub_nil)))))))
      show ZW _ _ _ _ _ _ _ (31, [some (.ref 386), some (.int x23), none], [.int x40], M35)
      refine w_lo (ml' := [some (.ref 386), some (.int x23), some (.int x40)]) dX9_slacking_31 rfl rfl rfl rfl ?_
      refine w_lo dX9_slacking_32 rfl rfl rfl rfl ?_
      refine w_gfi dX9_slacking_33 rfl hJ44.1 zs_386 (Nat.le_of_ble_eq_true rfl) zo_386_8 ?_
      intro x45 f46 h47 h48
      replace hb : zHd _ := hb x45.toInt (ziE f46) h47 h48
      rcases Int.decEq x45.toInt (0 : Int) with h49 | h49
      · skip
        replace hb : zHd _ := hb.1 h49
        refine w_ine_t dX9_slacking_36 (t := 54) rfl (by omega) ?_
        refine w_en dX9_slacking_54 rfl ?_
        exact ⟨_, rfl, hJ44, hb⟩
      · skip
        replace hb : zHd _ := hb.2 h49
        refine w_ine_f dX9_slacking_36 (t := 54) rfl (by omega) ?_
        refine w_lo dX9_slacking_39 rfl rfl rfl rfl ?_
        refine w_gf dX9_slacking_40 rfl hJ44.1.1 zs_386 (zr_386_20 hJ44.1) ?_
        refine w_bi dX9_slacking_43 (c := 11) (by decide) ?_
        refine w_lo dX9_slacking_45 rfl rfl rfl rfl ?_
        refine w_gfi dX9_slacking_46 rfl hJ44.1 zs_386 (Nat.le_of_ble_eq_true rfl) zo_386_35 ?_
        intro x50 f51 h52 h53
        replace hb : zHd _ := hb x50.toInt (ziE f51) h52 h53
        refine w_mulc dX9_slacking_49 zt_11 (by have := zt_11; omega) ?_
        intro x54 h55
        have := zt_11
        replace hb : zHd _ := hb x54.toInt (by have := zt_11; omega)
        refine w_lo dX9_slacking_50 rfl rfl rfl rfl ?_
        have h56 := hb.1
        replace hb : zHd _ := hb.2
        refine w_add dX9_slacking_51 (by omega) ?_
        intro x57 h58
        replace hb : zHd _ := hb x57.toInt (by omega)
        refine w_lo dX9_slacking_52 rfl rfl rfl rfl ?_
        have h59 := hb.1
        replace hb : zHd _ := hb.2
        refine w_isi dX9_slacking_53 hJ44 zs_395 (by omega) (by omega) zu_395 (zbot _) (ztop _) (zIR_a (by omega) (by omega)) ?_
        intro M60 hJ61 f62 hn63
        replace hb : zHd _ := hb (zi M60) (zi_zup hn63 f62 rfl rfl)
        refine w_en dX9_slacking_54 rfl ?_
        exact ⟨_, rfl, hJ61, hb⟩
set_option maxHeartbeats 20000000 in
set_option maxRecDepth 100000 in
theorem u_2326 {X : List Int32} {d N : Nat} {M0 : zM}  (hN : N ≤ 600) (hB0 : zB N M0) {Q : zF → Prop} (hb : b_2326 (zi M0) Q) : ZV X (d + 4) 2326 [.ref 386] M0 (zRV N [(396, 402, 1000), (386, 387, 3), (386, 387, 4), (386, 387, 5), (386, 387, 6), (386, 387, 7), (386, 387, 8), (386, 387, 9)] M0 (fun M' => Q (zi M'))) := by
  have hJ0 : zJ N [(396, 402, 1000), (386, 387, 3), (386, 387, 4), (386, 387, 5), (386, 387, 6), (386, 387, 7), (386, 387, 8), (386, 387, 9)] M0 M0 := zJ_refl hB0
  refine ZV.of (ini := false) rfl (Nat.le_of_ble_eq_true rfl) (by decide +kernel) ?_
  unfold b_2326 at hb
  replace hb : zHd _ := hb
  show ZW _ _ _ _ _ _ _ (0, [some (.ref 386), none], [], M0)
  refine w_lo dX9_dreaming_0 rfl rfl rfl rfl ?_
  refine w_lo dX9_dreaming_1 rfl rfl rfl rfl ?_
  refine w_gf dX9_dreaming_2 rfl hJ0.1.1 zs_386 (zr_386_21 hJ0.1) ?_
  refine w_lo dX9_dreaming_5 rfl rfl rfl rfl ?_
  refine w_gfi dX9_dreaming_6 rfl hJ0.1 zs_386 (Nat.le_of_ble_eq_true rfl) zo_386_35 ?_
  intro x1 f2 h3 h4
  replace hb : zHd _ := hb x1.toInt (ziE f2) h3 h4
  refine w_iai dX9_dreaming_9 hJ0.1 zs_396 (by omega) (by omega) zu_396 ?_
  intro x8 f5 h6 h7
  replace hb : zHd _ := hb x8.toInt (ziEk f5 rfl) h6 h7
  refine w_bi dX9_dreaming_10 (c := 6) (by decide) ?_
  rcases Int.decEq x8.toInt (6 : Int) with h9 | h9
  · skip
    replace hb : zHd _ := hb.1 h9
    refine w_cne_t dX9_dreaming_12 (t := 19) rfl (by have := zt_6; omega) ?_
    refine w_ic dX9_dreaming_19 zi_0 ?_
    refine w_iv dX9_dreaming_20 rfl rfl (As := [.int 0]) rfl rfl hJ0.1.1 zs_386 (Nat.le_of_ble_eq_true rfl) ?_
    refine ZV.of (ini := false) rfl (Nat.le_of_ble_eq_true rfl) (by decide +kernel) ?_
    show ZW _ _ _ _ _ _ _ (0, [some (.ref 386), some (.int 0)], [], M0)
    refine w_lo dX9_counts_0 rfl rfl rfl rfl ?_
    refine w_gfi dX9_counts_1 rfl hJ0.1 zs_386 (Nat.le_of_ble_eq_true rfl) zo_386_8 ?_
    intro x10 f11 h12 h13
    replace hb : zHd _ := hb x10.toInt (ziE f11) h12 h13
    rcases Int.decEq x10.toInt (0 : Int) with h14 | h14
    · skip
      replace hb : zHd _ := hb.1 h14
      refine w_ine_t dX9_counts_4 (t := 20) rfl (by omega) ?_
      refine w_lo dX9_counts_20 rfl rfl rfl rfl ?_
      refine w_gf dX9_counts_21 rfl hJ0.1.1 zs_386 f11 ?_
      refine w_ine_t dX9_counts_24 (t := 31) rfl (by omega) ?_
      refine w_lo dX9_counts_31 rfl rfl rfl rfl ?_
      refine w_gf dX9_counts_32 rfl hJ0.1.1 zs_386 f11 ?_
      refine w_ine_t dX9_counts_35 (t := 42) rfl (by omega) ?_
      refine w_ic dX9_counts_42 zi_0 ?_
      refine w_en dX9_counts_43 rfl ?_
      show ZW _ _ _ _ _ _ _ (23, [some (.ref 386), none], [.int 0], M0)
      refine w_ine_f dX9_dreaming_23 (t := 27) rfl (by have := zt_0; omega) ?_
      refine w_en dX9_dreaming_26 rfl ?_
      exact ⟨_, rfl, hJ0, hb⟩
    · skip
      replace hb : zHd _ := hb.2 h14
      refine w_ine_f dX9_counts_4 (t := 20) rfl (by omega) ?_
      refine w_lo dX9_counts_7 rfl rfl rfl rfl ?_
      refine w_ieq_t dX9_counts_8 (t := 20) rfl (by have := zt_0; omega) ?_
      refine w_lo dX9_counts_20 rfl rfl rfl rfl ?_
      refine w_gf dX9_counts_21 rfl hJ0.1.1 zs_386 f11 ?_
      refine w_ine_f dX9_counts_24 (t := 31) rfl (by omega) ?_
      refine w_lo dX9_counts_27 rfl rfl rfl rfl ?_
      refine w_iv dX9_counts_28 rfl rfl (As := []) rfl rfl hJ0.1.1 zs_386 (Nat.le_of_ble_eq_true rfl) ?_
      obtain ⟨P17, hp18, hb⟩ := hb
      replace hb : zHd _ := hb
      refine ZV.imp (u_2310 hN hJ0.1 hp18) ?_
      rintro _ ⟨M15, rfl, hJ16, hq19⟩
      replace hb : zHd _ := hb  (zi M15) (zi_fr hJ16.2) hq19
      have hJ21 := zJ_trans hJ0 hJ16 (zSub_cons (fun _ _ h h' hk => zIR_s (zIR_e (by omega) (by omega) hk)) (zSub_cons (fun _ _ h h' hk => zIR_s (zIR_s (zIR_e (by omega) (by omega) hk))) (zSub_cons (fun _ _ h h' hk => zIR_s (zIR_s (zIR_s (zIR_e (by omega) (by omega) hk)))) (zSub_cons (fun _ _ h h' hk => zIR_s (zIR_s (zIR_s (zIR_s (zIR_e (by omega) (by omega) hk))))) (zSub_cons (fun _ _ h h' hk => zIR_s (zIR_s (zIR_s (zIR_s (zIR_s (zIR_e (by omega) (by omega) hk)))))) (zSub_cons (fun _ _ h h' hk => zIR_s (zIR_s (zIR_s (zIR_s (zIR_s (zIR_s (zIR_e (by omega) (by omega) hk))))))) (zSub_cons (fun _ _ h h' hk => zIR_s (zIR_s (zIR_s (zIR_s (zIR_s (zIR_s (zIR_s (zIR_e (by omega) (by omega) hk)))))))) zSub_nil)))))))
      show ZW _ _ _ _ _ _ _ (31, [some (.ref 386), some (.int 0)], [], M15)
      refine w_lo dX9_counts_31 rfl rfl rfl rfl ?_
      refine w_gfi dX9_counts_32 rfl hJ21.1 zs_386 (Nat.le_of_ble_eq_true rfl) zo_386_8 ?_
      intro x22 f23 h24 h25
      replace hb : zHd _ := hb x22.toInt (ziE f23) h24 h25
      rcases Int.decEq x22.toInt (0 : Int) with h26 | h26
      · skip
        replace hb : zHd _ := hb.1 h26
        refine w_ine_t dX9_counts_35 (t := 42) rfl (by omega) ?_
        refine w_ic dX9_counts_42 zi_0 ?_
        refine w_en dX9_counts_43 rfl ?_
        show ZW _ _ _ _ _ _ _ (23, [some (.ref 386), none], [.int 0], M15)
        refine w_ine_f dX9_dreaming_23 (t := 27) rfl (by have := zt_0; omega) ?_
        refine w_en dX9_dreaming_26 rfl ?_
        exact ⟨_, rfl, hJ21, hb⟩
      · skip
        replace hb : zHd _ := hb.2 h26
        refine w_ine_f dX9_counts_35 (t := 42) rfl (by omega) ?_
        refine w_ic dX9_counts_38 zi_1 ?_
        refine w_gt dX9_counts_39 (t := 43) rfl ?_
        refine w_en dX9_counts_43 rfl ?_
        show ZW _ _ _ _ _ _ _ (23, [some (.ref 386), none], [.int 1], M15)
        refine w_ine_t dX9_dreaming_23 (t := 27) rfl (by have := zt_1; omega) ?_
        refine w_bi dX9_dreaming_27 (c := 6) (by decide) ?_
        refine w_lo dX9_dreaming_29 rfl rfl rfl rfl ?_
        have f27 := (hJ16.2 (386) 35 (zNI_k (by decide) (by decide) (zNI_k (by decide) (by decide) (zNI_k (by decide) (by decide) (zNI_k (by decide) (by decide) (zNI_k (by decide) (by decide) (zNI_k (by decide) (by decide) (zNI_k (by decide) (by decide) zNI_nil)))))))).trans (f2)
        refine w_gf dX9_dreaming_30 rfl hJ21.1.1 zs_386 f27 ?_
        refine w_mulc dX9_dreaming_33 zt_6 (by have := zt_6; omega) ?_
        intro x28 h29
        have := zt_6
        replace hb : zHd _ := hb x28.toInt (by have := zt_6; omega)
        refine w_lo dX9_dreaming_34 rfl rfl rfl rfl ?_
        refine w_gf dX9_dreaming_35 rfl hJ21.1.1 zs_386 (zr_386_21 hJ21.1) ?_
        refine w_lo dX9_dreaming_38 rfl rfl rfl rfl ?_
        refine w_gf dX9_dreaming_39 rfl hJ21.1.1 zs_386 f27 ?_
        have f33 := (hJ16.2 (396) (x1 : Int32).toInt.toNat (zNI (by omega) (zNI (by omega) (zNI (by omega) (zNI (by omega) (zNI (by omega) (zNI (by omega) (zNI (by omega) zNI_nil)))))))).trans (f5)
        refine w_ia dX9_dreaming_42 hJ21.1.1 zs_396 (znat (by omega)) f33 ?_
        refine w_add dX9_dreaming_43 (by omega) ?_
        intro x34 h35
        replace hb : zHd _ := hb x34.toInt (by omega)
        refine w_lo (ml' := [some (.ref 386), some (.int x34)]) dX9_dreaming_44 rfl rfl rfl rfl ?_
        refine w_lo dX9_dreaming_45 rfl rfl rfl rfl ?_
        refine w_gf dX9_dreaming_46 rfl hJ21.1.1 zs_386 (zr_386_22 hJ21.1) ?_
        refine w_lo dX9_dreaming_49 rfl rfl rfl rfl ?_
        refine w_lo dX9_dreaming_50 rfl rfl rfl rfl ?_
        refine w_iv dX9_dreaming_51 rfl rfl (As := []) rfl rfl hJ21.1.1 zs_386 (Nat.le_of_ble_eq_true rfl) ?_
        obtain ⟨P38, hp39, hb⟩ := hb
        replace hb : zHd _ := hb
        refine ZV.imp (u_2318 hN hJ21.1 hp39) ?_
        rintro _ ⟨y41, M36, rfl, hJ37, hq40⟩
        replace hb : zHd _ := hb y41.toInt  (zi M36) (zi_fr hJ37.2) hq40
        have hJ43 := zJ_trans hJ21 hJ37 (zSub_cons (fun _ _ h h' hk => zIR_s (zIR_e (by omega) (by omega) hk)) (zSub_cons (fun _ _ h h' hk => zIR_s (zIR_s (zIR_e (by omega) (by omega) hk))) (zSub_cons (fun _ _ h h' hk => zIR_s (zIR_s (zIR_s (zIR_e (by omega) (by omega) hk)))) (zSub_cons (fun _ _ h h' hk => zIR_s (zIR_s (zIR_s (zIR_s (zIR_e (by omega) (by omega) hk))))) (zSub_cons (fun _ _ h h' hk => zIR_s (zIR_s (zIR_s (zIR_s (zIR_s (zIR_e (by omega) (by omega) hk)))))) (zSub_cons (fun _ _ h h' hk => zIR_s (zIR_s (zIR_s (zIR_s (zIR_s (zIR_s (zIR_e (by omega) (by omega) hk))))))) (zSub_cons (fun _ _ h h' hk => zIR_s (zIR_s (zIR_s (zIR_s (zIR_s (zIR_s (zIR_s (zIR_e (by omega) (by omega) hk)))))))) zSub_nil)))))))
        show ZW _ _ _ _ _ _ _ (54, [some (.ref 386), some (.int x34)], [.long y41, .int x34, .ref 397], M36)
        refine w_lsi dX9_dreaming_54 hJ43 zs_397 (by omega) (by omega) zu_397 (zIR_a (by omega) (by omega)) ?_
        intro M44 hJ45 f46 hn47
        replace hb : zHd _ := hb (zi M44) (zi_zupL hn47 f46 rfl rfl)
        refine w_lo dX9_dreaming_55 rfl rfl rfl rfl ?_
        refine w_me (st' := [.long (7632231 : Int64), .ref 386]) dX9_dreaming_56 rfl rfl rfl rfl rfl ?_
        refine w_iv dX9_dreaming_59 rfl rfl (As := [.long (7632231 : Int64)]) rfl rfl hJ45.1.1 zs_386 (Nat.le_of_ble_eq_true rfl) ?_
        obtain ⟨P51, hp52, hb⟩ := hb
        replace hb : zHd _ := hb
        have hp52c : b_2321 (zi M44) (7632231 : Int64).toInt P51 := by rw [ztl_7632231]; exact hp52
        refine ZV.imp (u_2321 (7632231 : Int64) hN hJ45.1 hp52c) ?_
        rintro _ ⟨M49, rfl, hJ50, hq53⟩
        replace hb : zHd _ := hb  (zi M49) (zi_fr hJ50.2) hq53
        have hJ55 := zJ_trans hJ45 hJ50 (zSub_cons (fun _ _ h h' hk => zIR_s (zIR_e (by omega) (by omega) hk)) (zSub_cons (fun _ _ h h' hk => zIR_s (zIR_s (zIR_e (by omega) (by omega) hk))) (zSub_cons (fun _ _ h h' hk => zIR_s (zIR_s (zIR_s (zIR_e (by omega) (by omega) hk)))) (zSub_cons (fun _ _ h h' hk => zIR_s (zIR_s (zIR_s (zIR_s (zIR_e (by omega) (by omega) hk))))) (zSub_cons (fun _ _ h h' hk => zIR_s (zIR_s (zIR_s (zIR_s (zIR_s (zIR_e (by omega) (by omega) hk)))))) (zSub_cons (fun _ _ h h' hk => zIR_s (zIR_s (zIR_s (zIR_s (zIR_s (zIR_s (zIR_e (by omega) (by omega) hk))))))) (zSub_cons (fun _ _ h h' hk => zIR_s (zIR_s (zIR_s (zIR_s (zIR_s (zIR_s (zIR_s (zIR_e (by omega) (by omega) hk)))))))) zSub_nil)))))))
        show ZW _ _ _ _ _ _ _ (62, [some (.ref 386), some (.int x34)], [], M49)
        refine w_lo dX9_dreaming_62 rfl rfl rfl rfl ?_
        refine w_gf dX9_dreaming_63 rfl hJ55.1.1 zs_386 (zr_386_23 hJ55.1) ?_
        refine w_lo dX9_dreaming_66 rfl rfl rfl rfl ?_
        refine w_lo dX9_dreaming_67 rfl rfl rfl rfl ?_
        refine w_ic dX9_dreaming_68 zi_1 ?_
        refine w_si dX9_dreaming_69 (c := 999) (by decide) ?_
        refine w_iv dX9_dreaming_72 rfl rfl (As := [.int 1, .int 999]) rfl rfl hJ55.1.1 zs_386 (Nat.le_of_ble_eq_true rfl) ?_
        obtain ⟨P58, hp59, hb⟩ := hb
        replace hb : zHd _ := hb
        have hp59c : b_2322 (zi M49) (1 : Int32).toInt (999 : Int32).toInt P58 := by rw [zt_1, zt_999]; exact hp59
        refine ZV.imp (u_2322 1 999 hN hJ55.1 hp59c) ?_
        rintro _ ⟨x61, M56, rfl, h62, h63, hJ57, hq60⟩
        replace hb : zHd _ := hb x61.toInt  (zi M56) (zi_fr hJ57.2) hq60
        have hJ65 := zJ_trans hJ55 hJ57 (zSub_cons (fun _ _ h h' hk => zIR_s (zIR_e (by omega) (by omega) hk)) (zSub_cons (fun _ _ h h' hk => zIR_s (zIR_s (zIR_e (by omega) (by omega) hk))) (zSub_cons (fun _ _ h h' hk => zIR_s (zIR_s (zIR_s (zIR_e (by omega) (by omega) hk)))) (zSub_cons (fun _ _ h h' hk => zIR_s (zIR_s (zIR_s (zIR_s (zIR_e (by omega) (by omega) hk))))) (zSub_cons (fun _ _ h h' hk => zIR_s (zIR_s (zIR_s (zIR_s (zIR_s (zIR_e (by omega) (by omega) hk)))))) (zSub_cons (fun _ _ h h' hk => zIR_s (zIR_s (zIR_s (zIR_s (zIR_s (zIR_s (zIR_e (by omega) (by omega) hk))))))) (zSub_cons (fun _ _ h h' hk => zIR_s (zIR_s (zIR_s (zIR_s (zIR_s (zIR_s (zIR_s (zIR_e (by omega) (by omega) hk)))))))) zSub_nil)))))))
        show ZW _ _ _ _ _ _ _ (75, [some (.ref 386), some (.int x34)], [.int x61, .int x34, .ref 398], M56)
        refine w_isi dX9_dreaming_75 hJ65 zs_398 (by omega) (by omega) zu_398 (zbot _) (ztop _) (zIR_a (by omega) (by omega)) ?_
        intro M66 hJ67 f68 hn69
        replace hb : zHd _ := hb (zi M66) (zi_zup hn69 f68 rfl rfl)
        refine w_lo dX9_dreaming_76 rfl rfl rfl rfl ?_
        refine w_me (st' := [.long (465491424371 : Int64), .ref 386]) dX9_dreaming_77 rfl rfl rfl rfl rfl ?_
        refine w_iv dX9_dreaming_80 rfl rfl (As := [.long (465491424371 : Int64)]) rfl rfl hJ67.1.1 zs_386 (Nat.le_of_ble_eq_true rfl) ?_
        obtain ⟨P73, hp74, hb⟩ := hb
        replace hb : zHd _ := hb
        have hp74c : b_2321 (zi M66) (465491424371 : Int64).toInt P73 := by rw [ztl_465491424371]; exact hp74
        refine ZV.imp (u_2321 (465491424371 : Int64) hN hJ67.1 hp74c) ?_
        rintro _ ⟨M71, rfl, hJ72, hq75⟩
        replace hb : zHd _ := hb  (zi M71) (zi_fr hJ72.2) hq75
        have hJ77 := zJ_trans hJ67 hJ72 (zSub_cons (fun _ _ h h' hk => zIR_s (zIR_e (by omega) (by omega) hk)) (zSub_cons (fun _ _ h h' hk => zIR_s (zIR_s (zIR_e (by omega) (by omega) hk))) (zSub_cons (fun _ _ h h' hk => zIR_s (zIR_s (zIR_s (zIR_e (by omega) (by omega) hk)))) (zSub_cons (fun _ _ h h' hk => zIR_s (zIR_s (zIR_s (zIR_s (zIR_e (by omega) (by omega) hk))))) (zSub_cons (fun _ _ h h' hk => zIR_s (zIR_s (zIR_s (zIR_s (zIR_s (zIR_e (by omega) (by omega) hk)))))) (zSub_cons (fun _ _ h h' hk => zIR_s (zIR_s (zIR_s (zIR_s (zIR_s (zIR_s (zIR_e (by omega) (by omega) hk))))))) (zSub_cons (fun _ _ h h' hk => zIR_s (zIR_s (zIR_s (zIR_s (zIR_s (zIR_s (zIR_s (zIR_e (by omega) (by omega) hk)))))))) zSub_nil)))))))
        show ZW _ _ _ _ _ _ _ (83, [some (.ref 386), some (.int x34)], [], M71)
        refine w_lo dX9_dreaming_83 rfl rfl rfl rfl ?_
        refine w_gf dX9_dreaming_84 rfl hJ77.1.1 zs_386 (zr_386_24 hJ77.1) ?_
        refine w_lo dX9_dreaming_87 rfl rfl rfl rfl ?_
        refine w_lo dX9_dreaming_88 rfl rfl rfl rfl ?_
        refine w_ic dX9_dreaming_89 zi_1 ?_
        refine w_bi dX9_dreaming_90 (c := 60) (by decide) ?_
        refine w_iv dX9_dreaming_92 rfl rfl (As := [.int 1, .int 60]) rfl rfl hJ77.1.1 zs_386 (Nat.le_of_ble_eq_true rfl) ?_
        obtain ⟨P80, hp81, hb⟩ := hb
        replace hb : zHd _ := hb
        have hp81c : b_2322 (zi M71) (1 : Int32).toInt (60 : Int32).toInt P80 := by rw [zt_1, zt_60]; exact hp81
        refine ZV.imp (u_2322 1 60 hN hJ77.1 hp81c) ?_
        rintro _ ⟨x83, M78, rfl, h84, h85, hJ79, hq82⟩
        replace hb : zHd _ := hb x83.toInt  (zi M78) (zi_fr hJ79.2) hq82
        have hJ87 := zJ_trans hJ77 hJ79 (zSub_cons (fun _ _ h h' hk => zIR_s (zIR_e (by omega) (by omega) hk)) (zSub_cons (fun _ _ h h' hk => zIR_s (zIR_s (zIR_e (by omega) (by omega) hk))) (zSub_cons (fun _ _ h h' hk => zIR_s (zIR_s (zIR_s (zIR_e (by omega) (by omega) hk)))) (zSub_cons (fun _ _ h h' hk => zIR_s (zIR_s (zIR_s (zIR_s (zIR_e (by omega) (by omega) hk))))) (zSub_cons (fun _ _ h h' hk => zIR_s (zIR_s (zIR_s (zIR_s (zIR_s (zIR_e (by omega) (by omega) hk)))))) (zSub_cons (fun _ _ h h' hk => zIR_s (zIR_s (zIR_s (zIR_s (zIR_s (zIR_s (zIR_e (by omega) (by omega) hk))))))) (zSub_cons (fun _ _ h h' hk => zIR_s (zIR_s (zIR_s (zIR_s (zIR_s (zIR_s (zIR_s (zIR_e (by omega) (by omega) hk)))))))) zSub_nil)))))))
        show ZW _ _ _ _ _ _ _ (95, [some (.ref 386), some (.int x34)], [.int x83, .int x34, .ref 399], M78)
        refine w_isi dX9_dreaming_95 hJ87 zs_399 (by omega) (by omega) zu_399 (zbot _) (ztop _) (zIR_a (by omega) (by omega)) ?_
        intro M88 hJ89 f90 hn91
        replace hb : zHd _ := hb (zi M88) (zi_zup hn91 f90 rfl rfl)
        refine w_lo dX9_dreaming_96 rfl rfl rfl rfl ?_
        refine w_me (st' := [.long (123563851081075 : Int64), .ref 386]) dX9_dreaming_97 rfl rfl rfl rfl rfl ?_
        refine w_iv dX9_dreaming_100 rfl rfl (As := [.long (123563851081075 : Int64)]) rfl rfl hJ89.1.1 zs_386 (Nat.le_of_ble_eq_true rfl) ?_
        obtain ⟨P95, hp96, hb⟩ := hb
        replace hb : zHd _ := hb
        have hp96c : b_2321 (zi M88) (123563851081075 : Int64).toInt P95 := by rw [ztl_123563851081075]; exact hp96
        refine ZV.imp (u_2321 (123563851081075 : Int64) hN hJ89.1 hp96c) ?_
        rintro _ ⟨M93, rfl, hJ94, hq97⟩
        replace hb : zHd _ := hb  (zi M93) (zi_fr hJ94.2) hq97
        have hJ99 := zJ_trans hJ89 hJ94 (zSub_cons (fun _ _ h h' hk => zIR_s (zIR_e (by omega) (by omega) hk)) (zSub_cons (fun _ _ h h' hk => zIR_s (zIR_s (zIR_e (by omega) (by omega) hk))) (zSub_cons (fun _ _ h h' hk => zIR_s (zIR_s (zIR_s (zIR_e (by omega) (by omega) hk)))) (zSub_cons (fun _ _ h h' hk => zIR_s (zIR_s (zIR_s (zIR_s (zIR_e (by omega) (by omega) hk))))) (zSub_cons (fun _ _ h h' hk => zIR_s (zIR_s (zIR_s (zIR_s (zIR_s (zIR_e (by omega) (by omega) hk)))))) (zSub_cons (fun _ _ h h' hk => zIR_s (zIR_s (zIR_s (zIR_s (zIR_s (zIR_s (zIR_e (by omega) (by omega) hk))))))) (zSub_cons (fun _ _ h h' hk => zIR_s (zIR_s (zIR_s (zIR_s (zIR_s (zIR_s (zIR_s (zIR_e (by omega) (by omega) hk)))))))) zSub_nil)))))))
        show ZW _ _ _ _ _ _ _ (103, [some (.ref 386), some (.int x34)], [], M93)
        refine w_lo dX9_dreaming_103 rfl rfl rfl rfl ?_
        refine w_gf dX9_dreaming_104 rfl hJ99.1.1 zs_386 (zr_386_25 hJ99.1) ?_
        refine w_lo dX9_dreaming_107 rfl rfl rfl rfl ?_
        refine w_lo dX9_dreaming_108 rfl rfl rfl rfl ?_
        refine w_ic dX9_dreaming_109 zi_1 ?_
        refine w_si dX9_dreaming_110 (c := 999) (by decide) ?_
        refine w_iv dX9_dreaming_113 rfl rfl (As := [.int 1, .int 999]) rfl rfl hJ99.1.1 zs_386 (Nat.le_of_ble_eq_true rfl) ?_
        obtain ⟨P102, hp103, hb⟩ := hb
        replace hb : zHd _ := hb
        have hp103c : b_2322 (zi M93) (1 : Int32).toInt (999 : Int32).toInt P102 := by rw [zt_1, zt_999]; exact hp103
        refine ZV.imp (u_2322 1 999 hN hJ99.1 hp103c) ?_
        rintro _ ⟨x105, M100, rfl, h106, h107, hJ101, hq104⟩
        replace hb : zHd _ := hb x105.toInt  (zi M100) (zi_fr hJ101.2) hq104
        have hJ109 := zJ_trans hJ99 hJ101 (zSub_cons (fun _ _ h h' hk => zIR_s (zIR_e (by omega) (by omega) hk)) (zSub_cons (fun _ _ h h' hk => zIR_s (zIR_s (zIR_e (by omega) (by omega) hk))) (zSub_cons (fun _ _ h h' hk => zIR_s (zIR_s (zIR_s (zIR_e (by omega) (by omega) hk)))) (zSub_cons (fun _ _ h h' hk => zIR_s (zIR_s (zIR_s (zIR_s (zIR_e (by omega) (by omega) hk))))) (zSub_cons (fun _ _ h h' hk => zIR_s (zIR_s (zIR_s (zIR_s (zIR_s (zIR_e (by omega) (by omega) hk)))))) (zSub_cons (fun _ _ h h' hk => zIR_s (zIR_s (zIR_s (zIR_s (zIR_s (zIR_s (zIR_e (by omega) (by omega) hk))))))) (zSub_cons (fun _ _ h h' hk => zIR_s (zIR_s (zIR_s (zIR_s (zIR_s (zIR_s (zIR_s (zIR_e (by omega) (by omega) hk)))))))) zSub_nil)))))))
        show ZW _ _ _ _ _ _ _ (116, [some (.ref 386), some (.int x34)], [.int x105, .int x34, .ref 400], M100)
        refine w_isi dX9_dreaming_116 hJ109 zs_400 (by omega) (by omega) zu_400 (zbot _) (ztop _) (zIR_a (by omega) (by omega)) ?_
        intro M110 hJ111 f112 hn113
        replace hb : zHd _ := hb (zi M110) (zi_zup hn113 f112 rfl rfl)
        refine w_lo dX9_dreaming_117 rfl rfl rfl rfl ?_
        refine w_me (st' := [.long (1868850291 : Int64), .ref 386]) dX9_dreaming_118 rfl rfl rfl rfl rfl ?_
        refine w_iv dX9_dreaming_121 rfl rfl (As := [.long (1868850291 : Int64)]) rfl rfl hJ111.1.1 zs_386 (Nat.le_of_ble_eq_true rfl) ?_
        obtain ⟨P117, hp118, hb⟩ := hb
        replace hb : zHd _ := hb
        have hp118c : b_2321 (zi M110) (1868850291 : Int64).toInt P117 := by rw [ztl_1868850291]; exact hp118
        refine ZV.imp (u_2321 (1868850291 : Int64) hN hJ111.1 hp118c) ?_
        rintro _ ⟨M115, rfl, hJ116, hq119⟩
        replace hb : zHd _ := hb  (zi M115) (zi_fr hJ116.2) hq119
        have hJ121 := zJ_trans hJ111 hJ116 (zSub_cons (fun _ _ h h' hk => zIR_s (zIR_e (by omega) (by omega) hk)) (zSub_cons (fun _ _ h h' hk => zIR_s (zIR_s (zIR_e (by omega) (by omega) hk))) (zSub_cons (fun _ _ h h' hk => zIR_s (zIR_s (zIR_s (zIR_e (by omega) (by omega) hk)))) (zSub_cons (fun _ _ h h' hk => zIR_s (zIR_s (zIR_s (zIR_s (zIR_e (by omega) (by omega) hk))))) (zSub_cons (fun _ _ h h' hk => zIR_s (zIR_s (zIR_s (zIR_s (zIR_s (zIR_e (by omega) (by omega) hk)))))) (zSub_cons (fun _ _ h h' hk => zIR_s (zIR_s (zIR_s (zIR_s (zIR_s (zIR_s (zIR_e (by omega) (by omega) hk))))))) (zSub_cons (fun _ _ h h' hk => zIR_s (zIR_s (zIR_s (zIR_s (zIR_s (zIR_s (zIR_s (zIR_e (by omega) (by omega) hk)))))))) zSub_nil)))))))
        show ZW _ _ _ _ _ _ _ (124, [some (.ref 386), some (.int x34)], [], M115)
        refine w_lo dX9_dreaming_124 rfl rfl rfl rfl ?_
        refine w_gf dX9_dreaming_125 rfl hJ121.1.1 zs_386 (zr_386_26 hJ121.1) ?_
        refine w_lo dX9_dreaming_128 rfl rfl rfl rfl ?_
        refine w_lo dX9_dreaming_129 rfl rfl rfl rfl ?_
        refine w_ic dX9_dreaming_130 zi_1 ?_
        refine w_bi dX9_dreaming_131 (c := 99) (by decide) ?_
        refine w_iv dX9_dreaming_133 rfl rfl (As := [.int 1, .int 99]) rfl rfl hJ121.1.1 zs_386 (Nat.le_of_ble_eq_true rfl) ?_
        obtain ⟨P124, hp125, hb⟩ := hb
        replace hb : zHd _ := hb
        have hp125c : b_2322 (zi M115) (1 : Int32).toInt (99 : Int32).toInt P124 := by rw [zt_1, zt_99]; exact hp125
        refine ZV.imp (u_2322 1 99 hN hJ121.1 hp125c) ?_
        rintro _ ⟨x127, M122, rfl, h128, h129, hJ123, hq126⟩
        replace hb : zHd _ := hb x127.toInt  (zi M122) (zi_fr hJ123.2) hq126
        have hJ131 := zJ_trans hJ121 hJ123 (zSub_cons (fun _ _ h h' hk => zIR_s (zIR_e (by omega) (by omega) hk)) (zSub_cons (fun _ _ h h' hk => zIR_s (zIR_s (zIR_e (by omega) (by omega) hk))) (zSub_cons (fun _ _ h h' hk => zIR_s (zIR_s (zIR_s (zIR_e (by omega) (by omega) hk)))) (zSub_cons (fun _ _ h h' hk => zIR_s (zIR_s (zIR_s (zIR_s (zIR_e (by omega) (by omega) hk))))) (zSub_cons (fun _ _ h h' hk => zIR_s (zIR_s (zIR_s (zIR_s (zIR_s (zIR_e (by omega) (by omega) hk)))))) (zSub_cons (fun _ _ h h' hk => zIR_s (zIR_s (zIR_s (zIR_s (zIR_s (zIR_s (zIR_e (by omega) (by omega) hk))))))) (zSub_cons (fun _ _ h h' hk => zIR_s (zIR_s (zIR_s (zIR_s (zIR_s (zIR_s (zIR_s (zIR_e (by omega) (by omega) hk)))))))) zSub_nil)))))))
        show ZW _ _ _ _ _ _ _ (136, [some (.ref 386), some (.int x34)], [.int x127, .int x34, .ref 401], M122)
        refine w_isi dX9_dreaming_136 hJ131 zs_401 (by omega) (by omega) zu_401 (zbot _) (ztop _) (zIR_a (by omega) (by omega)) ?_
        intro M132 hJ133 f134 hn135
        replace hb : zHd _ := hb (zi M132) (zi_zup hn135 f134 rfl rfl)
        refine w_lo dX9_dreaming_137 rfl rfl rfl rfl ?_
        refine w_gfi dX9_dreaming_138 rfl hJ133.1 zs_386 (Nat.le_of_ble_eq_true rfl) zo_386_8 ?_
        intro x137 f138 h139 h140
        replace hb : zHd _ := hb x137.toInt (ziE f138) h139 h140
        rcases Int.decEq x137.toInt (0 : Int) with h141 | h141
        · skip
          replace hb : zHd _ := hb.1 h141
          refine w_ine_t dX9_dreaming_141 (t := 157) rfl (by omega) ?_
          refine w_en dX9_dreaming_157 rfl ?_
          exact ⟨_, rfl, hJ133, hb⟩
        · skip
          replace hb : zHd _ := hb.2 h141
          refine w_ine_f dX9_dreaming_141 (t := 157) rfl (by omega) ?_
          refine w_lo dX9_dreaming_144 rfl rfl rfl rfl ?_
          refine w_gf dX9_dreaming_145 rfl hJ133.1.1 zs_386 (zr_386_21 hJ133.1) ?_
          refine w_lo dX9_dreaming_148 rfl rfl rfl rfl ?_
          have f142 := (hn135 (386) 35 (Or.inl (by omega))).trans ((hJ123.2 (386) 35 (zNI_k (by decide) (by decide) (zNI_k (by decide) (by decide) (zNI_k (by decide) (by decide) (zNI_k (by decide) (by decide) (zNI_k (by decide) (by decide) (zNI_k (by decide) (by decide) (zNI_k (by decide) (by decide) zNI_nil)))))))).trans ((hJ116.2 (386) 35 (zNI_k (by decide) (by decide) (zNI_k (by decide) (by decide) (zNI_k (by decide) (by decide) (zNI_k (by decide) (by decide) (zNI_k (by decide) (by decide) (zNI_k (by decide) (by decide) (zNI_k (by decide) (by decide) zNI_nil)))))))).trans ((hn113 (386) 35 (Or.inl (by omega))).trans ((hJ101.2 (386) 35 (zNI_k (by decide) (by decide) (zNI_k (by decide) (by decide) (zNI_k (by decide) (by decide) (zNI_k (by decide) (by decide) (zNI_k (by decide) (by decide) (zNI_k (by decide) (by decide) (zNI_k (by decide) (by decide) zNI_nil)))))))).trans ((hJ94.2 (386) 35 (zNI_k (by decide) (by decide) (zNI_k (by decide) (by decide) (zNI_k (by decide) (by decide) (zNI_k (by decide) (by decide) (zNI_k (by decide) (by decide) (zNI_k (by decide) (by decide) (zNI_k (by decide) (by decide) zNI_nil)))))))).trans ((hn91 (386) 35 (Or.inl (by omega))).trans ((hJ79.2 (386) 35 (zNI_k (by decide) (by decide) (zNI_k (by decide) (by decide) (zNI_k (by decide) (by decide) (zNI_k (by decide) (by decide) (zNI_k (by decide) (by decide) (zNI_k (by decide) (by decide) (zNI_k (by decide) (by decide) zNI_nil)))))))).trans ((hJ72.2 (386) 35 (zNI_k (by decide) (by decide) (zNI_k (by decide) (by decide) (zNI_k (by decide) (by decide) (zNI_k (by decide) (by decide) (zNI_k (by decide) (by decide) (zNI_k (by decide) (by decide) (zNI_k (by decide) (by decide) zNI_nil)))))))).trans ((hn69 (386) 35 (Or.inl (by omega))).trans ((hJ57.2 (386) 35 (zNI_k (by decide) (by decide) (zNI_k (by decide) (by decide) (zNI_k (by decide) (by decide) (zNI_k (by decide) (by decide) (zNI_k (by decide) (by decide) (zNI_k (by decide) (by decide) (zNI_k (by decide) (by decide) zNI_nil)))))))).trans ((hJ50.2 (386) 35 (zNI_k (by decide) (by decide) (zNI_k (by decide) (by decide) (zNI_k (by decide) (by decide) (zNI_k (by decide) (by decide) (zNI_k (by decide) (by decide) (zNI_k (by decide) (by decide) (zNI_k (by decide) (by decide) zNI_nil)))))))).trans ((hn47 (386) 35 (Or.inl (by omega))).trans ((hJ37.2 (386) 35 (zNI_k (by decide) (by decide) (zNI_k (by decide) (by decide) (zNI_k (by decide) (by decide) (zNI_k (by decide) (by decide) (zNI_k (by decide) (by decide) (zNI_k (by decide) (by decide) (zNI_k (by decide) (by decide) zNI_nil)))))))).trans (f27))))))))))))))
          refine w_gf dX9_dreaming_149 rfl hJ133.1.1 zs_386 f142 ?_
          refine w_pu dX9_dreaming_152 rfl rfl ?_
          have f146 := (hn135 (396) (x1 : Int32).toInt.toNat (Or.inl (by omega))).trans ((hJ123.2 (396) (x1 : Int32).toInt.toNat (zNI (by omega) (zNI (by omega) (zNI (by omega) (zNI (by omega) (zNI (by omega) (zNI (by omega) (zNI (by omega) zNI_nil)))))))).trans ((hJ116.2 (396) (x1 : Int32).toInt.toNat (zNI (by omega) (zNI (by omega) (zNI (by omega) (zNI (by omega) (zNI (by omega) (zNI (by omega) (zNI (by omega) zNI_nil)))))))).trans ((hn113 (396) (x1 : Int32).toInt.toNat (Or.inl (by omega))).trans ((hJ101.2 (396) (x1 : Int32).toInt.toNat (zNI (by omega) (zNI (by omega) (zNI (by omega) (zNI (by omega) (zNI (by omega) (zNI (by omega) (zNI (by omega) zNI_nil)))))))).trans ((hJ94.2 (396) (x1 : Int32).toInt.toNat (zNI (by omega) (zNI (by omega) (zNI (by omega) (zNI (by omega) (zNI (by omega) (zNI (by omega) (zNI (by omega) zNI_nil)))))))).trans ((hn91 (396) (x1 : Int32).toInt.toNat (Or.inl (by omega))).trans ((hJ79.2 (396) (x1 : Int32).toInt.toNat (zNI (by omega) (zNI (by omega) (zNI (by omega) (zNI (by omega) (zNI (by omega) (zNI (by omega) (zNI (by omega) zNI_nil)))))))).trans ((hJ72.2 (396) (x1 : Int32).toInt.toNat (zNI (by omega) (zNI (by omega) (zNI (by omega) (zNI (by omega) (zNI (by omega) (zNI (by omega) (zNI (by omega) zNI_nil)))))))).trans ((hn69 (396) (x1 : Int32).toInt.toNat (Or.inl (by omega))).trans ((hJ57.2 (396) (x1 : Int32).toInt.toNat (zNI (by omega) (zNI (by omega) (zNI (by omega) (zNI (by omega) (zNI (by omega) (zNI (by omega) (zNI (by omega) zNI_nil)))))))).trans ((hJ50.2 (396) (x1 : Int32).toInt.toNat (zNI (by omega) (zNI (by omega) (zNI (by omega) (zNI (by omega) (zNI (by omega) (zNI (by omega) (zNI (by omega) zNI_nil)))))))).trans ((hn47 (396) (x1 : Int32).toInt.toNat (Or.inl (by omega))).trans ((hJ37.2 (396) (x1 : Int32).toInt.toNat (zNI (by omega) (zNI (by omega) (zNI (by omega) (zNI (by omega) (zNI (by omega) (zNI (by omega) (zNI (by omega) zNI_nil)))))))).trans (f33))))))))))))))
          refine w_ia dX9_dreaming_153 hJ133.1.1 zs_396 (znat (by omega)) f146 ?_
          refine w_ic dX9_dreaming_154 zi_1 ?_
          refine w_add dX9_dreaming_155 (by have := zt_1; omega) ?_
          intro x147 h148
          have := zt_1
          replace hb : zHd _ := hb x147.toInt (by have := zt_1; omega)
          refine w_isi dX9_dreaming_156 hJ133 zs_396 (by omega) (by omega) zu_396 (by omega) (by omega) (zIR_a (by omega) (by omega)) ?_
          intro M149 hJ150 f151 hn152
          replace hb : zHd _ := hb (zi M149) (zi_zup hn152 f151 rfl rfl)
          refine w_en dX9_dreaming_157 rfl ?_
          exact ⟨_, rfl, hJ150, hb⟩
  · skip
    replace hb : zHd _ := hb.2 h9
    refine w_cne_f dX9_dreaming_12 (t := 19) rfl (by have := zt_6; omega) ?_
    refine w_ic dX9_dreaming_15 zi_1 ?_
    refine w_gt dX9_dreaming_16 (t := 20) rfl ?_
    refine w_iv dX9_dreaming_20 rfl rfl (As := [.int 1]) rfl rfl hJ0.1.1 zs_386 (Nat.le_of_ble_eq_true rfl) ?_
    refine ZV.of (ini := false) rfl (Nat.le_of_ble_eq_true rfl) (by decide +kernel) ?_
    show ZW _ _ _ _ _ _ _ (0, [some (.ref 386), some (.int 1)], [], M0)
    refine w_lo dX9_counts_0 rfl rfl rfl rfl ?_
    refine w_gfi dX9_counts_1 rfl hJ0.1 zs_386 (Nat.le_of_ble_eq_true rfl) zo_386_8 ?_
    intro x154 f155 h156 h157
    replace hb : zHd _ := hb x154.toInt (ziE f155) h156 h157
    rcases Int.decEq x154.toInt (0 : Int) with h158 | h158
    · skip
      replace hb : zHd _ := hb.1 h158
      refine w_ine_t dX9_counts_4 (t := 20) rfl (by omega) ?_
      refine w_lo dX9_counts_20 rfl rfl rfl rfl ?_
      refine w_gf dX9_counts_21 rfl hJ0.1.1 zs_386 f155 ?_
      refine w_ine_t dX9_counts_24 (t := 31) rfl (by omega) ?_
      refine w_lo dX9_counts_31 rfl rfl rfl rfl ?_
      refine w_gf dX9_counts_32 rfl hJ0.1.1 zs_386 f155 ?_
      refine w_ine_t dX9_counts_35 (t := 42) rfl (by omega) ?_
      refine w_ic dX9_counts_42 zi_0 ?_
      refine w_en dX9_counts_43 rfl ?_
      show ZW _ _ _ _ _ _ _ (23, [some (.ref 386), none], [.int 0], M0)
      refine w_ine_f dX9_dreaming_23 (t := 27) rfl (by have := zt_0; omega) ?_
      refine w_en dX9_dreaming_26 rfl ?_
      exact ⟨_, rfl, hJ0, hb⟩
    · skip
      replace hb : zHd _ := hb.2 h158
      refine w_ine_f dX9_counts_4 (t := 20) rfl (by omega) ?_
      refine w_lo dX9_counts_7 rfl rfl rfl rfl ?_
      refine w_ieq_f dX9_counts_8 (t := 20) rfl (by have := zt_1; omega) ?_
      refine w_lo dX9_counts_11 rfl rfl rfl rfl ?_
      refine w_ic dX9_counts_12 zi_5 ?_
      refine w_lo dX9_counts_13 rfl rfl rfl rfl ?_
      refine w_gfi dX9_counts_14 rfl hJ0.1 zs_386 (Nat.le_of_ble_eq_true rfl) zo_386_4 ?_
      intro x159 f160 h161 h162
      replace hb : zHd _ := hb x159.toInt (ziE f160) h161 h162
      refine w_iv dX9_counts_17 rfl rfl (As := [.int 5, .int x159]) rfl rfl hJ0.1.1 zs_386 (Nat.le_of_ble_eq_true rfl) ?_
      refine ZV.of (ini := false) rfl (Nat.le_of_ble_eq_true rfl) (by decide +kernel) ?_
      show ZW _ _ _ _ _ _ _ (0, [some (.ref 386), some (.int 5), some (.int x159)], [], M0)
      refine w_lo dX9_blame_0 rfl rfl rfl rfl ?_
      refine w_gf dX9_blame_1 rfl hJ0.1.1 zs_386 f155 ?_
      refine w_ile_t dX9_blame_4 (t := 8) rfl (by omega) ?_
      refine w_lo dX9_blame_8 rfl rfl rfl rfl ?_
      refine w_lo dX9_blame_9 rfl rfl rfl rfl ?_
      refine w_pfi dX9_blame_10 rfl hJ0 zs_386 (Nat.le_of_ble_eq_true rfl) zo_386_8 (by have := zt_5; omega) (by have := zt_5; omega) (zIR_s (zIR_s (zIR_s (zIR_s (zIR_s (zIR_s (zIR_k (by omega) (by omega)))))))) rfl rfl rfl ?_
      intro M163 hJ164 f165 hn166
      replace hb : zHd _ := hb (zi M163) (zi_zup hn166 f165 rfl zt_5)
      refine w_lo dX9_blame_13 rfl rfl rfl rfl ?_
      refine w_lo dX9_blame_14 rfl rfl rfl rfl ?_
      refine w_pfi dX9_blame_15 rfl hJ164 zs_386 (Nat.le_of_ble_eq_true rfl) zo_386_9 (by omega) (by omega) (zIR_s (zIR_s (zIR_s (zIR_s (zIR_s (zIR_s (zIR_s (zIR_k (by omega) (by omega))))))))) rfl rfl rfl ?_
      intro M168 hJ169 f170 hn171
      replace hb : zHd _ := hb (zi M168) (zi_zup hn171 f170 rfl rfl)
      refine w_en dX9_blame_18 rfl ?_
      show ZW _ _ _ _ _ _ _ (20, [some (.ref 386), some (.int 1)], [], M168)
      refine w_lo dX9_counts_20 rfl rfl rfl rfl ?_
      have f173 := (hn171 (386) 8 (Or.inr (by decide))).trans (f165)
      refine w_gf dX9_counts_21 rfl hJ169.1.1 zs_386 f173 ?_
      refine w_ine_t dX9_counts_24 (t := 31) rfl (by have := zt_5; omega) ?_
      refine w_lo dX9_counts_31 rfl rfl rfl rfl ?_
      refine w_gf dX9_counts_32 rfl hJ169.1.1 zs_386 f173 ?_
      refine w_ine_t dX9_counts_35 (t := 42) rfl (by have := zt_5; omega) ?_
      refine w_ic dX9_counts_42 zi_0 ?_
      refine w_en dX9_counts_43 rfl ?_
      show ZW _ _ _ _ _ _ _ (23, [some (.ref 386), none], [.int 0], M168)
      refine w_ine_f dX9_dreaming_23 (t := 27) rfl (by have := zt_0; omega) ?_
      refine w_en dX9_dreaming_26 rfl ?_
      exact ⟨_, rfl, hJ169, hb⟩
set_option maxRecDepth 100000 in
theorem u_2329 {X : List Int32} {d N : Nat} {M0 : zM} (a0 : Int32) (hN : N ≤ 600) (hB0 : zB N M0) {Q : zF → Prop} (hb : b_2329 (zi M0) a0.toInt Q) : ZV X (d + 1) 2329 [.ref 386, .int a0] M0 (zRV N [(409, 412, 1000), (413, 414, 1000), (386, 387, 41)] M0 (fun M' => Q (zi M'))) := by
  have hJ0 : zJ N [(409, 412, 1000), (413, 414, 1000), (386, 387, 41)] M0 M0 := zJ_refl hB0
  refine ZV.of (ini := false) rfl (Nat.le_of_ble_eq_true rfl) (by decide +kernel) ?_
  unfold b_2329 at hb
  replace hb : zHd _ := hb
  show ZW _ _ _ _ _ _ _ (0, [some (.ref 386), some (.int a0)], [], M0)
  refine w_lo dX9_pushes_0 rfl rfl rfl rfl ?_
  refine w_gf dX9_pushes_1 rfl hJ0.1.1 zs_386 (zr_386_36 hJ0.1) ?_
  refine w_lo dX9_pushes_4 rfl rfl rfl rfl ?_
  refine w_gfi dX9_pushes_5 rfl hJ0.1 zs_386 (Nat.le_of_ble_eq_true rfl) zo_386_41 ?_
  intro x1 f2 h3 h4
  replace hb : zHd _ := hb x1.toInt (ziE f2) h3 h4
  refine w_lo dX9_pushes_8 rfl rfl rfl rfl ?_
  have h5 := hb.1
  replace hb : zHd _ := hb.2
  have h6 := hb.1
  replace hb : zHd _ := hb.2
  refine w_isi dX9_pushes_9 hJ0 zs_409 (by omega) (by omega) zu_409 (by omega) (by omega) (zIR_a (by omega) (by omega)) ?_
  intro M7 hJ8 f9 hn10
  replace hb : zHd _ := hb (zi M7) (zi_zup hn10 f9 rfl rfl)
  refine w_lo dX9_pushes_10 rfl rfl rfl rfl ?_
  refine w_gf dX9_pushes_11 rfl hJ8.1.1 zs_386 (zr_386_37 hJ8.1) ?_
  refine w_lo dX9_pushes_14 rfl rfl rfl rfl ?_
  have f12 := (hn10 (386) 41 (Or.inl (by omega))).trans (f2)
  refine w_gf dX9_pushes_15 rfl hJ8.1.1 zs_386 f12 ?_
  refine w_ic dX9_pushes_18 zi_0 ?_
  refine w_isi dX9_pushes_19 hJ8 zs_410 (by omega) (by omega) zu_410 (by have := zt_0; omega) (by have := zt_0; omega) (zIR_a (by omega) (by omega)) ?_
  intro M13 hJ14 f15 hn16
  replace hb : zHd _ := hb (zi M13) (zi_zup hn16 f15 rfl zt_0)
  refine w_lo dX9_pushes_20 rfl rfl rfl rfl ?_
  refine w_gf dX9_pushes_21 rfl hJ14.1.1 zs_386 (zr_386_38 hJ14.1) ?_
  refine w_lo dX9_pushes_24 rfl rfl rfl rfl ?_
  have f18 := (hn16 (386) 41 (Or.inl (by omega))).trans (f12)
  refine w_gf dX9_pushes_25 rfl hJ14.1.1 zs_386 f18 ?_
  refine w_ic dX9_pushes_28 zi_1 ?_
  refine w_bsi dX9_pushes_29 hJ14 zs_411 (by omega) (by omega) zu_411 (by have := zt_1; omega) (by have := zt_1; omega) (zIR_a (by omega) (by omega)) ?_
  intro M19 hJ20 f21 hn22
  replace hb : zHd _ := hb (zi M19) (zi_zup hn22 f21 rfl zt_1)
  refine w_lo dX9_pushes_30 rfl rfl rfl rfl ?_
  refine w_gf dX9_pushes_31 rfl hJ20.1.1 zs_386 (zr_386_40 hJ20.1) ?_
  refine w_lo dX9_pushes_34 rfl rfl rfl rfl ?_
  have f24 := (hn22 (386) 41 (Or.inl (by omega))).trans (f18)
  refine w_gf dX9_pushes_35 rfl hJ20.1.1 zs_386 f24 ?_
  refine w_lo dX9_pushes_38 rfl rfl rfl rfl ?_
  refine w_gfi dX9_pushes_39 rfl hJ20.1 zs_386 (Nat.le_of_ble_eq_true rfl) zo_386_44 ?_
  intro x25 f26 h27 h28
  replace hb : zHd _ := hb x25.toInt (ziE f26) h27 h28
  refine w_isi dX9_pushes_42 hJ20 zs_413 (by omega) (by omega) zu_413 (by omega) (by omega) (zIR_s (zIR_a (by omega) (by omega))) ?_
  intro M29 hJ30 f31 hn32
  replace hb : zHd _ := hb (zi M29) (zi_zup hn32 f31 rfl rfl)
  refine w_lo dX9_pushes_43 rfl rfl rfl rfl ?_
  refine w_pu dX9_pushes_44 rfl rfl ?_
  have f34 := (hn32 (386) 41 (Or.inl (by omega))).trans (f24)
  refine w_gf dX9_pushes_45 rfl hJ30.1.1 zs_386 f34 ?_
  refine w_ic dX9_pushes_48 zi_1 ?_
  refine w_add dX9_pushes_49 (by have := zt_1; omega) ?_
  intro x35 h36
  have := zt_1
  replace hb : zHd _ := hb x35.toInt (by have := zt_1; omega)
  refine w_pfi dX9_pushes_50 rfl hJ30 zs_386 (Nat.le_of_ble_eq_true rfl) zo_386_41 (by omega) (by omega) (zIR_s (zIR_s (zIR_k (by omega) (by omega)))) rfl rfl rfl ?_
  intro M37 hJ38 f39 hn40
  replace hb : zHd _ := hb (zi M37) (zi_zup hn40 f39 rfl rfl)
  refine w_en dX9_pushes_53 rfl ?_
  exact ⟨_, rfl, hJ38, hb⟩
set_option maxRecDepth 100000 in
theorem u_2332 {X : List Int32} {d N : Nat} {M0 : zM} (a0 : Int32) (hN : N ≤ 600) (hB0 : zB N M0) {Q : zF → Prop} (hb : b_2332 (zi M0) a0.toInt Q) : ZV X (d + 1) 2332 [.ref 386, .int a0] M0 (zRV N [(414, 415, 1000), (386, 387, 44)] M0 (fun M' => Q (zi M'))) := by
  have hJ0 : zJ N [(414, 415, 1000), (386, 387, 44)] M0 M0 := zJ_refl hB0
  refine ZV.of (ini := false) rfl (Nat.le_of_ble_eq_true rfl) (by decide +kernel) ?_
  unfold b_2332 at hb
  replace hb : zHd _ := hb
  show ZW _ _ _ _ _ _ _ (0, [some (.ref 386), some (.int a0)], [], M0)
  refine w_lo dX9_holdsBack_0 rfl rfl rfl rfl ?_
  refine w_gf dX9_holdsBack_1 rfl hJ0.1.1 zs_386 (zr_386_43 hJ0.1) ?_
  refine w_lo dX9_holdsBack_4 rfl rfl rfl rfl ?_
  refine w_gfi dX9_holdsBack_5 rfl hJ0.1 zs_386 (Nat.le_of_ble_eq_true rfl) zo_386_44 ?_
  intro x1 f2 h3 h4
  replace hb : zHd _ := hb x1.toInt (ziE f2) h3 h4
  refine w_lo dX9_holdsBack_8 rfl rfl rfl rfl ?_
  have h5 := hb.1
  replace hb : zHd _ := hb.2
  have h6 := hb.1
  replace hb : zHd _ := hb.2
  refine w_isi dX9_holdsBack_9 hJ0 zs_414 (by omega) (by omega) zu_414 (by omega) (by omega) (zIR_a (by omega) (by omega)) ?_
  intro M7 hJ8 f9 hn10
  replace hb : zHd _ := hb (zi M7) (zi_zup hn10 f9 rfl rfl)
  refine w_lo dX9_holdsBack_10 rfl rfl rfl rfl ?_
  refine w_pu dX9_holdsBack_11 rfl rfl ?_
  have f12 := (hn10 (386) 44 (Or.inl (by omega))).trans (f2)
  refine w_gf dX9_holdsBack_12 rfl hJ8.1.1 zs_386 f12 ?_
  refine w_ic dX9_holdsBack_15 zi_1 ?_
  refine w_add dX9_holdsBack_16 (by have := zt_1; omega) ?_
  intro x13 h14
  have := zt_1
  replace hb : zHd _ := hb x13.toInt (by have := zt_1; omega)
  refine w_pfi dX9_holdsBack_17 rfl hJ8 zs_386 (Nat.le_of_ble_eq_true rfl) zo_386_44 (by omega) (by omega) (zIR_s (zIR_k (by omega) (by omega))) rfl rfl rfl ?_
  intro M15 hJ16 f17 hn18
  replace hb : zHd _ := hb (zi M15) (zi_zup hn18 f17 rfl rfl)
  refine w_en dX9_holdsBack_20 rfl ?_
  exact ⟨_, rfl, hJ16, hb⟩
set_option maxRecDepth 100000 in
theorem u_2334 {X : List Int32} {d N : Nat} {M0 : zM} (a0 : Int32) (hN : N ≤ 600) (hB0 : zB N M0) {Q : zF → Prop} (hb : b_2334 (zi M0) a0.toInt Q) : ZV X (d + 3) 2334 [.ref 386, .int a0] M0 (zRV N [(409, 412, 1000), (413, 414, 1000), (386, 387, 3), (386, 387, 4), (386, 387, 41), (386, 387, 42), (386, 387, 5), (386, 387, 6), (386, 387, 7), (386, 387, 8), (386, 387, 9)] M0 (fun M' => Q (zi M'))) := by
  have hJ0 : zJ N [(409, 412, 1000), (413, 414, 1000), (386, 387, 3), (386, 387, 4), (386, 387, 41), (386, 387, 42), (386, 387, 5), (386, 387, 6), (386, 387, 7), (386, 387, 8), (386, 387, 9)] M0 M0 := zJ_refl hB0
  refine ZV.of (ini := false) rfl (Nat.le_of_ble_eq_true rfl) (by decide +kernel) ?_
  unfold b_2334 at hb
  replace hb : zHd _ := hb
  show ZW _ _ _ _ _ _ _ (0, [some (.ref 386), some (.int a0)], [], M0)
  refine w_lo dX9_opens_0 rfl rfl rfl rfl ?_
  refine w_gfi dX9_opens_1 rfl hJ0.1 zs_386 (Nat.le_of_ble_eq_true rfl) zo_386_42 ?_
  intro x1 f2 h3 h4
  replace hb : zHd _ := hb x1.toInt (ziE f2) h3 h4
  refine w_bi dX9_opens_4 (c := 8) (by decide) ?_
  rcases Int.decEq x1.toInt (8 : Int) with h5 | h5
  · skip
    replace hb : zHd _ := hb.1 h5
    refine w_cne_t dX9_opens_6 (t := 18) rfl (by have := zt_8; omega) ?_
    refine w_lo dX9_opens_18 rfl rfl rfl rfl ?_
    refine w_gfi dX9_opens_19 rfl hJ0.1 zs_386 (Nat.le_of_ble_eq_true rfl) zo_386_8 ?_
    intro x6 f7 h8 h9
    replace hb : zHd _ := hb x6.toInt (ziE f7) h8 h9
    rcases zcut (0 : Int) x6.toInt with h10 | h10
    · skip
      replace hb : zHd _ := hb.1 h10
      refine w_ile_f dX9_opens_22 (t := 26) rfl (by omega) ?_
      refine w_en dX9_opens_25 rfl ?_
      exact ⟨_, rfl, hJ0, hb⟩
    · skip
      replace hb : zHd _ := hb.2 h10
      refine w_ile_t dX9_opens_22 (t := 26) rfl (by omega) ?_
      refine w_lo dX9_opens_26 rfl rfl rfl rfl ?_
      refine w_pu dX9_opens_27 rfl rfl ?_
      refine w_gf dX9_opens_28 rfl hJ0.1.1 zs_386 f2 ?_
      refine w_ic dX9_opens_31 zi_1 ?_
      refine w_add dX9_opens_32 (by have := zt_1; omega) ?_
      intro x11 h12
      have := zt_1
      replace hb : zHd _ := hb x11.toInt (by have := zt_1; omega)
      refine w_pfi dX9_opens_33 rfl hJ0 zs_386 (Nat.le_of_ble_eq_true rfl) zo_386_42 (by omega) (by omega) (zIR_s (zIR_s (zIR_s (zIR_s (zIR_s (zIR_k (by omega) (by omega))))))) rfl rfl rfl ?_
      intro M13 hJ14 f15 hn16
      replace hb : zHd _ := hb (zi M13) (zi_zup hn16 f15 rfl rfl)
      refine w_lo dX9_opens_36 rfl rfl rfl rfl ?_
      refine w_iv dX9_opens_37 rfl rfl (As := []) rfl rfl hJ14.1.1 zs_386 (Nat.le_of_ble_eq_true rfl) ?_
      obtain ⟨P20, hp21, hb⟩ := hb
      replace hb : zHd _ := hb
      refine ZV.imp (u_2310 hN hJ14.1 hp21) ?_
      rintro _ ⟨M18, rfl, hJ19, hq22⟩
      replace hb : zHd _ := hb  (zi M18) (zi_fr hJ19.2) hq22
      have hJ24 := zJ_trans hJ14 hJ19 (zSub_cons (fun _ _ h h' hk => zIR_s (zIR_s (zIR_e (by omega) (by omega) hk))) (zSub_cons (fun _ _ h h' hk => zIR_s (zIR_s (zIR_s (zIR_e (by omega) (by omega) hk)))) (zSub_cons (fun _ _ h h' hk => zIR_s (zIR_s (zIR_s (zIR_s (zIR_s (zIR_s (zIR_e (by omega) (by omega) hk))))))) (zSub_cons (fun _ _ h h' hk => zIR_s (zIR_s (zIR_s (zIR_s (zIR_s (zIR_s (zIR_s (zIR_e (by omega) (by omega) hk)))))))) (zSub_cons (fun _ _ h h' hk => zIR_s (zIR_s (zIR_s (zIR_s (zIR_s (zIR_s (zIR_s (zIR_s (zIR_e (by omega) (by omega) hk))))))))) (zSub_cons (fun _ _ h h' hk => zIR_s (zIR_s (zIR_s (zIR_s (zIR_s (zIR_s (zIR_s (zIR_s (zIR_s (zIR_e (by omega) (by omega) hk)))))))))) (zSub_cons (fun _ _ h h' hk => zIR_s (zIR_s (zIR_s (zIR_s (zIR_s (zIR_s (zIR_s (zIR_s (zIR_s (zIR_s (zIR_e (by omega) (by omega) hk))))))))))) zSub_nil)))))))
      show ZW _ _ _ _ _ _ _ (40, [some (.ref 386), some (.int a0)], [], M18)
      refine w_lo dX9_opens_40 rfl rfl rfl rfl ?_
      refine w_lo dX9_opens_41 rfl rfl rfl rfl ?_
      refine w_iv dX9_opens_42 rfl rfl (As := [.int a0]) rfl rfl hJ24.1.1 zs_386 (Nat.le_of_ble_eq_true rfl) ?_
      obtain ⟨P27, hp28, hb⟩ := hb
      replace hb : zHd _ := hb
      refine ZV.imp (u_2329 a0 hN hJ24.1 hp28) ?_
      rintro _ ⟨M25, rfl, hJ26, hq29⟩
      replace hb : zHd _ := hb  (zi M25) (zi_fr hJ26.2) hq29
      have hJ31 := zJ_trans hJ24 hJ26 (zSub_cons (fun _ _ h h' hk => zIR_a (by omega) (by omega)) (zSub_cons (fun _ _ h h' hk => zIR_s (zIR_a (by omega) (by omega))) (zSub_cons (fun _ _ h h' hk => zIR_s (zIR_s (zIR_s (zIR_s (zIR_e (by omega) (by omega) hk))))) zSub_nil)))
      show ZW _ _ _ _ _ _ _ (45, [some (.ref 386), some (.int a0)], [], M25)
      refine w_en dX9_opens_45 rfl ?_
      exact ⟨_, rfl, hJ31, hb⟩
  · skip
    replace hb : zHd _ := hb.2 h5
    refine w_cne_f dX9_opens_6 (t := 18) rfl (by have := zt_8; omega) ?_
    refine w_lo dX9_opens_9 rfl rfl rfl rfl ?_
    refine w_ic dX9_opens_10 zi_5 ?_
    refine w_lo dX9_opens_11 rfl rfl rfl rfl ?_
    refine w_gfi dX9_opens_12 rfl hJ0.1 zs_386 (Nat.le_of_ble_eq_true rfl) zo_386_4 ?_
    intro x32 f33 h34 h35
    replace hb : zHd _ := hb x32.toInt (ziE f33) h34 h35
    refine w_iv dX9_opens_15 rfl rfl (As := [.int 5, .int x32]) rfl rfl hJ0.1.1 zs_386 (Nat.le_of_ble_eq_true rfl) ?_
    refine ZV.of (ini := false) rfl (Nat.le_of_ble_eq_true rfl) (by decide +kernel) ?_
    show ZW _ _ _ _ _ _ _ (0, [some (.ref 386), some (.int 5), some (.int x32)], [], M0)
    refine w_lo dX9_blame_0 rfl rfl rfl rfl ?_
    refine w_gfi dX9_blame_1 rfl hJ0.1 zs_386 (Nat.le_of_ble_eq_true rfl) zo_386_8 ?_
    intro x36 f37 h38 h39
    replace hb : zHd _ := hb x36.toInt (ziE f37) h38 h39
    rcases zcut (0 : Int) x36.toInt with h40 | h40
    · skip
      replace hb : zHd _ := hb.1 h40
      refine w_ile_f dX9_blame_4 (t := 8) rfl (by omega) ?_
      refine w_en dX9_blame_7 rfl ?_
      show ZW _ _ _ _ _ _ _ (18, [some (.ref 386), some (.int a0)], [], M0)
      refine w_lo dX9_opens_18 rfl rfl rfl rfl ?_
      refine w_gf dX9_opens_19 rfl hJ0.1.1 zs_386 f37 ?_
      refine w_ile_f dX9_opens_22 (t := 26) rfl (by omega) ?_
      refine w_en dX9_opens_25 rfl ?_
      exact ⟨_, rfl, hJ0, hb⟩
    · skip
      replace hb : zHd _ := hb.2 h40
      refine w_ile_t dX9_blame_4 (t := 8) rfl (by omega) ?_
      refine w_lo dX9_blame_8 rfl rfl rfl rfl ?_
      refine w_lo dX9_blame_9 rfl rfl rfl rfl ?_
      refine w_pfi dX9_blame_10 rfl hJ0 zs_386 (Nat.le_of_ble_eq_true rfl) zo_386_8 (by have := zt_5; omega) (by have := zt_5; omega) (zIR_s (zIR_s (zIR_s (zIR_s (zIR_s (zIR_s (zIR_s (zIR_s (zIR_s (zIR_k (by omega) (by omega))))))))))) rfl rfl rfl ?_
      intro M41 hJ42 f43 hn44
      replace hb : zHd _ := hb (zi M41) (zi_zup hn44 f43 rfl zt_5)
      refine w_lo dX9_blame_13 rfl rfl rfl rfl ?_
      refine w_lo dX9_blame_14 rfl rfl rfl rfl ?_
      refine w_pfi dX9_blame_15 rfl hJ42 zs_386 (Nat.le_of_ble_eq_true rfl) zo_386_9 (by omega) (by omega) (zIR_s (zIR_s (zIR_s (zIR_s (zIR_s (zIR_s (zIR_s (zIR_s (zIR_s (zIR_s (zIR_k (by omega) (by omega)))))))))))) rfl rfl rfl ?_
      intro M46 hJ47 f48 hn49
      replace hb : zHd _ := hb (zi M46) (zi_zup hn49 f48 rfl rfl)
      refine w_en dX9_blame_18 rfl ?_
      show ZW _ _ _ _ _ _ _ (18, [some (.ref 386), some (.int a0)], [], M46)
      refine w_lo dX9_opens_18 rfl rfl rfl rfl ?_
      have f51 := (hn49 (386) 8 (Or.inr (by decide))).trans (f43)
      refine w_gf dX9_opens_19 rfl hJ47.1.1 zs_386 f51 ?_
      refine w_ile_f dX9_opens_22 (t := 26) rfl (by have := zt_5; omega) ?_
      refine w_en dX9_opens_25 rfl ?_
      exact ⟨_, rfl, hJ47, hb⟩
set_option maxRecDepth 100000 in
theorem u_2335 {X : List Int32} {d N : Nat} {M0 : zM} (a0 : Int32) (a1 : Int32) (hN : N ≤ 600) (hB0 : zB N M0) {Q : zF → Prop} (hb : b_2335 (zi M0) a0.toInt a1.toInt Q) : ZV X (d + 1) 2335 [.ref 386, .int a0, .int a1] M0 (zRV N [(407, 409, 1000), (386, 387, 34)] M0 (fun M' => Q (zi M'))) := by
  have hJ0 : zJ N [(407, 409, 1000), (386, 387, 34)] M0 M0 := zJ_refl hB0
  refine ZV.of (ini := false) rfl (Nat.le_of_ble_eq_true rfl) (by decide +kernel) ?_
  unfold b_2335 at hb
  replace hb : zHd _ := hb
  show ZW _ _ _ _ _ _ _ (0, [some (.ref 386), some (.int a0), some (.int a1)], [], M0)
  refine w_lo dX9_add_0 rfl rfl rfl rfl ?_
  refine w_gf dX9_add_1 rfl hJ0.1.1 zs_386 (zr_386_32 hJ0.1) ?_
  refine w_si dX9_add_4 (c := 1600) (by decide) ?_
  refine w_lo dX9_add_7 rfl rfl rfl rfl ?_
  refine w_gfi dX9_add_8 rfl hJ0.1 zs_386 (Nat.le_of_ble_eq_true rfl) zo_386_35 ?_
  intro x1 f2 h3 h4
  replace hb : zHd _ := hb x1.toInt (ziE f2) h3 h4
  refine w_mulc dX9_add_11 zt_1600 (by have := zt_1600; omega) ?_
  intro x5 h6
  have := zt_1600
  replace hb : zHd _ := hb x5.toInt (by have := zt_1600; omega)
  refine w_lo dX9_add_12 rfl rfl rfl rfl ?_
  refine w_gfi dX9_add_13 rfl hJ0.1 zs_386 (Nat.le_of_ble_eq_true rfl) zo_386_34 ?_
  intro x7 f8 h9 h10
  replace hb : zHd _ := hb x7.toInt (ziE f8) h9 h10
  refine w_add dX9_add_16 (by omega) ?_
  intro x11 h12
  replace hb : zHd _ := hb x11.toInt (by omega)
  refine w_lo dX9_add_17 rfl rfl rfl rfl ?_
  have h13 := hb.1
  replace hb : zHd _ := hb.2
  have h14 := hb.1
  replace hb : zHd _ := hb.2
  refine w_isi dX9_add_18 hJ0 zs_407 (by omega) (by omega) zu_407 (by omega) (by omega) (zIR_a (by omega) (by omega)) ?_
  intro M15 hJ16 f17 hn18
  replace hb : zHd _ := hb (zi M15) (zi_zup hn18 f17 rfl rfl)
  refine w_lo dX9_add_19 rfl rfl rfl rfl ?_
  refine w_gf dX9_add_20 rfl hJ16.1.1 zs_386 (zr_386_33 hJ16.1) ?_
  refine w_si dX9_add_23 (c := 1600) (by decide) ?_
  refine w_lo dX9_add_26 rfl rfl rfl rfl ?_
  have f20 := (hn18 (386) 35 (Or.inl (by omega))).trans (f2)
  refine w_gf dX9_add_27 rfl hJ16.1.1 zs_386 f20 ?_
  refine w_mulc dX9_add_30 zt_1600 (by have := zt_1600; omega) ?_
  intro x21 h22
  have := zt_1600
  replace hb : zHd _ := hb x21.toInt (by have := zt_1600; omega)
  refine w_lo dX9_add_31 rfl rfl rfl rfl ?_
  have f23 := (hn18 (386) 34 (Or.inl (by omega))).trans (f8)
  refine w_gf dX9_add_32 rfl hJ16.1.1 zs_386 f23 ?_
  refine w_add dX9_add_35 (by omega) ?_
  intro x24 h25
  replace hb : zHd _ := hb x24.toInt (by omega)
  refine w_lo dX9_add_36 rfl rfl rfl rfl ?_
  have h26 := hb.1
  replace hb : zHd _ := hb.2
  refine w_isi dX9_add_37 hJ16 zs_408 (by omega) (by omega) zu_408 (zbot _) (ztop _) (zIR_a (by omega) (by omega)) ?_
  intro M27 hJ28 f29 hn30
  replace hb : zHd _ := hb (zi M27) (zi_zup hn30 f29 rfl rfl)
  refine w_lo dX9_add_38 rfl rfl rfl rfl ?_
  refine w_pu dX9_add_39 rfl rfl ?_
  have f32 := (hn30 (386) 34 (Or.inl (by omega))).trans (f23)
  refine w_gf dX9_add_40 rfl hJ28.1.1 zs_386 f32 ?_
  refine w_ic dX9_add_43 zi_1 ?_
  refine w_add dX9_add_44 (by have := zt_1; omega) ?_
  intro x33 h34
  have := zt_1
  replace hb : zHd _ := hb x33.toInt (by have := zt_1; omega)
  have h39 := hb.1
  replace hb : zHd _ := hb.2
  refine w_pfi dX9_add_45 rfl hJ28 zs_386 (Nat.le_of_ble_eq_true rfl) zo_386_34 (by omega) (by omega) (zIR_s (zIR_k (by omega) (by omega))) rfl rfl rfl ?_
  intro M35 hJ36 f37 hn38
  replace hb : zHd _ := hb (zi M35) (zi_zup hn38 f37 rfl rfl)
  refine w_en dX9_add_48 rfl ?_
  exact ⟨_, rfl, hJ36, hb⟩
set_option maxRecDepth 100000 in
theorem u_2330 {X : List Int32} {d N : Nat} {M0 : zM}  (hN : N ≤ 600) (hB0 : zB N M0) {Q : Int → zF → Prop} (hb : b_2330 (zi M0) Q) : ZV X (d + 4) 2330 [.ref 386] M0 (zRI N [(407, 415, 1000), (386, 387, 3), (386, 387, 34), (386, 387, 4), (386, 387, 41), (386, 387, 42), (386, 387, 44), (386, 387, 5), (386, 387, 6), (386, 387, 7), (386, 387, 8), (386, 387, 9)] M0 (0) (1) (fun v M' => Q v.toInt (zi M'))) := by
  have hJ0 : zJ N [(407, 415, 1000), (386, 387, 3), (386, 387, 34), (386, 387, 4), (386, 387, 41), (386, 387, 42), (386, 387, 44), (386, 387, 5), (386, 387, 6), (386, 387, 7), (386, 387, 8), (386, 387, 9)] M0 M0 := zJ_refl hB0
  refine ZV.of (ini := false) rfl (Nat.le_of_ble_eq_true rfl) (by decide +kernel) ?_
  obtain ⟨I34, I60, I87, I121, I137, I157, I175, I197, I223, I337, hbE, hb34, hb60, hb87, hb121, hb137, hb157, hb175, hb197, hb223, hb337⟩ := hb
  replace hbE : zHd _ := hbE
  replace hb34 : zHd _ := hb34
  replace hb60 : zHd _ := hb60
  replace hb87 : zHd _ := hb87
  replace hb121 : zHd _ := hb121
  replace hb137 : zHd _ := hb137
  replace hb157 : zHd _ := hb157
  replace hb175 : zHd _ := hb175
  replace hb197 : zHd _ := hb197
  replace hb223 : zHd _ := hb223
  replace hb337 : zHd _ := hb337
  have main : ∀ n : Nat,
      (∀ (M : zM) (v34_1 : Int32) (v34_2 : Int32) (o34_3 : Option Value), zJ N [(407, 415, 1000), (386, 387, 3), (386, 387, 34), (386, 387, 4), (386, 387, 41), (386, 387, 42), (386, 387, 44), (386, 387, 5), (386, 387, 6), (386, 387, 7), (386, 387, 8), (386, 387, 9)] M0 M → ((0 : Int) ≤ v34_1.toInt) → (v34_1.toInt ≤ 19) → ((0 : Int) ≤ v34_2.toInt) → (v34_2.toInt ≤ 1) → I34 n (zi M) v34_1.toInt v34_2.toInt → ZW X (d + 3) 9 false (some .boolean) cX9_operand (zRI N [(407, 415, 1000), (386, 387, 3), (386, 387, 34), (386, 387, 4), (386, 387, 41), (386, 387, 42), (386, 387, 44), (386, 387, 5), (386, 387, 6), (386, 387, 7), (386, 387, 8), (386, 387, 9)] M0 (0) (1) (fun v M' => Q v.toInt (zi M'))) (34, [some (.ref 386), some (.int v34_1), some (.int v34_2), o34_3], [], M)) ∧
      (∀ (M : zM) (v60_1 : Int32) (v60_2 : Int32) (o60_3 : Option Value), zJ N [(407, 415, 1000), (386, 387, 3), (386, 387, 34), (386, 387, 4), (386, 387, 41), (386, 387, 42), (386, 387, 44), (386, 387, 5), (386, 387, 6), (386, 387, 7), (386, 387, 8), (386, 387, 9)] M0 M → ((0 : Int) ≤ v60_1.toInt) → (v60_1.toInt ≤ 19) → ((0 : Int) ≤ v60_2.toInt) → (v60_2.toInt ≤ 1) → I60 n (zi M) v60_1.toInt v60_2.toInt → ZW X (d + 3) 9 false (some .boolean) cX9_operand (zRI N [(407, 415, 1000), (386, 387, 3), (386, 387, 34), (386, 387, 4), (386, 387, 41), (386, 387, 42), (386, 387, 44), (386, 387, 5), (386, 387, 6), (386, 387, 7), (386, 387, 8), (386, 387, 9)] M0 (0) (1) (fun v M' => Q v.toInt (zi M'))) (60, [some (.ref 386), some (.int v60_1), some (.int v60_2), o60_3], [], M)) ∧
      (∀ (M : zM) (v87_1 : Int32) (v87_2 : Int32) (o87_3 : Option Value), zJ N [(407, 415, 1000), (386, 387, 3), (386, 387, 34), (386, 387, 4), (386, 387, 41), (386, 387, 42), (386, 387, 44), (386, 387, 5), (386, 387, 6), (386, 387, 7), (386, 387, 8), (386, 387, 9)] M0 M → ((0 : Int) ≤ v87_1.toInt) → (v87_1.toInt ≤ 19) → ((0 : Int) ≤ v87_2.toInt) → (v87_2.toInt ≤ 1) → I87 n (zi M) v87_1.toInt v87_2.toInt → ZW X (d + 3) 9 false (some .boolean) cX9_operand (zRI N [(407, 415, 1000), (386, 387, 3), (386, 387, 34), (386, 387, 4), (386, 387, 41), (386, 387, 42), (386, 387, 44), (386, 387, 5), (386, 387, 6), (386, 387, 7), (386, 387, 8), (386, 387, 9)] M0 (0) (1) (fun v M' => Q v.toInt (zi M'))) (87, [some (.ref 386), some (.int v87_1), some (.int v87_2), o87_3], [], M)) ∧
      (∀ (M : zM) (u121_1 : Int32) (u121_2 : Int32) (o121_3 : Option Value), zJ N [(407, 415, 1000), (386, 387, 3), (386, 387, 34), (386, 387, 4), (386, 387, 41), (386, 387, 42), (386, 387, 44), (386, 387, 5), (386, 387, 6), (386, 387, 7), (386, 387, 8), (386, 387, 9)] M0 M → I121 n (zi M)  → ZW X (d + 3) 9 false (some .boolean) cX9_operand (zRI N [(407, 415, 1000), (386, 387, 3), (386, 387, 34), (386, 387, 4), (386, 387, 41), (386, 387, 42), (386, 387, 44), (386, 387, 5), (386, 387, 6), (386, 387, 7), (386, 387, 8), (386, 387, 9)] M0 (0) (1) (fun v M' => Q v.toInt (zi M'))) (121, [some (.ref 386), some (.int u121_1), some (.int u121_2), o121_3], [], M)) ∧
      (∀ (M : zM) (u137_1 : Int32) (u137_2 : Int32) (o137_3 : Option Value), zJ N [(407, 415, 1000), (386, 387, 3), (386, 387, 34), (386, 387, 4), (386, 387, 41), (386, 387, 42), (386, 387, 44), (386, 387, 5), (386, 387, 6), (386, 387, 7), (386, 387, 8), (386, 387, 9)] M0 M → I137 n (zi M)  → ZW X (d + 3) 9 false (some .boolean) cX9_operand (zRI N [(407, 415, 1000), (386, 387, 3), (386, 387, 34), (386, 387, 4), (386, 387, 41), (386, 387, 42), (386, 387, 44), (386, 387, 5), (386, 387, 6), (386, 387, 7), (386, 387, 8), (386, 387, 9)] M0 (0) (1) (fun v M' => Q v.toInt (zi M'))) (137, [some (.ref 386), some (.int u137_1), some (.int u137_2), o137_3], [], M)) ∧
      (∀ (M : zM) (u157_1 : Int32) (u157_2 : Int32) (o157_3 : Option Value), zJ N [(407, 415, 1000), (386, 387, 3), (386, 387, 34), (386, 387, 4), (386, 387, 41), (386, 387, 42), (386, 387, 44), (386, 387, 5), (386, 387, 6), (386, 387, 7), (386, 387, 8), (386, 387, 9)] M0 M → I157 n (zi M)  → ZW X (d + 3) 9 false (some .boolean) cX9_operand (zRI N [(407, 415, 1000), (386, 387, 3), (386, 387, 34), (386, 387, 4), (386, 387, 41), (386, 387, 42), (386, 387, 44), (386, 387, 5), (386, 387, 6), (386, 387, 7), (386, 387, 8), (386, 387, 9)] M0 (0) (1) (fun v M' => Q v.toInt (zi M'))) (157, [some (.ref 386), some (.int u157_1), some (.int u157_2), o157_3], [], M)) ∧
      (∀ (M : zM) (u175_1 : Int32) (u175_2 : Int32) (v175_3 : Int32), zJ N [(407, 415, 1000), (386, 387, 3), (386, 387, 34), (386, 387, 4), (386, 387, 41), (386, 387, 42), (386, 387, 44), (386, 387, 5), (386, 387, 6), (386, 387, 7), (386, 387, 8), (386, 387, 9)] M0 M → ((15 : Int) ≤ v175_3.toInt) → (v175_3.toInt ≤ 16) → I175 n (zi M) v175_3.toInt → ZW X (d + 3) 9 false (some .boolean) cX9_operand (zRI N [(407, 415, 1000), (386, 387, 3), (386, 387, 34), (386, 387, 4), (386, 387, 41), (386, 387, 42), (386, 387, 44), (386, 387, 5), (386, 387, 6), (386, 387, 7), (386, 387, 8), (386, 387, 9)] M0 (0) (1) (fun v M' => Q v.toInt (zi M'))) (175, [some (.ref 386), some (.int u175_1), some (.int u175_2), some (.int v175_3)], [], M)) ∧
      (∀ (M : zM) (u197_1 : Int32) (u197_2 : Int32) (v197_3 : Int32), zJ N [(407, 415, 1000), (386, 387, 3), (386, 387, 34), (386, 387, 4), (386, 387, 41), (386, 387, 42), (386, 387, 44), (386, 387, 5), (386, 387, 6), (386, 387, 7), (386, 387, 8), (386, 387, 9)] M0 M → ((15 : Int) ≤ v197_3.toInt) → (v197_3.toInt ≤ 16) → I197 n (zi M) v197_3.toInt → ZW X (d + 3) 9 false (some .boolean) cX9_operand (zRI N [(407, 415, 1000), (386, 387, 3), (386, 387, 34), (386, 387, 4), (386, 387, 41), (386, 387, 42), (386, 387, 44), (386, 387, 5), (386, 387, 6), (386, 387, 7), (386, 387, 8), (386, 387, 9)] M0 (0) (1) (fun v M' => Q v.toInt (zi M'))) (197, [some (.ref 386), some (.int u197_1), some (.int u197_2), some (.int v197_3)], [], M)) ∧
      (∀ (M : zM) (u223_1 : Int32) (u223_2 : Int32) (o223_3 : Option Value), zJ N [(407, 415, 1000), (386, 387, 3), (386, 387, 34), (386, 387, 4), (386, 387, 41), (386, 387, 42), (386, 387, 44), (386, 387, 5), (386, 387, 6), (386, 387, 7), (386, 387, 8), (386, 387, 9)] M0 M → I223 n (zi M)  → ZW X (d + 3) 9 false (some .boolean) cX9_operand (zRI N [(407, 415, 1000), (386, 387, 3), (386, 387, 34), (386, 387, 4), (386, 387, 41), (386, 387, 42), (386, 387, 44), (386, 387, 5), (386, 387, 6), (386, 387, 7), (386, 387, 8), (386, 387, 9)] M0 (0) (1) (fun v M' => Q v.toInt (zi M'))) (223, [some (.ref 386), some (.int u223_1), some (.int u223_2), o223_3], [], M)) ∧
      (∀ (M : zM) (u337_1 : Int32) (u337_2 : Int32) (v337_3 : Int32), zJ N [(407, 415, 1000), (386, 387, 3), (386, 387, 34), (386, 387, 4), (386, 387, 41), (386, 387, 42), (386, 387, 44), (386, 387, 5), (386, 387, 6), (386, 387, 7), (386, 387, 8), (386, 387, 9)] M0 M → ((-1 : Int) ≤ v337_3.toInt) → (v337_3.toInt ≤ 7) → I337 n (zi M) v337_3.toInt → ZW X (d + 3) 9 false (some .boolean) cX9_operand (zRI N [(407, 415, 1000), (386, 387, 3), (386, 387, 34), (386, 387, 4), (386, 387, 41), (386, 387, 42), (386, 387, 44), (386, 387, 5), (386, 387, 6), (386, 387, 7), (386, 387, 8), (386, 387, 9)] M0 (0) (1) (fun v M' => Q v.toInt (zi M'))) (337, [some (.ref 386), some (.int u337_1), some (.int u337_2), some (.int v337_3)], [], M)) := by
    intro n
    induction n using Nat.strongRecOn with
    | _ n ih =>
      refine ⟨?_, ?_, ?_, ?_, ?_, ?_, ?_, ?_, ?_, ?_⟩
      · intro M v34_1 v34_2 o34_3 hJ v34_10 v34_11 v34_20 v34_21 hI
        have hb : zHd _ := hb34 n (zi M) v34_1.toInt v34_2.toInt (zi_fr hJ.2) v34_10 v34_11 v34_20 v34_21 hI
        refine w_lo dX9_operand_34 rfl rfl rfl rfl ?_
        rcases Int.decEq v34_2.toInt (0 : Int) with h1 | h1
        · skip
          replace hb : zHd _ := hb.1 h1
          refine w_ieq_f dX9_operand_35 (t := 60) rfl (by omega) ?_
          refine w_lo dX9_operand_38 rfl rfl rfl rfl ?_
          refine w_me (st' := [.long (7237492 : Int64), .ref 386]) dX9_operand_39 rfl rfl rfl rfl rfl ?_
          refine w_iv dX9_operand_42 rfl rfl (As := [.long (7237492 : Int64)]) rfl rfl hJ.1.1 zs_386 (Nat.le_of_ble_eq_true rfl) ?_
          refine ZV.of (ini := false) rfl (Nat.le_of_ble_eq_true rfl) (by decide +kernel) ?_
          show ZW _ _ _ _ _ _ _ (0, [some (.ref 386), some (.long (7237492 : Int64)), none], [], M)
          refine w_lo dX9_isWord_0 rfl rfl rfl rfl ?_
          refine w_gfi dX9_isWord_1 rfl hJ.1 zs_386 (Nat.le_of_ble_eq_true rfl) zo_386_3 ?_
          intro x2 f3 h4 h5
          replace hb : zHd _ := hb x2.toInt (ziE f3) h4 h5
          refine w_ic dX9_isWord_4 zi_1 ?_
          rcases Int.decEq x2.toInt (1 : Int) with h6 | h6
          · skip
            replace hb : zHd _ := hb.1 h6
            refine w_cne_t dX9_isWord_5 (t := 21) rfl (by have := zt_1; omega) ?_
            refine w_ic dX9_isWord_21 zi_0 ?_
            refine w_en dX9_isWord_22 rfl ?_
            show ZW _ _ _ _ _ _ _ (45, [some (.ref 386), some (.int v34_1), some (.int v34_2), o34_3], [.int 0], M)
            refine w_ieq_t dX9_operand_45 (t := 60) rfl (by have := zt_0; omega) ?_
            obtain ⟨m, hm, hI⟩ := hb
            exact (ih m hm).2.1 M v34_1 v34_2 o34_3 hJ (by omega) (by omega) (by omega) (by omega) hI
          · skip
            replace hb : zHd _ := hb.2 h6
            refine w_cne_f dX9_isWord_5 (t := 21) rfl (by have := zt_1; omega) ?_
            refine w_lo dX9_isWord_8 rfl rfl rfl rfl ?_
            refine w_gfl dX9_isWord_9 rfl hJ.1 zs_386 (Nat.le_of_ble_eq_true rfl) zo_386_7 ?_
            intro y10 f7 h8 h9
            replace hb : zHd _ := hb y10.toInt (ziL f7)
            refine w_lo dX9_isWord_12 rfl rfl rfl rfl ?_
            refine w_lcm dX9_isWord_13 ?_
            intro x11 h12
            have := ztl_7237492
            replace hb : zHd _ := hb x11.toInt (by omega)
            rcases Int.decEq x11.toInt (0 : Int) with h13 | h13
            · skip
              replace hb : zHd _ := hb.1 h13
              refine w_ine_t dX9_isWord_14 (t := 21) rfl (by omega) ?_
              refine w_ic dX9_isWord_21 zi_0 ?_
              refine w_en dX9_isWord_22 rfl ?_
              show ZW _ _ _ _ _ _ _ (45, [some (.ref 386), some (.int v34_1), some (.int v34_2), o34_3], [.int 0], M)
              refine w_ieq_t dX9_operand_45 (t := 60) rfl (by have := zt_0; omega) ?_
              obtain ⟨m, hm, hI⟩ := hb
              exact (ih m hm).2.1 M v34_1 v34_2 o34_3 hJ (by omega) (by omega) (by omega) (by omega) hI
            · skip
              replace hb : zHd _ := hb.2 h13
              refine w_ine_f dX9_isWord_14 (t := 21) rfl (by omega) ?_
              refine w_ic dX9_isWord_17 zi_1 ?_
              refine w_gt dX9_isWord_18 (t := 22) rfl ?_
              refine w_en dX9_isWord_22 rfl ?_
              show ZW _ _ _ _ _ _ _ (45, [some (.ref 386), some (.int v34_1), some (.int v34_2), o34_3], [.int 1], M)
              refine w_ieq_f dX9_operand_45 (t := 60) rfl (by have := zt_1; omega) ?_
              refine w_lo dX9_operand_48 rfl rfl rfl rfl ?_
              refine w_bi dX9_operand_49 (c := 22) (by decide) ?_
              refine w_iv dX9_operand_51 rfl rfl (As := [.int 22]) rfl rfl hJ.1.1 zs_386 (Nat.le_of_ble_eq_true rfl) ?_
              obtain ⟨P16, hp17, hb⟩ := hb
              replace hb : zHd _ := hb
              have hp17c : b_2332 (zi M) (22 : Int32).toInt P16 := by rw [zt_22]; exact hp17
              refine ZV.imp (u_2332 22 hN hJ.1 hp17c) ?_
              rintro _ ⟨M14, rfl, hJ15, hq18⟩
              replace hb : zHd _ := hb  (zi M14) (zi_fr hJ15.2) hq18
              have hJ20 := zJ_trans hJ hJ15 (zSub_cons (fun _ _ h h' hk => zIR_a (by omega) (by omega)) (zSub_cons (fun _ _ h h' hk => zIR_s (zIR_s (zIR_s (zIR_s (zIR_s (zIR_s (zIR_e (by omega) (by omega) hk))))))) zSub_nil))
              show ZW _ _ _ _ _ _ _ (54, [some (.ref 386), some (.int v34_1), some (.int v34_2), o34_3], [], M14)
              refine w_lo dX9_operand_54 rfl rfl rfl rfl ?_
              refine w_iv dX9_operand_55 rfl rfl (As := []) rfl rfl hJ20.1.1 zs_386 (Nat.le_of_ble_eq_true rfl) ?_
              obtain ⟨P23, hp24, hb⟩ := hb
              replace hb : zHd _ := hb
              refine ZV.imp (u_2310 hN hJ20.1 hp24) ?_
              rintro _ ⟨M21, rfl, hJ22, hq25⟩
              replace hb : zHd _ := hb  (zi M21) (zi_fr hJ22.2) hq25
              have hJ27 := zJ_trans hJ20 hJ22 (zSub_cons (fun _ _ h h' hk => zIR_s (zIR_e (by omega) (by omega) hk)) (zSub_cons (fun _ _ h h' hk => zIR_s (zIR_s (zIR_s (zIR_e (by omega) (by omega) hk)))) (zSub_cons (fun _ _ h h' hk => zIR_s (zIR_s (zIR_s (zIR_s (zIR_s (zIR_s (zIR_s (zIR_e (by omega) (by omega) hk)))))))) (zSub_cons (fun _ _ h h' hk => zIR_s (zIR_s (zIR_s (zIR_s (zIR_s (zIR_s (zIR_s (zIR_s (zIR_e (by omega) (by omega) hk))))))))) (zSub_cons (fun _ _ h h' hk => zIR_s (zIR_s (zIR_s (zIR_s (zIR_s (zIR_s (zIR_s (zIR_s (zIR_s (zIR_e (by omega) (by omega) hk)))))))))) (zSub_cons (fun _ _ h h' hk => zIR_s (zIR_s (zIR_s (zIR_s (zIR_s (zIR_s (zIR_s (zIR_s (zIR_s (zIR_s (zIR_e (by omega) (by omega) hk))))))))))) (zSub_cons (fun _ _ h h' hk => zIR_s (zIR_s (zIR_s (zIR_s (zIR_s (zIR_s (zIR_s (zIR_s (zIR_s (zIR_s (zIR_s (zIR_e (by omega) (by omega) hk)))))))))))) zSub_nil)))))))
              show ZW _ _ _ _ _ _ _ (58, [some (.ref 386), some (.int v34_1), some (.int v34_2), o34_3], [], M21)
              refine w_ic dX9_operand_58 zi_0 ?_
              refine w_en dX9_operand_59 rfl ?_
              exact ⟨_, _, rfl, (by have := zt_0; omega), (by have := zt_0; omega), hJ27, hb⟩
        · skip
          replace hb : zHd _ := hb.2 h1
          refine w_ieq_t dX9_operand_35 (t := 60) rfl (by omega) ?_
          obtain ⟨m, hm, hI⟩ := hb
          exact (ih m hm).2.1 M v34_1 v34_2 o34_3 hJ (by omega) (by omega) (by omega) (by omega) hI
      · intro M v60_1 v60_2 o60_3 hJ v60_10 v60_11 v60_20 v60_21 hI
        have hb : zHd _ := hb60 n (zi M) v60_1.toInt v60_2.toInt (zi_fr hJ.2) v60_10 v60_11 v60_20 v60_21 hI
        refine w_lo dX9_operand_60 rfl rfl rfl rfl ?_
        refine w_gf dX9_operand_61 rfl hJ.1.1 zs_386 (zr_386_38 hJ.1) ?_
        refine w_lo dX9_operand_64 rfl rfl rfl rfl ?_
        refine w_ic dX9_operand_65 zi_0 ?_
        refine w_bsi dX9_operand_66 hJ zs_411 (by omega) (by omega) zu_411 (by have := zt_0; omega) (by have := zt_0; omega) (zIR_a (by omega) (by omega)) ?_
        intro M28 hJ29 f30 hn31
        replace hb : zHd _ := hb (zi M28) (zi_zup hn31 f30 rfl zt_0)
        refine w_lo dX9_operand_67 rfl rfl rfl rfl ?_
        rcases Int.decEq v60_2.toInt (0 : Int) with h33 | h33
        · skip
          replace hb : zHd _ := hb.1 h33
          refine w_ieq_f dX9_operand_68 (t := 87) rfl (by omega) ?_
          refine w_lo dX9_operand_71 rfl rfl rfl rfl ?_
          refine w_bi dX9_operand_72 (c := 91) (by decide) ?_
          refine w_iv dX9_operand_74 rfl rfl (As := [.int 91]) rfl rfl hJ29.1.1 zs_386 (Nat.le_of_ble_eq_true rfl) ?_
          refine ZV.of (ini := false) rfl (Nat.le_of_ble_eq_true rfl) (by decide +kernel) ?_
          show ZW _ _ _ _ _ _ _ (0, [some (.ref 386), some (.int 91)], [], M28)
          refine w_lo dX9_isSign_0 rfl rfl rfl rfl ?_
          refine w_gfi dX9_isSign_1 rfl hJ29.1 zs_386 (Nat.le_of_ble_eq_true rfl) zo_386_3 ?_
          intro x34 f35 h36 h37
          replace hb : zHd _ := hb x34.toInt (ziE f35) h36 h37
          refine w_ic dX9_isSign_4 zi_3 ?_
          rcases Int.decEq x34.toInt (3 : Int) with h38 | h38
          · skip
            replace hb : zHd _ := hb.1 h38
            refine w_cne_t dX9_isSign_5 (t := 20) rfl (by have := zt_3; omega) ?_
            refine w_ic dX9_isSign_20 zi_0 ?_
            refine w_en dX9_isSign_21 rfl ?_
            show ZW _ _ _ _ _ _ _ (77, [some (.ref 386), some (.int v60_1), some (.int v60_2), o60_3], [.int 0], M28)
            refine w_ieq_t dX9_operand_77 (t := 87) rfl (by have := zt_0; omega) ?_
            obtain ⟨m, hm, hI⟩ := hb
            exact (ih m hm).2.2.1 M28 v60_1 v60_2 o60_3 hJ29 (by omega) (by omega) (by omega) (by omega) hI
          · skip
            replace hb : zHd _ := hb.2 h38
            refine w_cne_f dX9_isSign_5 (t := 20) rfl (by have := zt_3; omega) ?_
            refine w_lo dX9_isSign_8 rfl rfl rfl rfl ?_
            refine w_gfi dX9_isSign_9 rfl hJ29.1 zs_386 (Nat.le_of_ble_eq_true rfl) zo_386_6 ?_
            intro x39 f40 h41 h42
            replace hb : zHd _ := hb x39.toInt (ziE f40)
            refine w_lo dX9_isSign_12 rfl rfl rfl rfl ?_
            rcases Int.decEq x39.toInt (91 : Int) with h43 | h43
            · skip
              replace hb : zHd _ := hb.1 h43
              refine w_cne_t dX9_isSign_13 (t := 20) rfl (by have := zt_91; omega) ?_
              refine w_ic dX9_isSign_20 zi_0 ?_
              refine w_en dX9_isSign_21 rfl ?_
              show ZW _ _ _ _ _ _ _ (77, [some (.ref 386), some (.int v60_1), some (.int v60_2), o60_3], [.int 0], M28)
              refine w_ieq_t dX9_operand_77 (t := 87) rfl (by have := zt_0; omega) ?_
              obtain ⟨m, hm, hI⟩ := hb
              exact (ih m hm).2.2.1 M28 v60_1 v60_2 o60_3 hJ29 (by omega) (by omega) (by omega) (by omega) hI
            · skip
              replace hb : zHd _ := hb.2 h43
              refine w_cne_f dX9_isSign_13 (t := 20) rfl (by have := zt_91; omega) ?_
              refine w_ic dX9_isSign_16 zi_1 ?_
              refine w_gt dX9_isSign_17 (t := 21) rfl ?_
              refine w_en dX9_isSign_21 rfl ?_
              show ZW _ _ _ _ _ _ _ (77, [some (.ref 386), some (.int v60_1), some (.int v60_2), o60_3], [.int 1], M28)
              refine w_ieq_f dX9_operand_77 (t := 87) rfl (by have := zt_1; omega) ?_
              refine w_lo dX9_operand_80 rfl rfl rfl rfl ?_
              refine w_ic dX9_operand_81 zi_5 ?_
              refine w_iv dX9_operand_82 rfl rfl (As := [.int 5]) rfl rfl hJ29.1.1 zs_386 (Nat.le_of_ble_eq_true rfl) ?_
              obtain ⟨P46, hp47, hb⟩ := hb
              replace hb : zHd _ := hb
              have hp47c : b_2334 (zi M28) (5 : Int32).toInt P46 := by rw [zt_5]; exact hp47
              refine ZV.imp (u_2334 5 hN hJ29.1 hp47c) ?_
              rintro _ ⟨M44, rfl, hJ45, hq48⟩
              replace hb : zHd _ := hb  (zi M44) (zi_fr hJ45.2) hq48
              have hJ50 := zJ_trans hJ29 hJ45 (zSub_cons (fun _ _ h h' hk => zIR_a (by omega) (by omega)) (zSub_cons (fun _ _ h h' hk => zIR_a (by omega) (by omega)) (zSub_cons (fun _ _ h h' hk => zIR_s (zIR_e (by omega) (by omega) hk)) (zSub_cons (fun _ _ h h' hk => zIR_s (zIR_s (zIR_s (zIR_e (by omega) (by omega) hk)))) (zSub_cons (fun _ _ h h' hk => zIR_s (zIR_s (zIR_s (zIR_s (zIR_e (by omega) (by omega) hk))))) (zSub_cons (fun _ _ h h' hk => zIR_s (zIR_s (zIR_s (zIR_s (zIR_s (zIR_e (by omega) (by omega) hk)))))) (zSub_cons (fun _ _ h h' hk => zIR_s (zIR_s (zIR_s (zIR_s (zIR_s (zIR_s (zIR_s (zIR_e (by omega) (by omega) hk)))))))) (zSub_cons (fun _ _ h h' hk => zIR_s (zIR_s (zIR_s (zIR_s (zIR_s (zIR_s (zIR_s (zIR_s (zIR_e (by omega) (by omega) hk))))))))) (zSub_cons (fun _ _ h h' hk => zIR_s (zIR_s (zIR_s (zIR_s (zIR_s (zIR_s (zIR_s (zIR_s (zIR_s (zIR_e (by omega) (by omega) hk)))))))))) (zSub_cons (fun _ _ h h' hk => zIR_s (zIR_s (zIR_s (zIR_s (zIR_s (zIR_s (zIR_s (zIR_s (zIR_s (zIR_s (zIR_e (by omega) (by omega) hk))))))))))) (zSub_cons (fun _ _ h h' hk => zIR_s (zIR_s (zIR_s (zIR_s (zIR_s (zIR_s (zIR_s (zIR_s (zIR_s (zIR_s (zIR_s (zIR_e (by omega) (by omega) hk)))))))))))) zSub_nil)))))))))))
              show ZW _ _ _ _ _ _ _ (85, [some (.ref 386), some (.int v60_1), some (.int v60_2), o60_3], [], M44)
              refine w_ic dX9_operand_85 zi_0 ?_
              refine w_en dX9_operand_86 rfl ?_
              exact ⟨_, _, rfl, (by have := zt_0; omega), (by have := zt_0; omega), hJ50, hb⟩
        · skip
          replace hb : zHd _ := hb.2 h33
          refine w_ieq_t dX9_operand_68 (t := 87) rfl (by omega) ?_
          obtain ⟨m, hm, hI⟩ := hb
          exact (ih m hm).2.2.1 M28 v60_1 v60_2 o60_3 hJ29 (by omega) (by omega) (by omega) (by omega) hI
      · intro M v87_1 v87_2 o87_3 hJ v87_10 v87_11 v87_20 v87_21 hI
        have hb : zHd _ := hb87 n (zi M) v87_1.toInt v87_2.toInt (zi_fr hJ.2) v87_10 v87_11 v87_20 v87_21 hI
        refine w_lo dX9_operand_87 rfl rfl rfl rfl ?_
        rcases Int.decEq v87_2.toInt (0 : Int) with h51 | h51
        · skip
          replace hb : zHd _ := hb.1 h51
          refine w_ieq_f dX9_operand_88 (t := 121) rfl (by omega) ?_
          refine w_lo dX9_operand_91 rfl rfl rfl rfl ?_
          refine w_me (st' := [.long (6384748 : Int64), .ref 386]) dX9_operand_92 rfl rfl rfl rfl rfl ?_
          refine w_iv dX9_operand_95 rfl rfl (As := [.long (6384748 : Int64)]) rfl rfl hJ.1.1 zs_386 (Nat.le_of_ble_eq_true rfl) ?_
          refine ZV.of (ini := false) rfl (Nat.le_of_ble_eq_true rfl) (by decide +kernel) ?_
          show ZW _ _ _ _ _ _ _ (0, [some (.ref 386), some (.long (6384748 : Int64)), none], [], M)
          refine w_lo dX9_isWord_0 rfl rfl rfl rfl ?_
          refine w_gfi dX9_isWord_1 rfl hJ.1 zs_386 (Nat.le_of_ble_eq_true rfl) zo_386_3 ?_
          intro x52 f53 h54 h55
          replace hb : zHd _ := hb x52.toInt (ziE f53) h54 h55
          refine w_ic dX9_isWord_4 zi_1 ?_
          rcases Int.decEq x52.toInt (1 : Int) with h56 | h56
          · skip
            replace hb : zHd _ := hb.1 h56
            refine w_cne_t dX9_isWord_5 (t := 21) rfl (by have := zt_1; omega) ?_
            refine w_ic dX9_isWord_21 zi_0 ?_
            refine w_en dX9_isWord_22 rfl ?_
            show ZW _ _ _ _ _ _ _ (98, [some (.ref 386), some (.int v87_1), some (.int v87_2), o87_3], [.int 0], M)
            refine w_ieq_t dX9_operand_98 (t := 121) rfl (by have := zt_0; omega) ?_
            obtain ⟨m, hm, hI⟩ := hb
            exact (ih m hm).2.2.2.1 M v87_1 v87_2 o87_3 hJ hI
          · skip
            replace hb : zHd _ := hb.2 h56
            refine w_cne_f dX9_isWord_5 (t := 21) rfl (by have := zt_1; omega) ?_
            refine w_lo dX9_isWord_8 rfl rfl rfl rfl ?_
            refine w_gfl dX9_isWord_9 rfl hJ.1 zs_386 (Nat.le_of_ble_eq_true rfl) zo_386_7 ?_
            intro y60 f57 h58 h59
            replace hb : zHd _ := hb y60.toInt (ziL f57)
            refine w_lo dX9_isWord_12 rfl rfl rfl rfl ?_
            refine w_lcm dX9_isWord_13 ?_
            intro x61 h62
            have := ztl_6384748
            replace hb : zHd _ := hb x61.toInt (by omega)
            rcases Int.decEq x61.toInt (0 : Int) with h63 | h63
            · skip
              replace hb : zHd _ := hb.1 h63
              refine w_ine_t dX9_isWord_14 (t := 21) rfl (by omega) ?_
              refine w_ic dX9_isWord_21 zi_0 ?_
              refine w_en dX9_isWord_22 rfl ?_
              show ZW _ _ _ _ _ _ _ (98, [some (.ref 386), some (.int v87_1), some (.int v87_2), o87_3], [.int 0], M)
              refine w_ieq_t dX9_operand_98 (t := 121) rfl (by have := zt_0; omega) ?_
              obtain ⟨m, hm, hI⟩ := hb
              exact (ih m hm).2.2.2.1 M v87_1 v87_2 o87_3 hJ hI
            · skip
              replace hb : zHd _ := hb.2 h63
              refine w_ine_f dX9_isWord_14 (t := 21) rfl (by omega) ?_
              refine w_ic dX9_isWord_17 zi_1 ?_
              refine w_gt dX9_isWord_18 (t := 22) rfl ?_
              refine w_en dX9_isWord_22 rfl ?_
              show ZW _ _ _ _ _ _ _ (98, [some (.ref 386), some (.int v87_1), some (.int v87_2), o87_3], [.int 1], M)
              refine w_ieq_f dX9_operand_98 (t := 121) rfl (by have := zt_1; omega) ?_
              refine w_lo dX9_operand_101 rfl rfl rfl rfl ?_
              refine w_bi dX9_operand_102 (c := 9) (by decide) ?_
              refine w_ic dX9_operand_104 zi_0 ?_
              refine w_iv dX9_operand_105 rfl rfl (As := [.int 9, .int 0]) rfl rfl hJ.1.1 zs_386 (Nat.le_of_ble_eq_true rfl) ?_
              obtain ⟨P66, hp67, hb⟩ := hb
              replace hb : zHd _ := hb
              have hp67c : b_2335 (zi M) (9 : Int32).toInt (0 : Int32).toInt P66 := by rw [zt_9, zt_0]; exact hp67
              refine ZV.imp (u_2335 9 0 hN hJ.1 hp67c) ?_
              rintro _ ⟨M64, rfl, hJ65, hq68⟩
              replace hb : zHd _ := hb  (zi M64) (zi_fr hJ65.2) hq68
              have hJ70 := zJ_trans hJ hJ65 (zSub_cons (fun _ _ h h' hk => zIR_a (by omega) (by omega)) (zSub_cons (fun _ _ h h' hk => zIR_s (zIR_s (zIR_e (by omega) (by omega) hk))) zSub_nil))
              show ZW _ _ _ _ _ _ _ (108, [some (.ref 386), some (.int v87_1), some (.int v87_2), o87_3], [], M64)
              refine w_lo dX9_operand_108 rfl rfl rfl rfl ?_
              refine w_gf dX9_operand_109 rfl hJ70.1.1 zs_386 (zr_386_37 hJ70.1) ?_
              refine w_lo dX9_operand_112 rfl rfl rfl rfl ?_
              refine w_ic dX9_operand_113 zi_2 ?_
              refine w_isi dX9_operand_114 hJ70 zs_410 (by omega) (by omega) zu_410 (by have := zt_2; omega) (by have := zt_2; omega) (zIR_a (by omega) (by omega)) ?_
              intro M71 hJ72 f73 hn74
              replace hb : zHd _ := hb (zi M71) (zi_zup hn74 f73 rfl zt_2)
              refine w_lo dX9_operand_115 rfl rfl rfl rfl ?_
              refine w_iv dX9_operand_116 rfl rfl (As := []) rfl rfl hJ72.1.1 zs_386 (Nat.le_of_ble_eq_true rfl) ?_
              obtain ⟨P78, hp79, hb⟩ := hb
              replace hb : zHd _ := hb
              refine ZV.imp (u_2310 hN hJ72.1 hp79) ?_
              rintro _ ⟨M76, rfl, hJ77, hq80⟩
              replace hb : zHd _ := hb  (zi M76) (zi_fr hJ77.2) hq80
              have hJ82 := zJ_trans hJ72 hJ77 (zSub_cons (fun _ _ h h' hk => zIR_s (zIR_e (by omega) (by omega) hk)) (zSub_cons (fun _ _ h h' hk => zIR_s (zIR_s (zIR_s (zIR_e (by omega) (by omega) hk)))) (zSub_cons (fun _ _ h h' hk => zIR_s (zIR_s (zIR_s (zIR_s (zIR_s (zIR_s (zIR_s (zIR_e (by omega) (by omega) hk)))))))) (zSub_cons (fun _ _ h h' hk => zIR_s (zIR_s (zIR_s (zIR_s (zIR_s (zIR_s (zIR_s (zIR_s (zIR_e (by omega) (by omega) hk))))))))) (zSub_cons (fun _ _ h h' hk => zIR_s (zIR_s (zIR_s (zIR_s (zIR_s (zIR_s (zIR_s (zIR_s (zIR_s (zIR_e (by omega) (by omega) hk)))))))))) (zSub_cons (fun _ _ h h' hk => zIR_s (zIR_s (zIR_s (zIR_s (zIR_s (zIR_s (zIR_s (zIR_s (zIR_s (zIR_s (zIR_e (by omega) (by omega) hk))))))))))) (zSub_cons (fun _ _ h h' hk => zIR_s (zIR_s (zIR_s (zIR_s (zIR_s (zIR_s (zIR_s (zIR_s (zIR_s (zIR_s (zIR_s (zIR_e (by omega) (by omega) hk)))))))))))) zSub_nil)))))))
              show ZW _ _ _ _ _ _ _ (119, [some (.ref 386), some (.int v87_1), some (.int v87_2), o87_3], [], M76)
              refine w_ic dX9_operand_119 zi_1 ?_
              refine w_en dX9_operand_120 rfl ?_
              exact ⟨_, _, rfl, (by have := zt_1; omega), (by have := zt_1; omega), hJ82, hb⟩
        · skip
          replace hb : zHd _ := hb.2 h51
          refine w_ieq_t dX9_operand_88 (t := 121) rfl (by omega) ?_
          obtain ⟨m, hm, hI⟩ := hb
          exact (ih m hm).2.2.2.1 M v87_1 v87_2 o87_3 hJ hI
      · intro M u121_1 u121_2 o121_3 hJ hI
        have hb : zHd _ := hb121 n (zi M)  (zi_fr hJ.2)  hI
        refine w_lo dX9_operand_121 rfl rfl rfl rfl ?_
        refine w_bi dX9_operand_122 (c := 40) (by decide) ?_
        refine w_iv dX9_operand_124 rfl rfl (As := [.int 40]) rfl rfl hJ.1.1 zs_386 (Nat.le_of_ble_eq_true rfl) ?_
        refine ZV.of (ini := false) rfl (Nat.le_of_ble_eq_true rfl) (by decide +kernel) ?_
        show ZW _ _ _ _ _ _ _ (0, [some (.ref 386), some (.int 40)], [], M)
        refine w_lo dX9_isSign_0 rfl rfl rfl rfl ?_
        refine w_gfi dX9_isSign_1 rfl hJ.1 zs_386 (Nat.le_of_ble_eq_true rfl) zo_386_3 ?_
        intro x83 f84 h85 h86
        replace hb : zHd _ := hb x83.toInt (ziE f84) h85 h86
        refine w_ic dX9_isSign_4 zi_3 ?_
        rcases Int.decEq x83.toInt (3 : Int) with h87 | h87
        · skip
          replace hb : zHd _ := hb.1 h87
          refine w_cne_t dX9_isSign_5 (t := 20) rfl (by have := zt_3; omega) ?_
          refine w_ic dX9_isSign_20 zi_0 ?_
          refine w_en dX9_isSign_21 rfl ?_
          show ZW _ _ _ _ _ _ _ (127, [some (.ref 386), some (.int u121_1), some (.int u121_2), o121_3], [.int 0], M)
          refine w_ieq_t dX9_operand_127 (t := 137) rfl (by have := zt_0; omega) ?_
          obtain ⟨m, hm, hI⟩ := hb
          exact (ih m hm).2.2.2.2.1 M u121_1 u121_2 o121_3 hJ hI
        · skip
          replace hb : zHd _ := hb.2 h87
          refine w_cne_f dX9_isSign_5 (t := 20) rfl (by have := zt_3; omega) ?_
          refine w_lo dX9_isSign_8 rfl rfl rfl rfl ?_
          refine w_gfi dX9_isSign_9 rfl hJ.1 zs_386 (Nat.le_of_ble_eq_true rfl) zo_386_6 ?_
          intro x88 f89 h90 h91
          replace hb : zHd _ := hb x88.toInt (ziE f89)
          refine w_lo dX9_isSign_12 rfl rfl rfl rfl ?_
          rcases Int.decEq x88.toInt (40 : Int) with h92 | h92
          · skip
            replace hb : zHd _ := hb.1 h92
            refine w_cne_t dX9_isSign_13 (t := 20) rfl (by have := zt_40; omega) ?_
            refine w_ic dX9_isSign_20 zi_0 ?_
            refine w_en dX9_isSign_21 rfl ?_
            show ZW _ _ _ _ _ _ _ (127, [some (.ref 386), some (.int u121_1), some (.int u121_2), o121_3], [.int 0], M)
            refine w_ieq_t dX9_operand_127 (t := 137) rfl (by have := zt_0; omega) ?_
            obtain ⟨m, hm, hI⟩ := hb
            exact (ih m hm).2.2.2.2.1 M u121_1 u121_2 o121_3 hJ hI
          · skip
            replace hb : zHd _ := hb.2 h92
            refine w_cne_f dX9_isSign_13 (t := 20) rfl (by have := zt_40; omega) ?_
            refine w_ic dX9_isSign_16 zi_1 ?_
            refine w_gt dX9_isSign_17 (t := 21) rfl ?_
            refine w_en dX9_isSign_21 rfl ?_
            show ZW _ _ _ _ _ _ _ (127, [some (.ref 386), some (.int u121_1), some (.int u121_2), o121_3], [.int 1], M)
            refine w_ieq_f dX9_operand_127 (t := 137) rfl (by have := zt_1; omega) ?_
            refine w_lo dX9_operand_130 rfl rfl rfl rfl ?_
            refine w_ic dX9_operand_131 zi_2 ?_
            refine w_iv dX9_operand_132 rfl rfl (As := [.int 2]) rfl rfl hJ.1.1 zs_386 (Nat.le_of_ble_eq_true rfl) ?_
            obtain ⟨P95, hp96, hb⟩ := hb
            replace hb : zHd _ := hb
            have hp96c : b_2334 (zi M) (2 : Int32).toInt P95 := by rw [zt_2]; exact hp96
            refine ZV.imp (u_2334 2 hN hJ.1 hp96c) ?_
            rintro _ ⟨M93, rfl, hJ94, hq97⟩
            replace hb : zHd _ := hb  (zi M93) (zi_fr hJ94.2) hq97
            have hJ99 := zJ_trans hJ hJ94 (zSub_cons (fun _ _ h h' hk => zIR_a (by omega) (by omega)) (zSub_cons (fun _ _ h h' hk => zIR_a (by omega) (by omega)) (zSub_cons (fun _ _ h h' hk => zIR_s (zIR_e (by omega) (by omega) hk)) (zSub_cons (fun _ _ h h' hk => zIR_s (zIR_s (zIR_s (zIR_e (by omega) (by omega) hk)))) (zSub_cons (fun _ _ h h' hk => zIR_s (zIR_s (zIR_s (zIR_s (zIR_e (by omega) (by omega) hk))))) (zSub_cons (fun _ _ h h' hk => zIR_s (zIR_s (zIR_s (zIR_s (zIR_s (zIR_e (by omega) (by omega) hk)))))) (zSub_cons (fun _ _ h h' hk => zIR_s (zIR_s (zIR_s (zIR_s (zIR_s (zIR_s (zIR_s (zIR_e (by omega) (by omega) hk)))))))) (zSub_cons (fun _ _ h h' hk => zIR_s (zIR_s (zIR_s (zIR_s (zIR_s (zIR_s (zIR_s (zIR_s (zIR_e (by omega) (by omega) hk))))))))) (zSub_cons (fun _ _ h h' hk => zIR_s (zIR_s (zIR_s (zIR_s (zIR_s (zIR_s (zIR_s (zIR_s (zIR_s (zIR_e (by omega) (by omega) hk)))))))))) (zSub_cons (fun _ _ h h' hk => zIR_s (zIR_s (zIR_s (zIR_s (zIR_s (zIR_s (zIR_s (zIR_s (zIR_s (zIR_s (zIR_e (by omega) (by omega) hk))))))))))) (zSub_cons (fun _ _ h h' hk => zIR_s (zIR_s (zIR_s (zIR_s (zIR_s (zIR_s (zIR_s (zIR_s (zIR_s (zIR_s (zIR_s (zIR_e (by omega) (by omega) hk)))))))))))) zSub_nil)))))))))))
            show ZW _ _ _ _ _ _ _ (135, [some (.ref 386), some (.int u121_1), some (.int u121_2), o121_3], [], M93)
            refine w_ic dX9_operand_135 zi_0 ?_
            refine w_en dX9_operand_136 rfl ?_
            exact ⟨_, _, rfl, (by have := zt_0; omega), (by have := zt_0; omega), hJ99, hb⟩
      · intro M u137_1 u137_2 o137_3 hJ hI
        have hb : zHd _ := hb137 n (zi M)  (zi_fr hJ.2)  hI
        refine w_lo dX9_operand_137 rfl rfl rfl rfl ?_
        refine w_me (st' := [.long (7170414 : Int64), .ref 386]) dX9_operand_138 rfl rfl rfl rfl rfl ?_
        refine w_iv dX9_operand_141 rfl rfl (As := [.long (7170414 : Int64)]) rfl rfl hJ.1.1 zs_386 (Nat.le_of_ble_eq_true rfl) ?_
        refine ZV.of (ini := false) rfl (Nat.le_of_ble_eq_true rfl) (by decide +kernel) ?_
        show ZW _ _ _ _ _ _ _ (0, [some (.ref 386), some (.long (7170414 : Int64)), none], [], M)
        refine w_lo dX9_isWord_0 rfl rfl rfl rfl ?_
        refine w_gfi dX9_isWord_1 rfl hJ.1 zs_386 (Nat.le_of_ble_eq_true rfl) zo_386_3 ?_
        intro x100 f101 h102 h103
        replace hb : zHd _ := hb x100.toInt (ziE f101) h102 h103
        refine w_ic dX9_isWord_4 zi_1 ?_
        rcases Int.decEq x100.toInt (1 : Int) with h104 | h104
        · skip
          replace hb : zHd _ := hb.1 h104
          refine w_cne_t dX9_isWord_5 (t := 21) rfl (by have := zt_1; omega) ?_
          refine w_ic dX9_isWord_21 zi_0 ?_
          refine w_en dX9_isWord_22 rfl ?_
          show ZW _ _ _ _ _ _ _ (144, [some (.ref 386), some (.int u137_1), some (.int u137_2), o137_3], [.int 0], M)
          refine w_ine_f dX9_operand_144 (t := 157) rfl (by have := zt_0; omega) ?_
          refine w_lo dX9_operand_147 rfl rfl rfl rfl ?_
          refine w_me (st' := [.long (7168376 : Int64), .ref 386]) dX9_operand_148 rfl rfl rfl rfl rfl ?_
          refine w_iv dX9_operand_151 rfl rfl (As := [.long (7168376 : Int64)]) rfl rfl hJ.1.1 zs_386 (Nat.le_of_ble_eq_true rfl) ?_
          refine ZV.of (ini := false) rfl (Nat.le_of_ble_eq_true rfl) (by decide +kernel) ?_
          show ZW _ _ _ _ _ _ _ (0, [some (.ref 386), some (.long (7168376 : Int64)), none], [], M)
          refine w_lo dX9_isWord_0 rfl rfl rfl rfl ?_
          refine w_gf dX9_isWord_1 rfl hJ.1.1 zs_386 f101 ?_
          refine w_ic dX9_isWord_4 zi_1 ?_
          rcases Int.decEq x100.toInt (1 : Int) with h105 | h105
          · skip
            replace hb : zHd _ := hb.1 h105
            refine w_cne_t dX9_isWord_5 (t := 21) rfl (by have := zt_1; omega) ?_
            refine w_ic dX9_isWord_21 zi_0 ?_
            refine w_en dX9_isWord_22 rfl ?_
            show ZW _ _ _ _ _ _ _ (154, [some (.ref 386), some (.int u137_1), some (.int u137_2), o137_3], [.int 0], M)
            refine w_ieq_t dX9_operand_154 (t := 223) rfl (by have := zt_0; omega) ?_
            obtain ⟨m, hm, hI⟩ := hb
            exact (ih m hm).2.2.2.2.2.2.2.2.1 M u137_1 u137_2 o137_3 hJ hI
          · skip
            replace hb : zHd _ := hb.2 h105
            refine w_cne_f dX9_isWord_5 (t := 21) rfl (by have := zt_1; omega) ?_
            refine w_lo dX9_isWord_8 rfl rfl rfl rfl ?_
            refine w_gfl dX9_isWord_9 rfl hJ.1 zs_386 (Nat.le_of_ble_eq_true rfl) zo_386_7 ?_
            intro y109 f106 h107 h108
            replace hb : zHd _ := hb y109.toInt (ziL f106)
            refine w_lo dX9_isWord_12 rfl rfl rfl rfl ?_
            refine w_lcm dX9_isWord_13 ?_
            intro x110 h111
            have := ztl_7168376
            replace hb : zHd _ := hb x110.toInt (by omega)
            rcases Int.decEq x110.toInt (0 : Int) with h112 | h112
            · skip
              replace hb : zHd _ := hb.1 h112
              refine w_ine_t dX9_isWord_14 (t := 21) rfl (by omega) ?_
              refine w_ic dX9_isWord_21 zi_0 ?_
              refine w_en dX9_isWord_22 rfl ?_
              show ZW _ _ _ _ _ _ _ (154, [some (.ref 386), some (.int u137_1), some (.int u137_2), o137_3], [.int 0], M)
              refine w_ieq_t dX9_operand_154 (t := 223) rfl (by have := zt_0; omega) ?_
              obtain ⟨m, hm, hI⟩ := hb
              exact (ih m hm).2.2.2.2.2.2.2.2.1 M u137_1 u137_2 o137_3 hJ hI
            · skip
              replace hb : zHd _ := hb.2 h112
              refine w_ine_f dX9_isWord_14 (t := 21) rfl (by omega) ?_
              refine w_ic dX9_isWord_17 zi_1 ?_
              refine w_gt dX9_isWord_18 (t := 22) rfl ?_
              refine w_en dX9_isWord_22 rfl ?_
              show ZW _ _ _ _ _ _ _ (154, [some (.ref 386), some (.int u137_1), some (.int u137_2), o137_3], [.int 1], M)
              refine w_ieq_f dX9_operand_154 (t := 223) rfl (by have := zt_1; omega) ?_
              obtain ⟨m, hm, hI⟩ := hb
              exact (ih m hm).2.2.2.2.2.1 M u137_1 u137_2 o137_3 hJ hI
        · skip
          replace hb : zHd _ := hb.2 h104
          refine w_cne_f dX9_isWord_5 (t := 21) rfl (by have := zt_1; omega) ?_
          refine w_lo dX9_isWord_8 rfl rfl rfl rfl ?_
          refine w_gfl dX9_isWord_9 rfl hJ.1 zs_386 (Nat.le_of_ble_eq_true rfl) zo_386_7 ?_
          intro y116 f113 h114 h115
          replace hb : zHd _ := hb y116.toInt (ziL f113)
          refine w_lo dX9_isWord_12 rfl rfl rfl rfl ?_
          refine w_lcm dX9_isWord_13 ?_
          intro x117 h118
          have := ztl_7170414
          replace hb : zHd _ := hb x117.toInt (by omega)
          rcases Int.decEq x117.toInt (0 : Int) with h119 | h119
          · skip
            replace hb : zHd _ := hb.1 h119
            refine w_ine_t dX9_isWord_14 (t := 21) rfl (by omega) ?_
            refine w_ic dX9_isWord_21 zi_0 ?_
            refine w_en dX9_isWord_22 rfl ?_
            show ZW _ _ _ _ _ _ _ (144, [some (.ref 386), some (.int u137_1), some (.int u137_2), o137_3], [.int 0], M)
            refine w_ine_f dX9_operand_144 (t := 157) rfl (by have := zt_0; omega) ?_
            refine w_lo dX9_operand_147 rfl rfl rfl rfl ?_
            refine w_me (st' := [.long (7168376 : Int64), .ref 386]) dX9_operand_148 rfl rfl rfl rfl rfl ?_
            refine w_iv dX9_operand_151 rfl rfl (As := [.long (7168376 : Int64)]) rfl rfl hJ.1.1 zs_386 (Nat.le_of_ble_eq_true rfl) ?_
            refine ZV.of (ini := false) rfl (Nat.le_of_ble_eq_true rfl) (by decide +kernel) ?_
            show ZW _ _ _ _ _ _ _ (0, [some (.ref 386), some (.long (7168376 : Int64)), none], [], M)
            refine w_lo dX9_isWord_0 rfl rfl rfl rfl ?_
            refine w_gf dX9_isWord_1 rfl hJ.1.1 zs_386 f101 ?_
            refine w_ic dX9_isWord_4 zi_1 ?_
            refine w_cne_f dX9_isWord_5 (t := 21) rfl (by have := zt_1; omega) ?_
            refine w_lo dX9_isWord_8 rfl rfl rfl rfl ?_
            refine w_gf dX9_isWord_9 rfl hJ.1.1 zs_386 f113 ?_
            refine w_lo dX9_isWord_12 rfl rfl rfl rfl ?_
            refine w_lcm dX9_isWord_13 ?_
            intro x120 h121
            have := ztl_7168376
            replace hb : zHd _ := hb x120.toInt (by omega)
            rcases Int.decEq x120.toInt (0 : Int) with h122 | h122
            · skip
              replace hb : zHd _ := hb.1 h122
              refine w_ine_t dX9_isWord_14 (t := 21) rfl (by omega) ?_
              refine w_ic dX9_isWord_21 zi_0 ?_
              refine w_en dX9_isWord_22 rfl ?_
              show ZW _ _ _ _ _ _ _ (154, [some (.ref 386), some (.int u137_1), some (.int u137_2), o137_3], [.int 0], M)
              refine w_ieq_t dX9_operand_154 (t := 223) rfl (by have := zt_0; omega) ?_
              obtain ⟨m, hm, hI⟩ := hb
              exact (ih m hm).2.2.2.2.2.2.2.2.1 M u137_1 u137_2 o137_3 hJ hI
            · skip
              replace hb : zHd _ := hb.2 h122
              refine w_ine_f dX9_isWord_14 (t := 21) rfl (by omega) ?_
              refine w_ic dX9_isWord_17 zi_1 ?_
              refine w_gt dX9_isWord_18 (t := 22) rfl ?_
              refine w_en dX9_isWord_22 rfl ?_
              show ZW _ _ _ _ _ _ _ (154, [some (.ref 386), some (.int u137_1), some (.int u137_2), o137_3], [.int 1], M)
              refine w_ieq_f dX9_operand_154 (t := 223) rfl (by have := zt_1; omega) ?_
              obtain ⟨m, hm, hI⟩ := hb
              exact (ih m hm).2.2.2.2.2.1 M u137_1 u137_2 o137_3 hJ hI
          · skip
            replace hb : zHd _ := hb.2 h119
            refine w_ine_f dX9_isWord_14 (t := 21) rfl (by omega) ?_
            refine w_ic dX9_isWord_17 zi_1 ?_
            refine w_gt dX9_isWord_18 (t := 22) rfl ?_
            refine w_en dX9_isWord_22 rfl ?_
            show ZW _ _ _ _ _ _ _ (144, [some (.ref 386), some (.int u137_1), some (.int u137_2), o137_3], [.int 1], M)
            refine w_ine_t dX9_operand_144 (t := 157) rfl (by have := zt_1; omega) ?_
            obtain ⟨m, hm, hI⟩ := hb
            exact (ih m hm).2.2.2.2.2.1 M u137_1 u137_2 o137_3 hJ hI
      · intro M u157_1 u157_2 o157_3 hJ hI
        have hb : zHd _ := hb157 n (zi M)  (zi_fr hJ.2)  hI
        refine w_lo dX9_operand_157 rfl rfl rfl rfl ?_
        refine w_me (st' := [.long (7170414 : Int64), .ref 386]) dX9_operand_158 rfl rfl rfl rfl rfl ?_
        refine w_iv dX9_operand_161 rfl rfl (As := [.long (7170414 : Int64)]) rfl rfl hJ.1.1 zs_386 (Nat.le_of_ble_eq_true rfl) ?_
        refine ZV.of (ini := false) rfl (Nat.le_of_ble_eq_true rfl) (by decide +kernel) ?_
        show ZW _ _ _ _ _ _ _ (0, [some (.ref 386), some (.long (7170414 : Int64)), none], [], M)
        refine w_lo dX9_isWord_0 rfl rfl rfl rfl ?_
        refine w_gfi dX9_isWord_1 rfl hJ.1 zs_386 (Nat.le_of_ble_eq_true rfl) zo_386_3 ?_
        intro x123 f124 h125 h126
        replace hb : zHd _ := hb x123.toInt (ziE f124) h125 h126
        refine w_ic dX9_isWord_4 zi_1 ?_
        rcases Int.decEq x123.toInt (1 : Int) with h127 | h127
        · skip
          replace hb : zHd _ := hb.1 h127
          refine w_cne_t dX9_isWord_5 (t := 21) rfl (by have := zt_1; omega) ?_
          refine w_ic dX9_isWord_21 zi_0 ?_
          refine w_en dX9_isWord_22 rfl ?_
          show ZW _ _ _ _ _ _ _ (164, [some (.ref 386), some (.int u157_1), some (.int u157_2), o157_3], [.int 0], M)
          refine w_ieq_t dX9_operand_164 (t := 172) rfl (by have := zt_0; omega) ?_
          refine w_bi dX9_operand_172 (c := 16) (by decide) ?_
          refine w_lo (ml' := [some (.ref 386), some (.int u157_1), some (.int u157_2), some (.int 16)]) dX9_operand_174 rfl rfl rfl rfl ?_
          obtain ⟨m, hm, hI⟩ := hb
          exact (ih m hm).2.2.2.2.2.2.1 M u157_1 u157_2 16 hJ (by have := zt_16; omega) (by have := zt_16; omega) hI
        · skip
          replace hb : zHd _ := hb.2 h127
          refine w_cne_f dX9_isWord_5 (t := 21) rfl (by have := zt_1; omega) ?_
          refine w_lo dX9_isWord_8 rfl rfl rfl rfl ?_
          refine w_gfl dX9_isWord_9 rfl hJ.1 zs_386 (Nat.le_of_ble_eq_true rfl) zo_386_7 ?_
          intro y131 f128 h129 h130
          replace hb : zHd _ := hb y131.toInt (ziL f128)
          refine w_lo dX9_isWord_12 rfl rfl rfl rfl ?_
          refine w_lcm dX9_isWord_13 ?_
          intro x132 h133
          have := ztl_7170414
          replace hb : zHd _ := hb x132.toInt (by omega)
          rcases Int.decEq x132.toInt (0 : Int) with h134 | h134
          · skip
            replace hb : zHd _ := hb.1 h134
            refine w_ine_t dX9_isWord_14 (t := 21) rfl (by omega) ?_
            refine w_ic dX9_isWord_21 zi_0 ?_
            refine w_en dX9_isWord_22 rfl ?_
            show ZW _ _ _ _ _ _ _ (164, [some (.ref 386), some (.int u157_1), some (.int u157_2), o157_3], [.int 0], M)
            refine w_ieq_t dX9_operand_164 (t := 172) rfl (by have := zt_0; omega) ?_
            refine w_bi dX9_operand_172 (c := 16) (by decide) ?_
            refine w_lo (ml' := [some (.ref 386), some (.int u157_1), some (.int u157_2), some (.int 16)]) dX9_operand_174 rfl rfl rfl rfl ?_
            obtain ⟨m, hm, hI⟩ := hb
            exact (ih m hm).2.2.2.2.2.2.1 M u157_1 u157_2 16 hJ (by have := zt_16; omega) (by have := zt_16; omega) hI
          · skip
            replace hb : zHd _ := hb.2 h134
            refine w_ine_f dX9_isWord_14 (t := 21) rfl (by omega) ?_
            refine w_ic dX9_isWord_17 zi_1 ?_
            refine w_gt dX9_isWord_18 (t := 22) rfl ?_
            refine w_en dX9_isWord_22 rfl ?_
            show ZW _ _ _ _ _ _ _ (164, [some (.ref 386), some (.int u157_1), some (.int u157_2), o157_3], [.int 1], M)
            refine w_ieq_f dX9_operand_164 (t := 172) rfl (by have := zt_1; omega) ?_
            refine w_bi dX9_operand_167 (c := 15) (by decide) ?_
            refine w_gt dX9_operand_169 (t := 174) rfl ?_
            refine w_lo (ml' := [some (.ref 386), some (.int u157_1), some (.int u157_2), some (.int 15)]) dX9_operand_174 rfl rfl rfl rfl ?_
            obtain ⟨m, hm, hI⟩ := hb
            exact (ih m hm).2.2.2.2.2.2.1 M u157_1 u157_2 15 hJ (by have := zt_15; omega) (by have := zt_15; omega) hI
      · intro M u175_1 u175_2 v175_3 hJ v175_30 v175_31 hI
        have hb : zHd _ := hb175 n (zi M) v175_3.toInt (zi_fr hJ.2) v175_30 v175_31 hI
        refine w_lo dX9_operand_175 rfl rfl rfl rfl ?_
        refine w_iv dX9_operand_176 rfl rfl (As := []) rfl rfl hJ.1.1 zs_386 (Nat.le_of_ble_eq_true rfl) ?_
        obtain ⟨P137, hp138, hb⟩ := hb
        replace hb : zHd _ := hb
        refine ZV.imp (u_2310 hN hJ.1 hp138) ?_
        rintro _ ⟨M135, rfl, hJ136, hq139⟩
        replace hb : zHd _ := hb  (zi M135) (zi_fr hJ136.2) hq139
        have hJ141 := zJ_trans hJ hJ136 (zSub_cons (fun _ _ h h' hk => zIR_s (zIR_e (by omega) (by omega) hk)) (zSub_cons (fun _ _ h h' hk => zIR_s (zIR_s (zIR_s (zIR_e (by omega) (by omega) hk)))) (zSub_cons (fun _ _ h h' hk => zIR_s (zIR_s (zIR_s (zIR_s (zIR_s (zIR_s (zIR_s (zIR_e (by omega) (by omega) hk)))))))) (zSub_cons (fun _ _ h h' hk => zIR_s (zIR_s (zIR_s (zIR_s (zIR_s (zIR_s (zIR_s (zIR_s (zIR_e (by omega) (by omega) hk))))))))) (zSub_cons (fun _ _ h h' hk => zIR_s (zIR_s (zIR_s (zIR_s (zIR_s (zIR_s (zIR_s (zIR_s (zIR_s (zIR_e (by omega) (by omega) hk)))))))))) (zSub_cons (fun _ _ h h' hk => zIR_s (zIR_s (zIR_s (zIR_s (zIR_s (zIR_s (zIR_s (zIR_s (zIR_s (zIR_s (zIR_e (by omega) (by omega) hk))))))))))) (zSub_cons (fun _ _ h h' hk => zIR_s (zIR_s (zIR_s (zIR_s (zIR_s (zIR_s (zIR_s (zIR_s (zIR_s (zIR_s (zIR_s (zIR_e (by omega) (by omega) hk)))))))))))) zSub_nil)))))))
        show ZW _ _ _ _ _ _ _ (179, [some (.ref 386), some (.int u175_1), some (.int u175_2), some (.int v175_3)], [], M135)
        refine w_lo dX9_operand_179 rfl rfl rfl rfl ?_
        refine w_bi dX9_operand_180 (c := 40) (by decide) ?_
        refine w_iv dX9_operand_182 rfl rfl (As := [.int 40]) rfl rfl hJ141.1.1 zs_386 (Nat.le_of_ble_eq_true rfl) ?_
        refine ZV.of (ini := false) rfl (Nat.le_of_ble_eq_true rfl) (by decide +kernel) ?_
        show ZW _ _ _ _ _ _ _ (0, [some (.ref 386), some (.int 40)], [], M135)
        refine w_lo dX9_isSign_0 rfl rfl rfl rfl ?_
        refine w_gfi dX9_isSign_1 rfl hJ141.1 zs_386 (Nat.le_of_ble_eq_true rfl) zo_386_3 ?_
        intro x142 f143 h144 h145
        replace hb : zHd _ := hb x142.toInt (ziE f143) h144 h145
        refine w_ic dX9_isSign_4 zi_3 ?_
        rcases Int.decEq x142.toInt (3 : Int) with h146 | h146
        · skip
          replace hb : zHd _ := hb.1 h146
          refine w_cne_t dX9_isSign_5 (t := 20) rfl (by have := zt_3; omega) ?_
          refine w_ic dX9_isSign_20 zi_0 ?_
          refine w_en dX9_isSign_21 rfl ?_
          show ZW _ _ _ _ _ _ _ (185, [some (.ref 386), some (.int u175_1), some (.int u175_2), some (.int v175_3)], [.int 0], M135)
          refine w_ine_f dX9_operand_185 (t := 197) rfl (by have := zt_0; omega) ?_
          refine w_lo dX9_operand_188 rfl rfl rfl rfl ?_
          refine w_ic dX9_operand_189 zi_1 ?_
          refine w_lo dX9_operand_190 rfl rfl rfl rfl ?_
          refine w_gfi dX9_operand_191 rfl hJ141.1 zs_386 (Nat.le_of_ble_eq_true rfl) zo_386_4 ?_
          intro x147 f148 h149 h150
          replace hb : zHd _ := hb x147.toInt (ziE f148) h149 h150
          refine w_iv dX9_operand_194 rfl rfl (As := [.int 1, .int x147]) rfl rfl hJ141.1.1 zs_386 (Nat.le_of_ble_eq_true rfl) ?_
          refine ZV.of (ini := false) rfl (Nat.le_of_ble_eq_true rfl) (by decide +kernel) ?_
          show ZW _ _ _ _ _ _ _ (0, [some (.ref 386), some (.int 1), some (.int x147)], [], M135)
          refine w_lo dX9_blame_0 rfl rfl rfl rfl ?_
          refine w_gfi dX9_blame_1 rfl hJ141.1 zs_386 (Nat.le_of_ble_eq_true rfl) zo_386_8 ?_
          intro x151 f152 h153 h154
          replace hb : zHd _ := hb x151.toInt (ziE f152) h153 h154
          rcases zcut (0 : Int) x151.toInt with h155 | h155
          · skip
            replace hb : zHd _ := hb.1 h155
            refine w_ile_f dX9_blame_4 (t := 8) rfl (by omega) ?_
            refine w_en dX9_blame_7 rfl ?_
            show ZW _ _ _ _ _ _ _ (197, [some (.ref 386), some (.int u175_1), some (.int u175_2), some (.int v175_3)], [], M135)
            obtain ⟨m, hm, hI⟩ := hb
            exact (ih m hm).2.2.2.2.2.2.2.1 M135 u175_1 u175_2 v175_3 hJ141 (by omega) (by omega) hI
          · skip
            replace hb : zHd _ := hb.2 h155
            refine w_ile_t dX9_blame_4 (t := 8) rfl (by omega) ?_
            refine w_lo dX9_blame_8 rfl rfl rfl rfl ?_
            refine w_lo dX9_blame_9 rfl rfl rfl rfl ?_
            refine w_pfi dX9_blame_10 rfl hJ141 zs_386 (Nat.le_of_ble_eq_true rfl) zo_386_8 (by have := zt_1; omega) (by have := zt_1; omega) (zIR_s (zIR_s (zIR_s (zIR_s (zIR_s (zIR_s (zIR_s (zIR_s (zIR_s (zIR_s (zIR_k (by omega) (by omega)))))))))))) rfl rfl rfl ?_
            intro M156 hJ157 f158 hn159
            replace hb : zHd _ := hb (zi M156) (zi_zup hn159 f158 rfl zt_1)
            refine w_lo dX9_blame_13 rfl rfl rfl rfl ?_
            refine w_lo dX9_blame_14 rfl rfl rfl rfl ?_
            refine w_pfi dX9_blame_15 rfl hJ157 zs_386 (Nat.le_of_ble_eq_true rfl) zo_386_9 (by omega) (by omega) (zIR_s (zIR_s (zIR_s (zIR_s (zIR_s (zIR_s (zIR_s (zIR_s (zIR_s (zIR_s (zIR_s (zIR_k (by omega) (by omega))))))))))))) rfl rfl rfl ?_
            intro M161 hJ162 f163 hn164
            replace hb : zHd _ := hb (zi M161) (zi_zup hn164 f163 rfl rfl)
            refine w_en dX9_blame_18 rfl ?_
            show ZW _ _ _ _ _ _ _ (197, [some (.ref 386), some (.int u175_1), some (.int u175_2), some (.int v175_3)], [], M161)
            obtain ⟨m, hm, hI⟩ := hb
            exact (ih m hm).2.2.2.2.2.2.2.1 M161 u175_1 u175_2 v175_3 hJ162 (by omega) (by omega) hI
        · skip
          replace hb : zHd _ := hb.2 h146
          refine w_cne_f dX9_isSign_5 (t := 20) rfl (by have := zt_3; omega) ?_
          refine w_lo dX9_isSign_8 rfl rfl rfl rfl ?_
          refine w_gfi dX9_isSign_9 rfl hJ141.1 zs_386 (Nat.le_of_ble_eq_true rfl) zo_386_6 ?_
          intro x166 f167 h168 h169
          replace hb : zHd _ := hb x166.toInt (ziE f167)
          refine w_lo dX9_isSign_12 rfl rfl rfl rfl ?_
          rcases Int.decEq x166.toInt (40 : Int) with h170 | h170
          · skip
            replace hb : zHd _ := hb.1 h170
            refine w_cne_t dX9_isSign_13 (t := 20) rfl (by have := zt_40; omega) ?_
            refine w_ic dX9_isSign_20 zi_0 ?_
            refine w_en dX9_isSign_21 rfl ?_
            show ZW _ _ _ _ _ _ _ (185, [some (.ref 386), some (.int u175_1), some (.int u175_2), some (.int v175_3)], [.int 0], M135)
            refine w_ine_f dX9_operand_185 (t := 197) rfl (by have := zt_0; omega) ?_
            refine w_lo dX9_operand_188 rfl rfl rfl rfl ?_
            refine w_ic dX9_operand_189 zi_1 ?_
            refine w_lo dX9_operand_190 rfl rfl rfl rfl ?_
            refine w_gfi dX9_operand_191 rfl hJ141.1 zs_386 (Nat.le_of_ble_eq_true rfl) zo_386_4 ?_
            intro x171 f172 h173 h174
            replace hb : zHd _ := hb x171.toInt (ziE f172) h173 h174
            refine w_iv dX9_operand_194 rfl rfl (As := [.int 1, .int x171]) rfl rfl hJ141.1.1 zs_386 (Nat.le_of_ble_eq_true rfl) ?_
            refine ZV.of (ini := false) rfl (Nat.le_of_ble_eq_true rfl) (by decide +kernel) ?_
            show ZW _ _ _ _ _ _ _ (0, [some (.ref 386), some (.int 1), some (.int x171)], [], M135)
            refine w_lo dX9_blame_0 rfl rfl rfl rfl ?_
            refine w_gfi dX9_blame_1 rfl hJ141.1 zs_386 (Nat.le_of_ble_eq_true rfl) zo_386_8 ?_
            intro x175 f176 h177 h178
            replace hb : zHd _ := hb x175.toInt (ziE f176) h177 h178
            rcases zcut (0 : Int) x175.toInt with h179 | h179
            · skip
              replace hb : zHd _ := hb.1 h179
              refine w_ile_f dX9_blame_4 (t := 8) rfl (by omega) ?_
              refine w_en dX9_blame_7 rfl ?_
              show ZW _ _ _ _ _ _ _ (197, [some (.ref 386), some (.int u175_1), some (.int u175_2), some (.int v175_3)], [], M135)
              obtain ⟨m, hm, hI⟩ := hb
              exact (ih m hm).2.2.2.2.2.2.2.1 M135 u175_1 u175_2 v175_3 hJ141 (by omega) (by omega) hI
            · skip
              replace hb : zHd _ := hb.2 h179
              refine w_ile_t dX9_blame_4 (t := 8) rfl (by omega) ?_
              refine w_lo dX9_blame_8 rfl rfl rfl rfl ?_
              refine w_lo dX9_blame_9 rfl rfl rfl rfl ?_
              refine w_pfi dX9_blame_10 rfl hJ141 zs_386 (Nat.le_of_ble_eq_true rfl) zo_386_8 (by have := zt_1; omega) (by have := zt_1; omega) (zIR_s (zIR_s (zIR_s (zIR_s (zIR_s (zIR_s (zIR_s (zIR_s (zIR_s (zIR_s (zIR_k (by omega) (by omega)))))))))))) rfl rfl rfl ?_
              intro M180 hJ181 f182 hn183
              replace hb : zHd _ := hb (zi M180) (zi_zup hn183 f182 rfl zt_1)
              refine w_lo dX9_blame_13 rfl rfl rfl rfl ?_
              refine w_lo dX9_blame_14 rfl rfl rfl rfl ?_
              refine w_pfi dX9_blame_15 rfl hJ181 zs_386 (Nat.le_of_ble_eq_true rfl) zo_386_9 (by omega) (by omega) (zIR_s (zIR_s (zIR_s (zIR_s (zIR_s (zIR_s (zIR_s (zIR_s (zIR_s (zIR_s (zIR_s (zIR_k (by omega) (by omega))))))))))))) rfl rfl rfl ?_
              intro M185 hJ186 f187 hn188
              replace hb : zHd _ := hb (zi M185) (zi_zup hn188 f187 rfl rfl)
              refine w_en dX9_blame_18 rfl ?_
              show ZW _ _ _ _ _ _ _ (197, [some (.ref 386), some (.int u175_1), some (.int u175_2), some (.int v175_3)], [], M185)
              obtain ⟨m, hm, hI⟩ := hb
              exact (ih m hm).2.2.2.2.2.2.2.1 M185 u175_1 u175_2 v175_3 hJ186 (by omega) (by omega) hI
          · skip
            replace hb : zHd _ := hb.2 h170
            refine w_cne_f dX9_isSign_13 (t := 20) rfl (by have := zt_40; omega) ?_
            refine w_ic dX9_isSign_16 zi_1 ?_
            refine w_gt dX9_isSign_17 (t := 21) rfl ?_
            refine w_en dX9_isSign_21 rfl ?_
            show ZW _ _ _ _ _ _ _ (185, [some (.ref 386), some (.int u175_1), some (.int u175_2), some (.int v175_3)], [.int 1], M135)
            refine w_ine_t dX9_operand_185 (t := 197) rfl (by have := zt_1; omega) ?_
            obtain ⟨m, hm, hI⟩ := hb
            exact (ih m hm).2.2.2.2.2.2.2.1 M135 u175_1 u175_2 v175_3 hJ141 (by omega) (by omega) hI
      · intro M u197_1 u197_2 v197_3 hJ v197_30 v197_31 hI
        have hb : zHd _ := hb197 n (zi M) v197_3.toInt (zi_fr hJ.2) v197_30 v197_31 hI
        refine w_lo dX9_operand_197 rfl rfl rfl rfl ?_
        refine w_ic dX9_operand_198 zi_3 ?_
        refine w_iv dX9_operand_199 rfl rfl (As := [.int 3]) rfl rfl hJ.1.1 zs_386 (Nat.le_of_ble_eq_true rfl) ?_
        obtain ⟨P192, hp193, hb⟩ := hb
        replace hb : zHd _ := hb
        have hp193c : b_2334 (zi M) (3 : Int32).toInt P192 := by rw [zt_3]; exact hp193
        refine ZV.imp (u_2334 3 hN hJ.1 hp193c) ?_
        rintro _ ⟨M190, rfl, hJ191, hq194⟩
        replace hb : zHd _ := hb  (zi M190) (zi_fr hJ191.2) hq194
        have hJ196 := zJ_trans hJ hJ191 (zSub_cons (fun _ _ h h' hk => zIR_a (by omega) (by omega)) (zSub_cons (fun _ _ h h' hk => zIR_a (by omega) (by omega)) (zSub_cons (fun _ _ h h' hk => zIR_s (zIR_e (by omega) (by omega) hk)) (zSub_cons (fun _ _ h h' hk => zIR_s (zIR_s (zIR_s (zIR_e (by omega) (by omega) hk)))) (zSub_cons (fun _ _ h h' hk => zIR_s (zIR_s (zIR_s (zIR_s (zIR_e (by omega) (by omega) hk))))) (zSub_cons (fun _ _ h h' hk => zIR_s (zIR_s (zIR_s (zIR_s (zIR_s (zIR_e (by omega) (by omega) hk)))))) (zSub_cons (fun _ _ h h' hk => zIR_s (zIR_s (zIR_s (zIR_s (zIR_s (zIR_s (zIR_s (zIR_e (by omega) (by omega) hk)))))))) (zSub_cons (fun _ _ h h' hk => zIR_s (zIR_s (zIR_s (zIR_s (zIR_s (zIR_s (zIR_s (zIR_s (zIR_e (by omega) (by omega) hk))))))))) (zSub_cons (fun _ _ h h' hk => zIR_s (zIR_s (zIR_s (zIR_s (zIR_s (zIR_s (zIR_s (zIR_s (zIR_s (zIR_e (by omega) (by omega) hk)))))))))) (zSub_cons (fun _ _ h h' hk => zIR_s (zIR_s (zIR_s (zIR_s (zIR_s (zIR_s (zIR_s (zIR_s (zIR_s (zIR_s (zIR_e (by omega) (by omega) hk))))))))))) (zSub_cons (fun _ _ h h' hk => zIR_s (zIR_s (zIR_s (zIR_s (zIR_s (zIR_s (zIR_s (zIR_s (zIR_s (zIR_s (zIR_s (zIR_e (by omega) (by omega) hk)))))))))))) zSub_nil)))))))))))
        show ZW _ _ _ _ _ _ _ (202, [some (.ref 386), some (.int u197_1), some (.int u197_2), some (.int v197_3)], [], M190)
        refine w_lo dX9_operand_202 rfl rfl rfl rfl ?_
        refine w_gfi dX9_operand_203 rfl hJ196.1 zs_386 (Nat.le_of_ble_eq_true rfl) zo_386_8 ?_
        intro x197 f198 h199 h200
        replace hb : zHd _ := hb x197.toInt (ziE f198) h199 h200
        rcases Int.decEq x197.toInt (0 : Int) with h201 | h201
        · skip
          replace hb : zHd _ := hb.1 h201
          refine w_ine_t dX9_operand_206 (t := 221) rfl (by omega) ?_
          refine w_ic dX9_operand_221 zi_0 ?_
          refine w_en dX9_operand_222 rfl ?_
          exact ⟨_, _, rfl, (by have := zt_0; omega), (by have := zt_0; omega), hJ196, hb⟩
        · skip
          replace hb : zHd _ := hb.2 h201
          refine w_ine_f dX9_operand_206 (t := 221) rfl (by omega) ?_
          refine w_lo dX9_operand_209 rfl rfl rfl rfl ?_
          refine w_gf dX9_operand_210 rfl hJ196.1.1 zs_386 (zr_386_39 hJ196.1) ?_
          refine w_lo dX9_operand_213 rfl rfl rfl rfl ?_
          refine w_gfi dX9_operand_214 rfl hJ196.1 zs_386 (Nat.le_of_ble_eq_true rfl) zo_386_41 ?_
          intro x202 f203 h204 h205
          replace hb : zHd _ := hb x202.toInt (ziE f203) h204 h205
          refine w_ic dX9_operand_217 zi_1 ?_
          refine w_sub dX9_operand_218 (by have := zt_1; omega) ?_
          intro x206 h207
          have := zt_1
          replace hb : zHd _ := hb x206.toInt (by have := zt_1; omega)
          refine w_lo dX9_operand_219 rfl rfl rfl rfl ?_
          have h208 := hb.1
          replace hb : zHd _ := hb.2
          refine w_isi dX9_operand_220 hJ196 zs_412 (by omega) (by omega) zu_412 (by omega) (by omega) (zIR_a (by omega) (by omega)) ?_
          intro M209 hJ210 f211 hn212
          replace hb : zHd _ := hb (zi M209) (zi_zup hn212 f211 rfl rfl)
          refine w_ic dX9_operand_221 zi_0 ?_
          refine w_en dX9_operand_222 rfl ?_
          exact ⟨_, _, rfl, (by have := zt_0; omega), (by have := zt_0; omega), hJ210, hb⟩
      · intro M u223_1 u223_2 o223_3 hJ hI
        have hb : zHd _ := hb223 n (zi M)  (zi_fr hJ.2)  hI
        refine w_lo dX9_operand_223 rfl rfl rfl rfl ?_
        refine w_gfi dX9_operand_224 rfl hJ.1 zs_386 (Nat.le_of_ble_eq_true rfl) zo_386_3 ?_
        intro x214 f215 h216 h217
        replace hb : zHd _ := hb x214.toInt (ziE f215) h216 h217
        refine w_ic dX9_operand_227 zi_2 ?_
        rcases Int.decEq x214.toInt (2 : Int) with h218 | h218
        · skip
          replace hb : zHd _ := hb.1 h218
          refine w_cne_t dX9_operand_228 (t := 235) rfl (by have := zt_2; omega) ?_
          refine w_lo dX9_operand_235 rfl rfl rfl rfl ?_
          refine w_me (st' := [.long (439956431717 : Int64), .ref 386]) dX9_operand_236 rfl rfl rfl rfl rfl ?_
          refine w_iv dX9_operand_239 rfl rfl (As := [.long (439956431717 : Int64)]) rfl rfl hJ.1.1 zs_386 (Nat.le_of_ble_eq_true rfl) ?_
          refine ZV.of (ini := false) rfl (Nat.le_of_ble_eq_true rfl) (by decide +kernel) ?_
          show ZW _ _ _ _ _ _ _ (0, [some (.ref 386), some (.long (439956431717 : Int64)), none], [], M)
          refine w_lo dX9_isWord_0 rfl rfl rfl rfl ?_
          refine w_gf dX9_isWord_1 rfl hJ.1.1 zs_386 f215 ?_
          refine w_ic dX9_isWord_4 zi_1 ?_
          rcases Int.decEq x214.toInt (1 : Int) with h219 | h219
          · skip
            replace hb : zHd _ := hb.1 h219
            refine w_cne_t dX9_isWord_5 (t := 21) rfl (by have := zt_1; omega) ?_
            refine w_ic dX9_isWord_21 zi_0 ?_
            refine w_en dX9_isWord_22 rfl ?_
            show ZW _ _ _ _ _ _ _ (242, [some (.ref 386), some (.int u223_1), some (.int u223_2), o223_3], [.int 0], M)
            refine w_ieq_t dX9_operand_242 (t := 249) rfl (by have := zt_0; omega) ?_
            refine w_lo dX9_operand_249 rfl rfl rfl rfl ?_
            refine w_me (st' := [.long (131277443786868 : Int64), .ref 386]) dX9_operand_250 rfl rfl rfl rfl rfl ?_
            refine w_iv dX9_operand_253 rfl rfl (As := [.long (131277443786868 : Int64)]) rfl rfl hJ.1.1 zs_386 (Nat.le_of_ble_eq_true rfl) ?_
            refine ZV.of (ini := false) rfl (Nat.le_of_ble_eq_true rfl) (by decide +kernel) ?_
            show ZW _ _ _ _ _ _ _ (0, [some (.ref 386), some (.long (131277443786868 : Int64)), none], [], M)
            refine w_lo dX9_isWord_0 rfl rfl rfl rfl ?_
            refine w_gf dX9_isWord_1 rfl hJ.1.1 zs_386 f215 ?_
            refine w_ic dX9_isWord_4 zi_1 ?_
            rcases Int.decEq x214.toInt (1 : Int) with h220 | h220
            · skip
              replace hb : zHd _ := hb.1 h220
              refine w_cne_t dX9_isWord_5 (t := 21) rfl (by have := zt_1; omega) ?_
              refine w_ic dX9_isWord_21 zi_0 ?_
              refine w_en dX9_isWord_22 rfl ?_
              show ZW _ _ _ _ _ _ _ (256, [some (.ref 386), some (.int u223_1), some (.int u223_2), o223_3], [.int 0], M)
              refine w_ieq_t dX9_operand_256 (t := 263) rfl (by have := zt_0; omega) ?_
              refine w_lo dX9_operand_263 rfl rfl rfl rfl ?_
              refine w_me (st' := [.long (431198598248 : Int64), .ref 386]) dX9_operand_264 rfl rfl rfl rfl rfl ?_
              refine w_iv dX9_operand_267 rfl rfl (As := [.long (431198598248 : Int64)]) rfl rfl hJ.1.1 zs_386 (Nat.le_of_ble_eq_true rfl) ?_
              refine ZV.of (ini := false) rfl (Nat.le_of_ble_eq_true rfl) (by decide +kernel) ?_
              show ZW _ _ _ _ _ _ _ (0, [some (.ref 386), some (.long (431198598248 : Int64)), none], [], M)
              refine w_lo dX9_isWord_0 rfl rfl rfl rfl ?_
              refine w_gf dX9_isWord_1 rfl hJ.1.1 zs_386 f215 ?_
              refine w_ic dX9_isWord_4 zi_1 ?_
              rcases Int.decEq x214.toInt (1 : Int) with h221 | h221
              · skip
                replace hb : zHd _ := hb.1 h221
                refine w_cne_t dX9_isWord_5 (t := 21) rfl (by have := zt_1; omega) ?_
                refine w_ic dX9_isWord_21 zi_0 ?_
                refine w_en dX9_isWord_22 rfl ?_
                show ZW _ _ _ _ _ _ _ (270, [some (.ref 386), some (.int u223_1), some (.int u223_2), o223_3], [.int 0], M)
                refine w_ieq_t dX9_operand_270 (t := 277) rfl (by have := zt_0; omega) ?_
                refine w_lo dX9_operand_277 rfl rfl rfl rfl ?_
                refine w_me (st' := [.long (482854658917 : Int64), .ref 386]) dX9_operand_278 rfl rfl rfl rfl rfl ?_
                refine w_iv dX9_operand_281 rfl rfl (As := [.long (482854658917 : Int64)]) rfl rfl hJ.1.1 zs_386 (Nat.le_of_ble_eq_true rfl) ?_
                refine ZV.of (ini := false) rfl (Nat.le_of_ble_eq_true rfl) (by decide +kernel) ?_
                show ZW _ _ _ _ _ _ _ (0, [some (.ref 386), some (.long (482854658917 : Int64)), none], [], M)
                refine w_lo dX9_isWord_0 rfl rfl rfl rfl ?_
                refine w_gf dX9_isWord_1 rfl hJ.1.1 zs_386 f215 ?_
                refine w_ic dX9_isWord_4 zi_1 ?_
                rcases Int.decEq x214.toInt (1 : Int) with h222 | h222
                · skip
                  replace hb : zHd _ := hb.1 h222
                  refine w_cne_t dX9_isWord_5 (t := 21) rfl (by have := zt_1; omega) ?_
                  refine w_ic dX9_isWord_21 zi_0 ?_
                  refine w_en dX9_isWord_22 rfl ?_
                  show ZW _ _ _ _ _ _ _ (284, [some (.ref 386), some (.int u223_1), some (.int u223_2), o223_3], [.int 0], M)
                  refine w_ieq_t dX9_operand_284 (t := 291) rfl (by have := zt_0; omega) ?_
                  refine w_lo dX9_operand_291 rfl rfl rfl rfl ?_
                  refine w_me (st' := [.long (120299592184933 : Int64), .ref 386]) dX9_operand_292 rfl rfl rfl rfl rfl ?_
                  refine w_iv dX9_operand_295 rfl rfl (As := [.long (120299592184933 : Int64)]) rfl rfl hJ.1.1 zs_386 (Nat.le_of_ble_eq_true rfl) ?_
                  refine ZV.of (ini := false) rfl (Nat.le_of_ble_eq_true rfl) (by decide +kernel) ?_
                  show ZW _ _ _ _ _ _ _ (0, [some (.ref 386), some (.long (120299592184933 : Int64)), none], [], M)
                  refine w_lo dX9_isWord_0 rfl rfl rfl rfl ?_
                  refine w_gf dX9_isWord_1 rfl hJ.1.1 zs_386 f215 ?_
                  refine w_ic dX9_isWord_4 zi_1 ?_
                  rcases Int.decEq x214.toInt (1 : Int) with h223 | h223
                  · skip
                    replace hb : zHd _ := hb.1 h223
                    refine w_cne_t dX9_isWord_5 (t := 21) rfl (by have := zt_1; omega) ?_
                    refine w_ic dX9_isWord_21 zi_0 ?_
                    refine w_en dX9_isWord_22 rfl ?_
                    show ZW _ _ _ _ _ _ _ (298, [some (.ref 386), some (.int u223_1), some (.int u223_2), o223_3], [.int 0], M)
                    refine w_ieq_t dX9_operand_298 (t := 305) rfl (by have := zt_0; omega) ?_
                    refine w_lo dX9_operand_305 rfl rfl rfl rfl ?_
                    refine w_me (st' := [.long (108187867505765 : Int64), .ref 386]) dX9_operand_306 rfl rfl rfl rfl rfl ?_
                    refine w_iv dX9_operand_309 rfl rfl (As := [.long (108187867505765 : Int64)]) rfl rfl hJ.1.1 zs_386 (Nat.le_of_ble_eq_true rfl) ?_
                    refine ZV.of (ini := false) rfl (Nat.le_of_ble_eq_true rfl) (by decide +kernel) ?_
                    show ZW _ _ _ _ _ _ _ (0, [some (.ref 386), some (.long (108187867505765 : Int64)), none], [], M)
                    refine w_lo dX9_isWord_0 rfl rfl rfl rfl ?_
                    refine w_gf dX9_isWord_1 rfl hJ.1.1 zs_386 f215 ?_
                    refine w_ic dX9_isWord_4 zi_1 ?_
                    rcases Int.decEq x214.toInt (1 : Int) with h224 | h224
                    · skip
                      replace hb : zHd _ := hb.1 h224
                      refine w_cne_t dX9_isWord_5 (t := 21) rfl (by have := zt_1; omega) ?_
                      refine w_ic dX9_isWord_21 zi_0 ?_
                      refine w_en dX9_isWord_22 rfl ?_
                      show ZW _ _ _ _ _ _ _ (312, [some (.ref 386), some (.int u223_1), some (.int u223_2), o223_3], [.int 0], M)
                      refine w_ieq_t dX9_operand_312 (t := 320) rfl (by have := zt_0; omega) ?_
                      refine w_lo dX9_operand_320 rfl rfl rfl rfl ?_
                      refine w_me (st' := [.long (1717922932 : Int64), .ref 386]) dX9_operand_321 rfl rfl rfl rfl rfl ?_
                      refine w_iv dX9_operand_324 rfl rfl (As := [.long (1717922932 : Int64)]) rfl rfl hJ.1.1 zs_386 (Nat.le_of_ble_eq_true rfl) ?_
                      refine ZV.of (ini := false) rfl (Nat.le_of_ble_eq_true rfl) (by decide +kernel) ?_
                      show ZW _ _ _ _ _ _ _ (0, [some (.ref 386), some (.long (1717922932 : Int64)), none], [], M)
                      refine w_lo dX9_isWord_0 rfl rfl rfl rfl ?_
                      refine w_gf dX9_isWord_1 rfl hJ.1.1 zs_386 f215 ?_
                      refine w_ic dX9_isWord_4 zi_1 ?_
                      rcases Int.decEq x214.toInt (1 : Int) with h225 | h225
                      · skip
                        replace hb : zHd _ := hb.1 h225
                        refine w_cne_t dX9_isWord_5 (t := 21) rfl (by have := zt_1; omega) ?_
                        refine w_ic dX9_isWord_21 zi_0 ?_
                        refine w_en dX9_isWord_22 rfl ?_
                        show ZW _ _ _ _ _ _ _ (327, [some (.ref 386), some (.int u223_1), some (.int u223_2), o223_3], [.int 0], M)
                        refine w_ieq_t dX9_operand_327 (t := 335) rfl (by have := zt_0; omega) ?_
                        refine w_ic dX9_operand_335 zi_m1 ?_
                        refine w_lo (ml' := [some (.ref 386), some (.int u223_1), some (.int u223_2), some (.int (-1))]) dX9_operand_336 rfl rfl rfl rfl ?_
                        obtain ⟨m, hm, hI⟩ := hb
                        exact (ih m hm).2.2.2.2.2.2.2.2.2 M u223_1 u223_2 (-1) hJ (by have := zt_m1; omega) (by have := zt_m1; omega) hI
                      · skip
                        replace hb : zHd _ := hb.2 h225
                        refine w_cne_f dX9_isWord_5 (t := 21) rfl (by have := zt_1; omega) ?_
                        refine w_lo dX9_isWord_8 rfl rfl rfl rfl ?_
                        refine w_gfl dX9_isWord_9 rfl hJ.1 zs_386 (Nat.le_of_ble_eq_true rfl) zo_386_7 ?_
                        intro y229 f226 h227 h228
                        replace hb : zHd _ := hb y229.toInt (ziL f226)
                        refine w_lo dX9_isWord_12 rfl rfl rfl rfl ?_
                        refine w_lcm dX9_isWord_13 ?_
                        intro x230 h231
                        have := ztl_1717922932
                        replace hb : zHd _ := hb x230.toInt (by omega)
                        rcases Int.decEq x230.toInt (0 : Int) with h232 | h232
                        · skip
                          replace hb : zHd _ := hb.1 h232
                          refine w_ine_t dX9_isWord_14 (t := 21) rfl (by omega) ?_
                          refine w_ic dX9_isWord_21 zi_0 ?_
                          refine w_en dX9_isWord_22 rfl ?_
                          show ZW _ _ _ _ _ _ _ (327, [some (.ref 386), some (.int u223_1), some (.int u223_2), o223_3], [.int 0], M)
                          refine w_ieq_t dX9_operand_327 (t := 335) rfl (by have := zt_0; omega) ?_
                          refine w_ic dX9_operand_335 zi_m1 ?_
                          refine w_lo (ml' := [some (.ref 386), some (.int u223_1), some (.int u223_2), some (.int (-1))]) dX9_operand_336 rfl rfl rfl rfl ?_
                          obtain ⟨m, hm, hI⟩ := hb
                          exact (ih m hm).2.2.2.2.2.2.2.2.2 M u223_1 u223_2 (-1) hJ (by have := zt_m1; omega) (by have := zt_m1; omega) hI
                        · skip
                          replace hb : zHd _ := hb.2 h232
                          refine w_ine_f dX9_isWord_14 (t := 21) rfl (by omega) ?_
                          refine w_ic dX9_isWord_17 zi_1 ?_
                          refine w_gt dX9_isWord_18 (t := 22) rfl ?_
                          refine w_en dX9_isWord_22 rfl ?_
                          show ZW _ _ _ _ _ _ _ (327, [some (.ref 386), some (.int u223_1), some (.int u223_2), o223_3], [.int 1], M)
                          refine w_ieq_f dX9_operand_327 (t := 335) rfl (by have := zt_1; omega) ?_
                          refine w_bi dX9_operand_330 (c := 7) (by decide) ?_
                          refine w_gt dX9_operand_332 (t := 336) rfl ?_
                          refine w_lo (ml' := [some (.ref 386), some (.int u223_1), some (.int u223_2), some (.int 7)]) dX9_operand_336 rfl rfl rfl rfl ?_
                          obtain ⟨m, hm, hI⟩ := hb
                          exact (ih m hm).2.2.2.2.2.2.2.2.2 M u223_1 u223_2 7 hJ (by have := zt_7; omega) (by have := zt_7; omega) hI
                    · skip
                      replace hb : zHd _ := hb.2 h224
                      refine w_cne_f dX9_isWord_5 (t := 21) rfl (by have := zt_1; omega) ?_
                      refine w_lo dX9_isWord_8 rfl rfl rfl rfl ?_
                      refine w_gfl dX9_isWord_9 rfl hJ.1 zs_386 (Nat.le_of_ble_eq_true rfl) zo_386_7 ?_
                      intro y236 f233 h234 h235
                      replace hb : zHd _ := hb y236.toInt (ziL f233)
                      refine w_lo dX9_isWord_12 rfl rfl rfl rfl ?_
                      refine w_lcm dX9_isWord_13 ?_
                      intro x237 h238
                      have := ztl_108187867505765
                      replace hb : zHd _ := hb x237.toInt (by omega)
                      rcases Int.decEq x237.toInt (0 : Int) with h239 | h239
                      · skip
                        replace hb : zHd _ := hb.1 h239
                        refine w_ine_t dX9_isWord_14 (t := 21) rfl (by omega) ?_
                        refine w_ic dX9_isWord_21 zi_0 ?_
                        refine w_en dX9_isWord_22 rfl ?_
                        show ZW _ _ _ _ _ _ _ (312, [some (.ref 386), some (.int u223_1), some (.int u223_2), o223_3], [.int 0], M)
                        refine w_ieq_t dX9_operand_312 (t := 320) rfl (by have := zt_0; omega) ?_
                        refine w_lo dX9_operand_320 rfl rfl rfl rfl ?_
                        refine w_me (st' := [.long (1717922932 : Int64), .ref 386]) dX9_operand_321 rfl rfl rfl rfl rfl ?_
                        refine w_iv dX9_operand_324 rfl rfl (As := [.long (1717922932 : Int64)]) rfl rfl hJ.1.1 zs_386 (Nat.le_of_ble_eq_true rfl) ?_
                        refine ZV.of (ini := false) rfl (Nat.le_of_ble_eq_true rfl) (by decide +kernel) ?_
                        show ZW _ _ _ _ _ _ _ (0, [some (.ref 386), some (.long (1717922932 : Int64)), none], [], M)
                        refine w_lo dX9_isWord_0 rfl rfl rfl rfl ?_
                        refine w_gf dX9_isWord_1 rfl hJ.1.1 zs_386 f215 ?_
                        refine w_ic dX9_isWord_4 zi_1 ?_
                        refine w_cne_f dX9_isWord_5 (t := 21) rfl (by have := zt_1; omega) ?_
                        refine w_lo dX9_isWord_8 rfl rfl rfl rfl ?_
                        refine w_gf dX9_isWord_9 rfl hJ.1.1 zs_386 f233 ?_
                        refine w_lo dX9_isWord_12 rfl rfl rfl rfl ?_
                        refine w_lcm dX9_isWord_13 ?_
                        intro x240 h241
                        have := ztl_1717922932
                        replace hb : zHd _ := hb x240.toInt (by omega)
                        rcases Int.decEq x240.toInt (0 : Int) with h242 | h242
                        · skip
                          replace hb : zHd _ := hb.1 h242
                          refine w_ine_t dX9_isWord_14 (t := 21) rfl (by omega) ?_
                          refine w_ic dX9_isWord_21 zi_0 ?_
                          refine w_en dX9_isWord_22 rfl ?_
                          show ZW _ _ _ _ _ _ _ (327, [some (.ref 386), some (.int u223_1), some (.int u223_2), o223_3], [.int 0], M)
                          refine w_ieq_t dX9_operand_327 (t := 335) rfl (by have := zt_0; omega) ?_
                          refine w_ic dX9_operand_335 zi_m1 ?_
                          refine w_lo (ml' := [some (.ref 386), some (.int u223_1), some (.int u223_2), some (.int (-1))]) dX9_operand_336 rfl rfl rfl rfl ?_
                          obtain ⟨m, hm, hI⟩ := hb
                          exact (ih m hm).2.2.2.2.2.2.2.2.2 M u223_1 u223_2 (-1) hJ (by have := zt_m1; omega) (by have := zt_m1; omega) hI
                        · skip
                          replace hb : zHd _ := hb.2 h242
                          refine w_ine_f dX9_isWord_14 (t := 21) rfl (by omega) ?_
                          refine w_ic dX9_isWord_17 zi_1 ?_
                          refine w_gt dX9_isWord_18 (t := 22) rfl ?_
                          refine w_en dX9_isWord_22 rfl ?_
                          show ZW _ _ _ _ _ _ _ (327, [some (.ref 386), some (.int u223_1), some (.int u223_2), o223_3], [.int 1], M)
                          refine w_ieq_f dX9_operand_327 (t := 335) rfl (by have := zt_1; omega) ?_
                          refine w_bi dX9_operand_330 (c := 7) (by decide) ?_
                          refine w_gt dX9_operand_332 (t := 336) rfl ?_
                          refine w_lo (ml' := [some (.ref 386), some (.int u223_1), some (.int u223_2), some (.int 7)]) dX9_operand_336 rfl rfl rfl rfl ?_
                          obtain ⟨m, hm, hI⟩ := hb
                          exact (ih m hm).2.2.2.2.2.2.2.2.2 M u223_1 u223_2 7 hJ (by have := zt_7; omega) (by have := zt_7; omega) hI
                      · skip
                        replace hb : zHd _ := hb.2 h239
                        refine w_ine_f dX9_isWord_14 (t := 21) rfl (by omega) ?_
                        refine w_ic dX9_isWord_17 zi_1 ?_
                        refine w_gt dX9_isWord_18 (t := 22) rfl ?_
                        refine w_en dX9_isWord_22 rfl ?_
                        show ZW _ _ _ _ _ _ _ (312, [some (.ref 386), some (.int u223_1), some (.int u223_2), o223_3], [.int 1], M)
                        refine w_ieq_f dX9_operand_312 (t := 320) rfl (by have := zt_1; omega) ?_
                        refine w_bi dX9_operand_315 (c := 6) (by decide) ?_
                        refine w_gt dX9_operand_317 (t := 336) rfl ?_
                        refine w_lo (ml' := [some (.ref 386), some (.int u223_1), some (.int u223_2), some (.int 6)]) dX9_operand_336 rfl rfl rfl rfl ?_
                        obtain ⟨m, hm, hI⟩ := hb
                        exact (ih m hm).2.2.2.2.2.2.2.2.2 M u223_1 u223_2 6 hJ (by have := zt_6; omega) (by have := zt_6; omega) hI
                  · skip
                    replace hb : zHd _ := hb.2 h223
                    refine w_cne_f dX9_isWord_5 (t := 21) rfl (by have := zt_1; omega) ?_
                    refine w_lo dX9_isWord_8 rfl rfl rfl rfl ?_
                    refine w_gfl dX9_isWord_9 rfl hJ.1 zs_386 (Nat.le_of_ble_eq_true rfl) zo_386_7 ?_
                    intro y246 f243 h244 h245
                    replace hb : zHd _ := hb y246.toInt (ziL f243)
                    refine w_lo dX9_isWord_12 rfl rfl rfl rfl ?_
                    refine w_lcm dX9_isWord_13 ?_
                    intro x247 h248
                    have := ztl_120299592184933
                    replace hb : zHd _ := hb x247.toInt (by omega)
                    rcases Int.decEq x247.toInt (0 : Int) with h249 | h249
                    · skip
                      replace hb : zHd _ := hb.1 h249
                      refine w_ine_t dX9_isWord_14 (t := 21) rfl (by omega) ?_
                      refine w_ic dX9_isWord_21 zi_0 ?_
                      refine w_en dX9_isWord_22 rfl ?_
                      show ZW _ _ _ _ _ _ _ (298, [some (.ref 386), some (.int u223_1), some (.int u223_2), o223_3], [.int 0], M)
                      refine w_ieq_t dX9_operand_298 (t := 305) rfl (by have := zt_0; omega) ?_
                      refine w_lo dX9_operand_305 rfl rfl rfl rfl ?_
                      refine w_me (st' := [.long (108187867505765 : Int64), .ref 386]) dX9_operand_306 rfl rfl rfl rfl rfl ?_
                      refine w_iv dX9_operand_309 rfl rfl (As := [.long (108187867505765 : Int64)]) rfl rfl hJ.1.1 zs_386 (Nat.le_of_ble_eq_true rfl) ?_
                      refine ZV.of (ini := false) rfl (Nat.le_of_ble_eq_true rfl) (by decide +kernel) ?_
                      show ZW _ _ _ _ _ _ _ (0, [some (.ref 386), some (.long (108187867505765 : Int64)), none], [], M)
                      refine w_lo dX9_isWord_0 rfl rfl rfl rfl ?_
                      refine w_gf dX9_isWord_1 rfl hJ.1.1 zs_386 f215 ?_
                      refine w_ic dX9_isWord_4 zi_1 ?_
                      refine w_cne_f dX9_isWord_5 (t := 21) rfl (by have := zt_1; omega) ?_
                      refine w_lo dX9_isWord_8 rfl rfl rfl rfl ?_
                      refine w_gf dX9_isWord_9 rfl hJ.1.1 zs_386 f243 ?_
                      refine w_lo dX9_isWord_12 rfl rfl rfl rfl ?_
                      refine w_lcm dX9_isWord_13 ?_
                      intro x250 h251
                      have := ztl_108187867505765
                      replace hb : zHd _ := hb x250.toInt (by omega)
                      rcases Int.decEq x250.toInt (0 : Int) with h252 | h252
                      · skip
                        replace hb : zHd _ := hb.1 h252
                        refine w_ine_t dX9_isWord_14 (t := 21) rfl (by omega) ?_
                        refine w_ic dX9_isWord_21 zi_0 ?_
                        refine w_en dX9_isWord_22 rfl ?_
                        show ZW _ _ _ _ _ _ _ (312, [some (.ref 386), some (.int u223_1), some (.int u223_2), o223_3], [.int 0], M)
                        refine w_ieq_t dX9_operand_312 (t := 320) rfl (by have := zt_0; omega) ?_
                        refine w_lo dX9_operand_320 rfl rfl rfl rfl ?_
                        refine w_me (st' := [.long (1717922932 : Int64), .ref 386]) dX9_operand_321 rfl rfl rfl rfl rfl ?_
                        refine w_iv dX9_operand_324 rfl rfl (As := [.long (1717922932 : Int64)]) rfl rfl hJ.1.1 zs_386 (Nat.le_of_ble_eq_true rfl) ?_
                        refine ZV.of (ini := false) rfl (Nat.le_of_ble_eq_true rfl) (by decide +kernel) ?_
                        show ZW _ _ _ _ _ _ _ (0, [some (.ref 386), some (.long (1717922932 : Int64)), none], [], M)
                        refine w_lo dX9_isWord_0 rfl rfl rfl rfl ?_
                        refine w_gf dX9_isWord_1 rfl hJ.1.1 zs_386 f215 ?_
                        refine w_ic dX9_isWord_4 zi_1 ?_
                        refine w_cne_f dX9_isWord_5 (t := 21) rfl (by have := zt_1; omega) ?_
                        refine w_lo dX9_isWord_8 rfl rfl rfl rfl ?_
                        refine w_gf dX9_isWord_9 rfl hJ.1.1 zs_386 f243 ?_
                        refine w_lo dX9_isWord_12 rfl rfl rfl rfl ?_
                        refine w_lcm dX9_isWord_13 ?_
                        intro x253 h254
                        have := ztl_1717922932
                        replace hb : zHd _ := hb x253.toInt (by omega)
                        rcases Int.decEq x253.toInt (0 : Int) with h255 | h255
                        · skip
                          replace hb : zHd _ := hb.1 h255
                          refine w_ine_t dX9_isWord_14 (t := 21) rfl (by omega) ?_
                          refine w_ic dX9_isWord_21 zi_0 ?_
                          refine w_en dX9_isWord_22 rfl ?_
                          show ZW _ _ _ _ _ _ _ (327, [some (.ref 386), some (.int u223_1), some (.int u223_2), o223_3], [.int 0], M)
                          refine w_ieq_t dX9_operand_327 (t := 335) rfl (by have := zt_0; omega) ?_
                          refine w_ic dX9_operand_335 zi_m1 ?_
                          refine w_lo (ml' := [some (.ref 386), some (.int u223_1), some (.int u223_2), some (.int (-1))]) dX9_operand_336 rfl rfl rfl rfl ?_
                          obtain ⟨m, hm, hI⟩ := hb
                          exact (ih m hm).2.2.2.2.2.2.2.2.2 M u223_1 u223_2 (-1) hJ (by have := zt_m1; omega) (by have := zt_m1; omega) hI
                        · skip
                          replace hb : zHd _ := hb.2 h255
                          refine w_ine_f dX9_isWord_14 (t := 21) rfl (by omega) ?_
                          refine w_ic dX9_isWord_17 zi_1 ?_
                          refine w_gt dX9_isWord_18 (t := 22) rfl ?_
                          refine w_en dX9_isWord_22 rfl ?_
                          show ZW _ _ _ _ _ _ _ (327, [some (.ref 386), some (.int u223_1), some (.int u223_2), o223_3], [.int 1], M)
                          refine w_ieq_f dX9_operand_327 (t := 335) rfl (by have := zt_1; omega) ?_
                          refine w_bi dX9_operand_330 (c := 7) (by decide) ?_
                          refine w_gt dX9_operand_332 (t := 336) rfl ?_
                          refine w_lo (ml' := [some (.ref 386), some (.int u223_1), some (.int u223_2), some (.int 7)]) dX9_operand_336 rfl rfl rfl rfl ?_
                          obtain ⟨m, hm, hI⟩ := hb
                          exact (ih m hm).2.2.2.2.2.2.2.2.2 M u223_1 u223_2 7 hJ (by have := zt_7; omega) (by have := zt_7; omega) hI
                      · skip
                        replace hb : zHd _ := hb.2 h252
                        refine w_ine_f dX9_isWord_14 (t := 21) rfl (by omega) ?_
                        refine w_ic dX9_isWord_17 zi_1 ?_
                        refine w_gt dX9_isWord_18 (t := 22) rfl ?_
                        refine w_en dX9_isWord_22 rfl ?_
                        show ZW _ _ _ _ _ _ _ (312, [some (.ref 386), some (.int u223_1), some (.int u223_2), o223_3], [.int 1], M)
                        refine w_ieq_f dX9_operand_312 (t := 320) rfl (by have := zt_1; omega) ?_
                        refine w_bi dX9_operand_315 (c := 6) (by decide) ?_
                        refine w_gt dX9_operand_317 (t := 336) rfl ?_
                        refine w_lo (ml' := [some (.ref 386), some (.int u223_1), some (.int u223_2), some (.int 6)]) dX9_operand_336 rfl rfl rfl rfl ?_
                        obtain ⟨m, hm, hI⟩ := hb
                        exact (ih m hm).2.2.2.2.2.2.2.2.2 M u223_1 u223_2 6 hJ (by have := zt_6; omega) (by have := zt_6; omega) hI
                    · skip
                      replace hb : zHd _ := hb.2 h249
                      refine w_ine_f dX9_isWord_14 (t := 21) rfl (by omega) ?_
                      refine w_ic dX9_isWord_17 zi_1 ?_
                      refine w_gt dX9_isWord_18 (t := 22) rfl ?_
                      refine w_en dX9_isWord_22 rfl ?_
                      show ZW _ _ _ _ _ _ _ (298, [some (.ref 386), some (.int u223_1), some (.int u223_2), o223_3], [.int 1], M)
                      refine w_ieq_f dX9_operand_298 (t := 305) rfl (by have := zt_1; omega) ?_
                      refine w_ic dX9_operand_301 zi_5 ?_
                      refine w_gt dX9_operand_302 (t := 336) rfl ?_
                      refine w_lo (ml' := [some (.ref 386), some (.int u223_1), some (.int u223_2), some (.int 5)]) dX9_operand_336 rfl rfl rfl rfl ?_
                      obtain ⟨m, hm, hI⟩ := hb
                      exact (ih m hm).2.2.2.2.2.2.2.2.2 M u223_1 u223_2 5 hJ (by have := zt_5; omega) (by have := zt_5; omega) hI
                · skip
                  replace hb : zHd _ := hb.2 h222
                  refine w_cne_f dX9_isWord_5 (t := 21) rfl (by have := zt_1; omega) ?_
                  refine w_lo dX9_isWord_8 rfl rfl rfl rfl ?_
                  refine w_gfl dX9_isWord_9 rfl hJ.1 zs_386 (Nat.le_of_ble_eq_true rfl) zo_386_7 ?_
                  intro y259 f256 h257 h258
                  replace hb : zHd _ := hb y259.toInt (ziL f256)
                  refine w_lo dX9_isWord_12 rfl rfl rfl rfl ?_
                  refine w_lcm dX9_isWord_13 ?_
                  intro x260 h261
                  have := ztl_482854658917
                  replace hb : zHd _ := hb x260.toInt (by omega)
                  rcases Int.decEq x260.toInt (0 : Int) with h262 | h262
                  · skip
                    replace hb : zHd _ := hb.1 h262
                    refine w_ine_t dX9_isWord_14 (t := 21) rfl (by omega) ?_
                    refine w_ic dX9_isWord_21 zi_0 ?_
                    refine w_en dX9_isWord_22 rfl ?_
                    show ZW _ _ _ _ _ _ _ (284, [some (.ref 386), some (.int u223_1), some (.int u223_2), o223_3], [.int 0], M)
                    refine w_ieq_t dX9_operand_284 (t := 291) rfl (by have := zt_0; omega) ?_
                    refine w_lo dX9_operand_291 rfl rfl rfl rfl ?_
                    refine w_me (st' := [.long (120299592184933 : Int64), .ref 386]) dX9_operand_292 rfl rfl rfl rfl rfl ?_
                    refine w_iv dX9_operand_295 rfl rfl (As := [.long (120299592184933 : Int64)]) rfl rfl hJ.1.1 zs_386 (Nat.le_of_ble_eq_true rfl) ?_
                    refine ZV.of (ini := false) rfl (Nat.le_of_ble_eq_true rfl) (by decide +kernel) ?_
                    show ZW _ _ _ _ _ _ _ (0, [some (.ref 386), some (.long (120299592184933 : Int64)), none], [], M)
                    refine w_lo dX9_isWord_0 rfl rfl rfl rfl ?_
                    refine w_gf dX9_isWord_1 rfl hJ.1.1 zs_386 f215 ?_
                    refine w_ic dX9_isWord_4 zi_1 ?_
                    refine w_cne_f dX9_isWord_5 (t := 21) rfl (by have := zt_1; omega) ?_
                    refine w_lo dX9_isWord_8 rfl rfl rfl rfl ?_
                    refine w_gf dX9_isWord_9 rfl hJ.1.1 zs_386 f256 ?_
                    refine w_lo dX9_isWord_12 rfl rfl rfl rfl ?_
                    refine w_lcm dX9_isWord_13 ?_
                    intro x263 h264
                    have := ztl_120299592184933
                    replace hb : zHd _ := hb x263.toInt (by omega)
                    rcases Int.decEq x263.toInt (0 : Int) with h265 | h265
                    · skip
                      replace hb : zHd _ := hb.1 h265
                      refine w_ine_t dX9_isWord_14 (t := 21) rfl (by omega) ?_
                      refine w_ic dX9_isWord_21 zi_0 ?_
                      refine w_en dX9_isWord_22 rfl ?_
                      show ZW _ _ _ _ _ _ _ (298, [some (.ref 386), some (.int u223_1), some (.int u223_2), o223_3], [.int 0], M)
                      refine w_ieq_t dX9_operand_298 (t := 305) rfl (by have := zt_0; omega) ?_
                      refine w_lo dX9_operand_305 rfl rfl rfl rfl ?_
                      refine w_me (st' := [.long (108187867505765 : Int64), .ref 386]) dX9_operand_306 rfl rfl rfl rfl rfl ?_
                      refine w_iv dX9_operand_309 rfl rfl (As := [.long (108187867505765 : Int64)]) rfl rfl hJ.1.1 zs_386 (Nat.le_of_ble_eq_true rfl) ?_
                      refine ZV.of (ini := false) rfl (Nat.le_of_ble_eq_true rfl) (by decide +kernel) ?_
                      show ZW _ _ _ _ _ _ _ (0, [some (.ref 386), some (.long (108187867505765 : Int64)), none], [], M)
                      refine w_lo dX9_isWord_0 rfl rfl rfl rfl ?_
                      refine w_gf dX9_isWord_1 rfl hJ.1.1 zs_386 f215 ?_
                      refine w_ic dX9_isWord_4 zi_1 ?_
                      refine w_cne_f dX9_isWord_5 (t := 21) rfl (by have := zt_1; omega) ?_
                      refine w_lo dX9_isWord_8 rfl rfl rfl rfl ?_
                      refine w_gf dX9_isWord_9 rfl hJ.1.1 zs_386 f256 ?_
                      refine w_lo dX9_isWord_12 rfl rfl rfl rfl ?_
                      refine w_lcm dX9_isWord_13 ?_
                      intro x266 h267
                      have := ztl_108187867505765
                      replace hb : zHd _ := hb x266.toInt (by omega)
                      rcases Int.decEq x266.toInt (0 : Int) with h268 | h268
                      · skip
                        replace hb : zHd _ := hb.1 h268
                        refine w_ine_t dX9_isWord_14 (t := 21) rfl (by omega) ?_
                        refine w_ic dX9_isWord_21 zi_0 ?_
                        refine w_en dX9_isWord_22 rfl ?_
                        show ZW _ _ _ _ _ _ _ (312, [some (.ref 386), some (.int u223_1), some (.int u223_2), o223_3], [.int 0], M)
                        refine w_ieq_t dX9_operand_312 (t := 320) rfl (by have := zt_0; omega) ?_
                        refine w_lo dX9_operand_320 rfl rfl rfl rfl ?_
                        refine w_me (st' := [.long (1717922932 : Int64), .ref 386]) dX9_operand_321 rfl rfl rfl rfl rfl ?_
                        refine w_iv dX9_operand_324 rfl rfl (As := [.long (1717922932 : Int64)]) rfl rfl hJ.1.1 zs_386 (Nat.le_of_ble_eq_true rfl) ?_
                        refine ZV.of (ini := false) rfl (Nat.le_of_ble_eq_true rfl) (by decide +kernel) ?_
                        show ZW _ _ _ _ _ _ _ (0, [some (.ref 386), some (.long (1717922932 : Int64)), none], [], M)
                        refine w_lo dX9_isWord_0 rfl rfl rfl rfl ?_
                        refine w_gf dX9_isWord_1 rfl hJ.1.1 zs_386 f215 ?_
                        refine w_ic dX9_isWord_4 zi_1 ?_
                        refine w_cne_f dX9_isWord_5 (t := 21) rfl (by have := zt_1; omega) ?_
                        refine w_lo dX9_isWord_8 rfl rfl rfl rfl ?_
                        refine w_gf dX9_isWord_9 rfl hJ.1.1 zs_386 f256 ?_
                        refine w_lo dX9_isWord_12 rfl rfl rfl rfl ?_
                        refine w_lcm dX9_isWord_13 ?_
                        intro x269 h270
                        have := ztl_1717922932
                        replace hb : zHd _ := hb x269.toInt (by omega)
                        rcases Int.decEq x269.toInt (0 : Int) with h271 | h271
                        · skip
                          replace hb : zHd _ := hb.1 h271
                          refine w_ine_t dX9_isWord_14 (t := 21) rfl (by omega) ?_
                          refine w_ic dX9_isWord_21 zi_0 ?_
                          refine w_en dX9_isWord_22 rfl ?_
                          show ZW _ _ _ _ _ _ _ (327, [some (.ref 386), some (.int u223_1), some (.int u223_2), o223_3], [.int 0], M)
                          refine w_ieq_t dX9_operand_327 (t := 335) rfl (by have := zt_0; omega) ?_
                          refine w_ic dX9_operand_335 zi_m1 ?_
                          refine w_lo (ml' := [some (.ref 386), some (.int u223_1), some (.int u223_2), some (.int (-1))]) dX9_operand_336 rfl rfl rfl rfl ?_
                          obtain ⟨m, hm, hI⟩ := hb
                          exact (ih m hm).2.2.2.2.2.2.2.2.2 M u223_1 u223_2 (-1) hJ (by have := zt_m1; omega) (by have := zt_m1; omega) hI
                        · skip
                          replace hb : zHd _ := hb.2 h271
                          refine w_ine_f dX9_isWord_14 (t := 21) rfl (by omega) ?_
                          refine w_ic dX9_isWord_17 zi_1 ?_
                          refine w_gt dX9_isWord_18 (t := 22) rfl ?_
                          refine w_en dX9_isWord_22 rfl ?_
                          show ZW _ _ _ _ _ _ _ (327, [some (.ref 386), some (.int u223_1), some (.int u223_2), o223_3], [.int 1], M)
                          refine w_ieq_f dX9_operand_327 (t := 335) rfl (by have := zt_1; omega) ?_
                          refine w_bi dX9_operand_330 (c := 7) (by decide) ?_
                          refine w_gt dX9_operand_332 (t := 336) rfl ?_
                          refine w_lo (ml' := [some (.ref 386), some (.int u223_1), some (.int u223_2), some (.int 7)]) dX9_operand_336 rfl rfl rfl rfl ?_
                          obtain ⟨m, hm, hI⟩ := hb
                          exact (ih m hm).2.2.2.2.2.2.2.2.2 M u223_1 u223_2 7 hJ (by have := zt_7; omega) (by have := zt_7; omega) hI
                      · skip
                        replace hb : zHd _ := hb.2 h268
                        refine w_ine_f dX9_isWord_14 (t := 21) rfl (by omega) ?_
                        refine w_ic dX9_isWord_17 zi_1 ?_
                        refine w_gt dX9_isWord_18 (t := 22) rfl ?_
                        refine w_en dX9_isWord_22 rfl ?_
                        show ZW _ _ _ _ _ _ _ (312, [some (.ref 386), some (.int u223_1), some (.int u223_2), o223_3], [.int 1], M)
                        refine w_ieq_f dX9_operand_312 (t := 320) rfl (by have := zt_1; omega) ?_
                        refine w_bi dX9_operand_315 (c := 6) (by decide) ?_
                        refine w_gt dX9_operand_317 (t := 336) rfl ?_
                        refine w_lo (ml' := [some (.ref 386), some (.int u223_1), some (.int u223_2), some (.int 6)]) dX9_operand_336 rfl rfl rfl rfl ?_
                        obtain ⟨m, hm, hI⟩ := hb
                        exact (ih m hm).2.2.2.2.2.2.2.2.2 M u223_1 u223_2 6 hJ (by have := zt_6; omega) (by have := zt_6; omega) hI
                    · skip
                      replace hb : zHd _ := hb.2 h265
                      refine w_ine_f dX9_isWord_14 (t := 21) rfl (by omega) ?_
                      refine w_ic dX9_isWord_17 zi_1 ?_
                      refine w_gt dX9_isWord_18 (t := 22) rfl ?_
                      refine w_en dX9_isWord_22 rfl ?_
                      show ZW _ _ _ _ _ _ _ (298, [some (.ref 386), some (.int u223_1), some (.int u223_2), o223_3], [.int 1], M)
                      refine w_ieq_f dX9_operand_298 (t := 305) rfl (by have := zt_1; omega) ?_
                      refine w_ic dX9_operand_301 zi_5 ?_
                      refine w_gt dX9_operand_302 (t := 336) rfl ?_
                      refine w_lo (ml' := [some (.ref 386), some (.int u223_1), some (.int u223_2), some (.int 5)]) dX9_operand_336 rfl rfl rfl rfl ?_
                      obtain ⟨m, hm, hI⟩ := hb
                      exact (ih m hm).2.2.2.2.2.2.2.2.2 M u223_1 u223_2 5 hJ (by have := zt_5; omega) (by have := zt_5; omega) hI
                  · skip
                    replace hb : zHd _ := hb.2 h262
                    refine w_ine_f dX9_isWord_14 (t := 21) rfl (by omega) ?_
                    refine w_ic dX9_isWord_17 zi_1 ?_
                    refine w_gt dX9_isWord_18 (t := 22) rfl ?_
                    refine w_en dX9_isWord_22 rfl ?_
                    show ZW _ _ _ _ _ _ _ (284, [some (.ref 386), some (.int u223_1), some (.int u223_2), o223_3], [.int 1], M)
                    refine w_ieq_f dX9_operand_284 (t := 291) rfl (by have := zt_1; omega) ?_
                    refine w_ic dX9_operand_287 zi_4 ?_
                    refine w_gt dX9_operand_288 (t := 336) rfl ?_
                    refine w_lo (ml' := [some (.ref 386), some (.int u223_1), some (.int u223_2), some (.int 4)]) dX9_operand_336 rfl rfl rfl rfl ?_
                    obtain ⟨m, hm, hI⟩ := hb
                    exact (ih m hm).2.2.2.2.2.2.2.2.2 M u223_1 u223_2 4 hJ (by have := zt_4; omega) (by have := zt_4; omega) hI
              · skip
                replace hb : zHd _ := hb.2 h221
                refine w_cne_f dX9_isWord_5 (t := 21) rfl (by have := zt_1; omega) ?_
                refine w_lo dX9_isWord_8 rfl rfl rfl rfl ?_
                refine w_gfl dX9_isWord_9 rfl hJ.1 zs_386 (Nat.le_of_ble_eq_true rfl) zo_386_7 ?_
                intro y275 f272 h273 h274
                replace hb : zHd _ := hb y275.toInt (ziL f272)
                refine w_lo dX9_isWord_12 rfl rfl rfl rfl ?_
                refine w_lcm dX9_isWord_13 ?_
                intro x276 h277
                have := ztl_431198598248
                replace hb : zHd _ := hb x276.toInt (by omega)
                rcases Int.decEq x276.toInt (0 : Int) with h278 | h278
                · skip
                  replace hb : zHd _ := hb.1 h278
                  refine w_ine_t dX9_isWord_14 (t := 21) rfl (by omega) ?_
                  refine w_ic dX9_isWord_21 zi_0 ?_
                  refine w_en dX9_isWord_22 rfl ?_
                  show ZW _ _ _ _ _ _ _ (270, [some (.ref 386), some (.int u223_1), some (.int u223_2), o223_3], [.int 0], M)
                  refine w_ieq_t dX9_operand_270 (t := 277) rfl (by have := zt_0; omega) ?_
                  refine w_lo dX9_operand_277 rfl rfl rfl rfl ?_
                  refine w_me (st' := [.long (482854658917 : Int64), .ref 386]) dX9_operand_278 rfl rfl rfl rfl rfl ?_
                  refine w_iv dX9_operand_281 rfl rfl (As := [.long (482854658917 : Int64)]) rfl rfl hJ.1.1 zs_386 (Nat.le_of_ble_eq_true rfl) ?_
                  refine ZV.of (ini := false) rfl (Nat.le_of_ble_eq_true rfl) (by decide +kernel) ?_
                  show ZW _ _ _ _ _ _ _ (0, [some (.ref 386), some (.long (482854658917 : Int64)), none], [], M)
                  refine w_lo dX9_isWord_0 rfl rfl rfl rfl ?_
                  refine w_gf dX9_isWord_1 rfl hJ.1.1 zs_386 f215 ?_
                  refine w_ic dX9_isWord_4 zi_1 ?_
                  refine w_cne_f dX9_isWord_5 (t := 21) rfl (by have := zt_1; omega) ?_
                  refine w_lo dX9_isWord_8 rfl rfl rfl rfl ?_
                  refine w_gf dX9_isWord_9 rfl hJ.1.1 zs_386 f272 ?_
                  refine w_lo dX9_isWord_12 rfl rfl rfl rfl ?_
                  refine w_lcm dX9_isWord_13 ?_
                  intro x279 h280
                  have := ztl_482854658917
                  replace hb : zHd _ := hb x279.toInt (by omega)
                  rcases Int.decEq x279.toInt (0 : Int) with h281 | h281
                  · skip
                    replace hb : zHd _ := hb.1 h281
                    refine w_ine_t dX9_isWord_14 (t := 21) rfl (by omega) ?_
                    refine w_ic dX9_isWord_21 zi_0 ?_
                    refine w_en dX9_isWord_22 rfl ?_
                    show ZW _ _ _ _ _ _ _ (284, [some (.ref 386), some (.int u223_1), some (.int u223_2), o223_3], [.int 0], M)
                    refine w_ieq_t dX9_operand_284 (t := 291) rfl (by have := zt_0; omega) ?_
                    refine w_lo dX9_operand_291 rfl rfl rfl rfl ?_
                    refine w_me (st' := [.long (120299592184933 : Int64), .ref 386]) dX9_operand_292 rfl rfl rfl rfl rfl ?_
                    refine w_iv dX9_operand_295 rfl rfl (As := [.long (120299592184933 : Int64)]) rfl rfl hJ.1.1 zs_386 (Nat.le_of_ble_eq_true rfl) ?_
                    refine ZV.of (ini := false) rfl (Nat.le_of_ble_eq_true rfl) (by decide +kernel) ?_
                    show ZW _ _ _ _ _ _ _ (0, [some (.ref 386), some (.long (120299592184933 : Int64)), none], [], M)
                    refine w_lo dX9_isWord_0 rfl rfl rfl rfl ?_
                    refine w_gf dX9_isWord_1 rfl hJ.1.1 zs_386 f215 ?_
                    refine w_ic dX9_isWord_4 zi_1 ?_
                    refine w_cne_f dX9_isWord_5 (t := 21) rfl (by have := zt_1; omega) ?_
                    refine w_lo dX9_isWord_8 rfl rfl rfl rfl ?_
                    refine w_gf dX9_isWord_9 rfl hJ.1.1 zs_386 f272 ?_
                    refine w_lo dX9_isWord_12 rfl rfl rfl rfl ?_
                    refine w_lcm dX9_isWord_13 ?_
                    intro x282 h283
                    have := ztl_120299592184933
                    replace hb : zHd _ := hb x282.toInt (by omega)
                    rcases Int.decEq x282.toInt (0 : Int) with h284 | h284
                    · skip
                      replace hb : zHd _ := hb.1 h284
                      refine w_ine_t dX9_isWord_14 (t := 21) rfl (by omega) ?_
                      refine w_ic dX9_isWord_21 zi_0 ?_
                      refine w_en dX9_isWord_22 rfl ?_
                      show ZW _ _ _ _ _ _ _ (298, [some (.ref 386), some (.int u223_1), some (.int u223_2), o223_3], [.int 0], M)
                      refine w_ieq_t dX9_operand_298 (t := 305) rfl (by have := zt_0; omega) ?_
                      refine w_lo dX9_operand_305 rfl rfl rfl rfl ?_
                      refine w_me (st' := [.long (108187867505765 : Int64), .ref 386]) dX9_operand_306 rfl rfl rfl rfl rfl ?_
                      refine w_iv dX9_operand_309 rfl rfl (As := [.long (108187867505765 : Int64)]) rfl rfl hJ.1.1 zs_386 (Nat.le_of_ble_eq_true rfl) ?_
                      refine ZV.of (ini := false) rfl (Nat.le_of_ble_eq_true rfl) (by decide +kernel) ?_
                      show ZW _ _ _ _ _ _ _ (0, [some (.ref 386), some (.long (108187867505765 : Int64)), none], [], M)
                      refine w_lo dX9_isWord_0 rfl rfl rfl rfl ?_
                      refine w_gf dX9_isWord_1 rfl hJ.1.1 zs_386 f215 ?_
                      refine w_ic dX9_isWord_4 zi_1 ?_
                      refine w_cne_f dX9_isWord_5 (t := 21) rfl (by have := zt_1; omega) ?_
                      refine w_lo dX9_isWord_8 rfl rfl rfl rfl ?_
                      refine w_gf dX9_isWord_9 rfl hJ.1.1 zs_386 f272 ?_
                      refine w_lo dX9_isWord_12 rfl rfl rfl rfl ?_
                      refine w_lcm dX9_isWord_13 ?_
                      intro x285 h286
                      have := ztl_108187867505765
                      replace hb : zHd _ := hb x285.toInt (by omega)
                      rcases Int.decEq x285.toInt (0 : Int) with h287 | h287
                      · skip
                        replace hb : zHd _ := hb.1 h287
                        refine w_ine_t dX9_isWord_14 (t := 21) rfl (by omega) ?_
                        refine w_ic dX9_isWord_21 zi_0 ?_
                        refine w_en dX9_isWord_22 rfl ?_
                        show ZW _ _ _ _ _ _ _ (312, [some (.ref 386), some (.int u223_1), some (.int u223_2), o223_3], [.int 0], M)
                        refine w_ieq_t dX9_operand_312 (t := 320) rfl (by have := zt_0; omega) ?_
                        refine w_lo dX9_operand_320 rfl rfl rfl rfl ?_
                        refine w_me (st' := [.long (1717922932 : Int64), .ref 386]) dX9_operand_321 rfl rfl rfl rfl rfl ?_
                        refine w_iv dX9_operand_324 rfl rfl (As := [.long (1717922932 : Int64)]) rfl rfl hJ.1.1 zs_386 (Nat.le_of_ble_eq_true rfl) ?_
                        refine ZV.of (ini := false) rfl (Nat.le_of_ble_eq_true rfl) (by decide +kernel) ?_
                        show ZW _ _ _ _ _ _ _ (0, [some (.ref 386), some (.long (1717922932 : Int64)), none], [], M)
                        refine w_lo dX9_isWord_0 rfl rfl rfl rfl ?_
                        refine w_gf dX9_isWord_1 rfl hJ.1.1 zs_386 f215 ?_
                        refine w_ic dX9_isWord_4 zi_1 ?_
                        refine w_cne_f dX9_isWord_5 (t := 21) rfl (by have := zt_1; omega) ?_
                        refine w_lo dX9_isWord_8 rfl rfl rfl rfl ?_
                        refine w_gf dX9_isWord_9 rfl hJ.1.1 zs_386 f272 ?_
                        refine w_lo dX9_isWord_12 rfl rfl rfl rfl ?_
                        refine w_lcm dX9_isWord_13 ?_
                        intro x288 h289
                        have := ztl_1717922932
                        replace hb : zHd _ := hb x288.toInt (by omega)
                        rcases Int.decEq x288.toInt (0 : Int) with h290 | h290
                        · skip
                          replace hb : zHd _ := hb.1 h290
                          refine w_ine_t dX9_isWord_14 (t := 21) rfl (by omega) ?_
                          refine w_ic dX9_isWord_21 zi_0 ?_
                          refine w_en dX9_isWord_22 rfl ?_
                          show ZW _ _ _ _ _ _ _ (327, [some (.ref 386), some (.int u223_1), some (.int u223_2), o223_3], [.int 0], M)
                          refine w_ieq_t dX9_operand_327 (t := 335) rfl (by have := zt_0; omega) ?_
                          refine w_ic dX9_operand_335 zi_m1 ?_
                          refine w_lo (ml' := [some (.ref 386), some (.int u223_1), some (.int u223_2), some (.int (-1))]) dX9_operand_336 rfl rfl rfl rfl ?_
                          obtain ⟨m, hm, hI⟩ := hb
                          exact (ih m hm).2.2.2.2.2.2.2.2.2 M u223_1 u223_2 (-1) hJ (by have := zt_m1; omega) (by have := zt_m1; omega) hI
                        · skip
                          replace hb : zHd _ := hb.2 h290
                          refine w_ine_f dX9_isWord_14 (t := 21) rfl (by omega) ?_
                          refine w_ic dX9_isWord_17 zi_1 ?_
                          refine w_gt dX9_isWord_18 (t := 22) rfl ?_
                          refine w_en dX9_isWord_22 rfl ?_
                          show ZW _ _ _ _ _ _ _ (327, [some (.ref 386), some (.int u223_1), some (.int u223_2), o223_3], [.int 1], M)
                          refine w_ieq_f dX9_operand_327 (t := 335) rfl (by have := zt_1; omega) ?_
                          refine w_bi dX9_operand_330 (c := 7) (by decide) ?_
                          refine w_gt dX9_operand_332 (t := 336) rfl ?_
                          refine w_lo (ml' := [some (.ref 386), some (.int u223_1), some (.int u223_2), some (.int 7)]) dX9_operand_336 rfl rfl rfl rfl ?_
                          obtain ⟨m, hm, hI⟩ := hb
                          exact (ih m hm).2.2.2.2.2.2.2.2.2 M u223_1 u223_2 7 hJ (by have := zt_7; omega) (by have := zt_7; omega) hI
                      · skip
                        replace hb : zHd _ := hb.2 h287
                        refine w_ine_f dX9_isWord_14 (t := 21) rfl (by omega) ?_
                        refine w_ic dX9_isWord_17 zi_1 ?_
                        refine w_gt dX9_isWord_18 (t := 22) rfl ?_
                        refine w_en dX9_isWord_22 rfl ?_
                        show ZW _ _ _ _ _ _ _ (312, [some (.ref 386), some (.int u223_1), some (.int u223_2), o223_3], [.int 1], M)
                        refine w_ieq_f dX9_operand_312 (t := 320) rfl (by have := zt_1; omega) ?_
                        refine w_bi dX9_operand_315 (c := 6) (by decide) ?_
                        refine w_gt dX9_operand_317 (t := 336) rfl ?_
                        refine w_lo (ml' := [some (.ref 386), some (.int u223_1), some (.int u223_2), some (.int 6)]) dX9_operand_336 rfl rfl rfl rfl ?_
                        obtain ⟨m, hm, hI⟩ := hb
                        exact (ih m hm).2.2.2.2.2.2.2.2.2 M u223_1 u223_2 6 hJ (by have := zt_6; omega) (by have := zt_6; omega) hI
                    · skip
                      replace hb : zHd _ := hb.2 h284
                      refine w_ine_f dX9_isWord_14 (t := 21) rfl (by omega) ?_
                      refine w_ic dX9_isWord_17 zi_1 ?_
                      refine w_gt dX9_isWord_18 (t := 22) rfl ?_
                      refine w_en dX9_isWord_22 rfl ?_
                      show ZW _ _ _ _ _ _ _ (298, [some (.ref 386), some (.int u223_1), some (.int u223_2), o223_3], [.int 1], M)
                      refine w_ieq_f dX9_operand_298 (t := 305) rfl (by have := zt_1; omega) ?_
                      refine w_ic dX9_operand_301 zi_5 ?_
                      refine w_gt dX9_operand_302 (t := 336) rfl ?_
                      refine w_lo (ml' := [some (.ref 386), some (.int u223_1), some (.int u223_2), some (.int 5)]) dX9_operand_336 rfl rfl rfl rfl ?_
                      obtain ⟨m, hm, hI⟩ := hb
                      exact (ih m hm).2.2.2.2.2.2.2.2.2 M u223_1 u223_2 5 hJ (by have := zt_5; omega) (by have := zt_5; omega) hI
                  · skip
                    replace hb : zHd _ := hb.2 h281
                    refine w_ine_f dX9_isWord_14 (t := 21) rfl (by omega) ?_
                    refine w_ic dX9_isWord_17 zi_1 ?_
                    refine w_gt dX9_isWord_18 (t := 22) rfl ?_
                    refine w_en dX9_isWord_22 rfl ?_
                    show ZW _ _ _ _ _ _ _ (284, [some (.ref 386), some (.int u223_1), some (.int u223_2), o223_3], [.int 1], M)
                    refine w_ieq_f dX9_operand_284 (t := 291) rfl (by have := zt_1; omega) ?_
                    refine w_ic dX9_operand_287 zi_4 ?_
                    refine w_gt dX9_operand_288 (t := 336) rfl ?_
                    refine w_lo (ml' := [some (.ref 386), some (.int u223_1), some (.int u223_2), some (.int 4)]) dX9_operand_336 rfl rfl rfl rfl ?_
                    obtain ⟨m, hm, hI⟩ := hb
                    exact (ih m hm).2.2.2.2.2.2.2.2.2 M u223_1 u223_2 4 hJ (by have := zt_4; omega) (by have := zt_4; omega) hI
                · skip
                  replace hb : zHd _ := hb.2 h278
                  refine w_ine_f dX9_isWord_14 (t := 21) rfl (by omega) ?_
                  refine w_ic dX9_isWord_17 zi_1 ?_
                  refine w_gt dX9_isWord_18 (t := 22) rfl ?_
                  refine w_en dX9_isWord_22 rfl ?_
                  show ZW _ _ _ _ _ _ _ (270, [some (.ref 386), some (.int u223_1), some (.int u223_2), o223_3], [.int 1], M)
                  refine w_ieq_f dX9_operand_270 (t := 277) rfl (by have := zt_1; omega) ?_
                  refine w_ic dX9_operand_273 zi_3 ?_
                  refine w_gt dX9_operand_274 (t := 336) rfl ?_
                  refine w_lo (ml' := [some (.ref 386), some (.int u223_1), some (.int u223_2), some (.int 3)]) dX9_operand_336 rfl rfl rfl rfl ?_
                  obtain ⟨m, hm, hI⟩ := hb
                  exact (ih m hm).2.2.2.2.2.2.2.2.2 M u223_1 u223_2 3 hJ (by have := zt_3; omega) (by have := zt_3; omega) hI
            · skip
              replace hb : zHd _ := hb.2 h220
              refine w_cne_f dX9_isWord_5 (t := 21) rfl (by have := zt_1; omega) ?_
              refine w_lo dX9_isWord_8 rfl rfl rfl rfl ?_
              refine w_gfl dX9_isWord_9 rfl hJ.1 zs_386 (Nat.le_of_ble_eq_true rfl) zo_386_7 ?_
              intro y294 f291 h292 h293
              replace hb : zHd _ := hb y294.toInt (ziL f291)
              refine w_lo dX9_isWord_12 rfl rfl rfl rfl ?_
              refine w_lcm dX9_isWord_13 ?_
              intro x295 h296
              have := ztl_131277443786868
              replace hb : zHd _ := hb x295.toInt (by omega)
              rcases Int.decEq x295.toInt (0 : Int) with h297 | h297
              · skip
                replace hb : zHd _ := hb.1 h297
                refine w_ine_t dX9_isWord_14 (t := 21) rfl (by omega) ?_
                refine w_ic dX9_isWord_21 zi_0 ?_
                refine w_en dX9_isWord_22 rfl ?_
                show ZW _ _ _ _ _ _ _ (256, [some (.ref 386), some (.int u223_1), some (.int u223_2), o223_3], [.int 0], M)
                refine w_ieq_t dX9_operand_256 (t := 263) rfl (by have := zt_0; omega) ?_
                refine w_lo dX9_operand_263 rfl rfl rfl rfl ?_
                refine w_me (st' := [.long (431198598248 : Int64), .ref 386]) dX9_operand_264 rfl rfl rfl rfl rfl ?_
                refine w_iv dX9_operand_267 rfl rfl (As := [.long (431198598248 : Int64)]) rfl rfl hJ.1.1 zs_386 (Nat.le_of_ble_eq_true rfl) ?_
                refine ZV.of (ini := false) rfl (Nat.le_of_ble_eq_true rfl) (by decide +kernel) ?_
                show ZW _ _ _ _ _ _ _ (0, [some (.ref 386), some (.long (431198598248 : Int64)), none], [], M)
                refine w_lo dX9_isWord_0 rfl rfl rfl rfl ?_
                refine w_gf dX9_isWord_1 rfl hJ.1.1 zs_386 f215 ?_
                refine w_ic dX9_isWord_4 zi_1 ?_
                refine w_cne_f dX9_isWord_5 (t := 21) rfl (by have := zt_1; omega) ?_
                refine w_lo dX9_isWord_8 rfl rfl rfl rfl ?_
                refine w_gf dX9_isWord_9 rfl hJ.1.1 zs_386 f291 ?_
                refine w_lo dX9_isWord_12 rfl rfl rfl rfl ?_
                refine w_lcm dX9_isWord_13 ?_
                intro x298 h299
                have := ztl_431198598248
                replace hb : zHd _ := hb x298.toInt (by omega)
                rcases Int.decEq x298.toInt (0 : Int) with h300 | h300
                · skip
                  replace hb : zHd _ := hb.1 h300
                  refine w_ine_t dX9_isWord_14 (t := 21) rfl (by omega) ?_
                  refine w_ic dX9_isWord_21 zi_0 ?_
                  refine w_en dX9_isWord_22 rfl ?_
                  show ZW _ _ _ _ _ _ _ (270, [some (.ref 386), some (.int u223_1), some (.int u223_2), o223_3], [.int 0], M)
                  refine w_ieq_t dX9_operand_270 (t := 277) rfl (by have := zt_0; omega) ?_
                  refine w_lo dX9_operand_277 rfl rfl rfl rfl ?_
                  refine w_me (st' := [.long (482854658917 : Int64), .ref 386]) dX9_operand_278 rfl rfl rfl rfl rfl ?_
                  refine w_iv dX9_operand_281 rfl rfl (As := [.long (482854658917 : Int64)]) rfl rfl hJ.1.1 zs_386 (Nat.le_of_ble_eq_true rfl) ?_
                  refine ZV.of (ini := false) rfl (Nat.le_of_ble_eq_true rfl) (by decide +kernel) ?_
                  show ZW _ _ _ _ _ _ _ (0, [some (.ref 386), some (.long (482854658917 : Int64)), none], [], M)
                  refine w_lo dX9_isWord_0 rfl rfl rfl rfl ?_
                  refine w_gf dX9_isWord_1 rfl hJ.1.1 zs_386 f215 ?_
                  refine w_ic dX9_isWord_4 zi_1 ?_
                  refine w_cne_f dX9_isWord_5 (t := 21) rfl (by have := zt_1; omega) ?_
                  refine w_lo dX9_isWord_8 rfl rfl rfl rfl ?_
                  refine w_gf dX9_isWord_9 rfl hJ.1.1 zs_386 f291 ?_
                  refine w_lo dX9_isWord_12 rfl rfl rfl rfl ?_
                  refine w_lcm dX9_isWord_13 ?_
                  intro x301 h302
                  have := ztl_482854658917
                  replace hb : zHd _ := hb x301.toInt (by omega)
                  rcases Int.decEq x301.toInt (0 : Int) with h303 | h303
                  · skip
                    replace hb : zHd _ := hb.1 h303
                    refine w_ine_t dX9_isWord_14 (t := 21) rfl (by omega) ?_
                    refine w_ic dX9_isWord_21 zi_0 ?_
                    refine w_en dX9_isWord_22 rfl ?_
                    show ZW _ _ _ _ _ _ _ (284, [some (.ref 386), some (.int u223_1), some (.int u223_2), o223_3], [.int 0], M)
                    refine w_ieq_t dX9_operand_284 (t := 291) rfl (by have := zt_0; omega) ?_
                    refine w_lo dX9_operand_291 rfl rfl rfl rfl ?_
                    refine w_me (st' := [.long (120299592184933 : Int64), .ref 386]) dX9_operand_292 rfl rfl rfl rfl rfl ?_
                    refine w_iv dX9_operand_295 rfl rfl (As := [.long (120299592184933 : Int64)]) rfl rfl hJ.1.1 zs_386 (Nat.le_of_ble_eq_true rfl) ?_
                    refine ZV.of (ini := false) rfl (Nat.le_of_ble_eq_true rfl) (by decide +kernel) ?_
                    show ZW _ _ _ _ _ _ _ (0, [some (.ref 386), some (.long (120299592184933 : Int64)), none], [], M)
                    refine w_lo dX9_isWord_0 rfl rfl rfl rfl ?_
                    refine w_gf dX9_isWord_1 rfl hJ.1.1 zs_386 f215 ?_
                    refine w_ic dX9_isWord_4 zi_1 ?_
                    refine w_cne_f dX9_isWord_5 (t := 21) rfl (by have := zt_1; omega) ?_
                    refine w_lo dX9_isWord_8 rfl rfl rfl rfl ?_
                    refine w_gf dX9_isWord_9 rfl hJ.1.1 zs_386 f291 ?_
                    refine w_lo dX9_isWord_12 rfl rfl rfl rfl ?_
                    refine w_lcm dX9_isWord_13 ?_
                    intro x304 h305
                    have := ztl_120299592184933
                    replace hb : zHd _ := hb x304.toInt (by omega)
                    rcases Int.decEq x304.toInt (0 : Int) with h306 | h306
                    · skip
                      replace hb : zHd _ := hb.1 h306
                      refine w_ine_t dX9_isWord_14 (t := 21) rfl (by omega) ?_
                      refine w_ic dX9_isWord_21 zi_0 ?_
                      refine w_en dX9_isWord_22 rfl ?_
                      show ZW _ _ _ _ _ _ _ (298, [some (.ref 386), some (.int u223_1), some (.int u223_2), o223_3], [.int 0], M)
                      refine w_ieq_t dX9_operand_298 (t := 305) rfl (by have := zt_0; omega) ?_
                      refine w_lo dX9_operand_305 rfl rfl rfl rfl ?_
                      refine w_me (st' := [.long (108187867505765 : Int64), .ref 386]) dX9_operand_306 rfl rfl rfl rfl rfl ?_
                      refine w_iv dX9_operand_309 rfl rfl (As := [.long (108187867505765 : Int64)]) rfl rfl hJ.1.1 zs_386 (Nat.le_of_ble_eq_true rfl) ?_
                      refine ZV.of (ini := false) rfl (Nat.le_of_ble_eq_true rfl) (by decide +kernel) ?_
                      show ZW _ _ _ _ _ _ _ (0, [some (.ref 386), some (.long (108187867505765 : Int64)), none], [], M)
                      refine w_lo dX9_isWord_0 rfl rfl rfl rfl ?_
                      refine w_gf dX9_isWord_1 rfl hJ.1.1 zs_386 f215 ?_
                      refine w_ic dX9_isWord_4 zi_1 ?_
                      refine w_cne_f dX9_isWord_5 (t := 21) rfl (by have := zt_1; omega) ?_
                      refine w_lo dX9_isWord_8 rfl rfl rfl rfl ?_
                      refine w_gf dX9_isWord_9 rfl hJ.1.1 zs_386 f291 ?_
                      refine w_lo dX9_isWord_12 rfl rfl rfl rfl ?_
                      refine w_lcm dX9_isWord_13 ?_
                      intro x307 h308
                      have := ztl_108187867505765
                      replace hb : zHd _ := hb x307.toInt (by omega)
                      rcases Int.decEq x307.toInt (0 : Int) with h309 | h309
                      · skip
                        replace hb : zHd _ := hb.1 h309
                        refine w_ine_t dX9_isWord_14 (t := 21) rfl (by omega) ?_
                        refine w_ic dX9_isWord_21 zi_0 ?_
                        refine w_en dX9_isWord_22 rfl ?_
                        show ZW _ _ _ _ _ _ _ (312, [some (.ref 386), some (.int u223_1), some (.int u223_2), o223_3], [.int 0], M)
                        refine w_ieq_t dX9_operand_312 (t := 320) rfl (by have := zt_0; omega) ?_
                        refine w_lo dX9_operand_320 rfl rfl rfl rfl ?_
                        refine w_me (st' := [.long (1717922932 : Int64), .ref 386]) dX9_operand_321 rfl rfl rfl rfl rfl ?_
                        refine w_iv dX9_operand_324 rfl rfl (As := [.long (1717922932 : Int64)]) rfl rfl hJ.1.1 zs_386 (Nat.le_of_ble_eq_true rfl) ?_
                        refine ZV.of (ini := false) rfl (Nat.le_of_ble_eq_true rfl) (by decide +kernel) ?_
                        show ZW _ _ _ _ _ _ _ (0, [some (.ref 386), some (.long (1717922932 : Int64)), none], [], M)
                        refine w_lo dX9_isWord_0 rfl rfl rfl rfl ?_
                        refine w_gf dX9_isWord_1 rfl hJ.1.1 zs_386 f215 ?_
                        refine w_ic dX9_isWord_4 zi_1 ?_
                        refine w_cne_f dX9_isWord_5 (t := 21) rfl (by have := zt_1; omega) ?_
                        refine w_lo dX9_isWord_8 rfl rfl rfl rfl ?_
                        refine w_gf dX9_isWord_9 rfl hJ.1.1 zs_386 f291 ?_
                        refine w_lo dX9_isWord_12 rfl rfl rfl rfl ?_
                        refine w_lcm dX9_isWord_13 ?_
                        intro x310 h311
                        have := ztl_1717922932
                        replace hb : zHd _ := hb x310.toInt (by omega)
                        rcases Int.decEq x310.toInt (0 : Int) with h312 | h312
                        · skip
                          replace hb : zHd _ := hb.1 h312
                          refine w_ine_t dX9_isWord_14 (t := 21) rfl (by omega) ?_
                          refine w_ic dX9_isWord_21 zi_0 ?_
                          refine w_en dX9_isWord_22 rfl ?_
                          show ZW _ _ _ _ _ _ _ (327, [some (.ref 386), some (.int u223_1), some (.int u223_2), o223_3], [.int 0], M)
                          refine w_ieq_t dX9_operand_327 (t := 335) rfl (by have := zt_0; omega) ?_
                          refine w_ic dX9_operand_335 zi_m1 ?_
                          refine w_lo (ml' := [some (.ref 386), some (.int u223_1), some (.int u223_2), some (.int (-1))]) dX9_operand_336 rfl rfl rfl rfl ?_
                          obtain ⟨m, hm, hI⟩ := hb
                          exact (ih m hm).2.2.2.2.2.2.2.2.2 M u223_1 u223_2 (-1) hJ (by have := zt_m1; omega) (by have := zt_m1; omega) hI
                        · skip
                          replace hb : zHd _ := hb.2 h312
                          refine w_ine_f dX9_isWord_14 (t := 21) rfl (by omega) ?_
                          refine w_ic dX9_isWord_17 zi_1 ?_
                          refine w_gt dX9_isWord_18 (t := 22) rfl ?_
                          refine w_en dX9_isWord_22 rfl ?_
                          show ZW _ _ _ _ _ _ _ (327, [some (.ref 386), some (.int u223_1), some (.int u223_2), o223_3], [.int 1], M)
                          refine w_ieq_f dX9_operand_327 (t := 335) rfl (by have := zt_1; omega) ?_
                          refine w_bi dX9_operand_330 (c := 7) (by decide) ?_
                          refine w_gt dX9_operand_332 (t := 336) rfl ?_
                          refine w_lo (ml' := [some (.ref 386), some (.int u223_1), some (.int u223_2), some (.int 7)]) dX9_operand_336 rfl rfl rfl rfl ?_
                          obtain ⟨m, hm, hI⟩ := hb
                          exact (ih m hm).2.2.2.2.2.2.2.2.2 M u223_1 u223_2 7 hJ (by have := zt_7; omega) (by have := zt_7; omega) hI
                      · skip
                        replace hb : zHd _ := hb.2 h309
                        refine w_ine_f dX9_isWord_14 (t := 21) rfl (by omega) ?_
                        refine w_ic dX9_isWord_17 zi_1 ?_
                        refine w_gt dX9_isWord_18 (t := 22) rfl ?_
                        refine w_en dX9_isWord_22 rfl ?_
                        show ZW _ _ _ _ _ _ _ (312, [some (.ref 386), some (.int u223_1), some (.int u223_2), o223_3], [.int 1], M)
                        refine w_ieq_f dX9_operand_312 (t := 320) rfl (by have := zt_1; omega) ?_
                        refine w_bi dX9_operand_315 (c := 6) (by decide) ?_
                        refine w_gt dX9_operand_317 (t := 336) rfl ?_
                        refine w_lo (ml' := [some (.ref 386), some (.int u223_1), some (.int u223_2), some (.int 6)]) dX9_operand_336 rfl rfl rfl rfl ?_
                        obtain ⟨m, hm, hI⟩ := hb
                        exact (ih m hm).2.2.2.2.2.2.2.2.2 M u223_1 u223_2 6 hJ (by have := zt_6; omega) (by have := zt_6; omega) hI
                    · skip
                      replace hb : zHd _ := hb.2 h306
                      refine w_ine_f dX9_isWord_14 (t := 21) rfl (by omega) ?_
                      refine w_ic dX9_isWord_17 zi_1 ?_
                      refine w_gt dX9_isWord_18 (t := 22) rfl ?_
                      refine w_en dX9_isWord_22 rfl ?_
                      show ZW _ _ _ _ _ _ _ (298, [some (.ref 386), some (.int u223_1), some (.int u223_2), o223_3], [.int 1], M)
                      refine w_ieq_f dX9_operand_298 (t := 305) rfl (by have := zt_1; omega) ?_
                      refine w_ic dX9_operand_301 zi_5 ?_
                      refine w_gt dX9_operand_302 (t := 336) rfl ?_
                      refine w_lo (ml' := [some (.ref 386), some (.int u223_1), some (.int u223_2), some (.int 5)]) dX9_operand_336 rfl rfl rfl rfl ?_
                      obtain ⟨m, hm, hI⟩ := hb
                      exact (ih m hm).2.2.2.2.2.2.2.2.2 M u223_1 u223_2 5 hJ (by have := zt_5; omega) (by have := zt_5; omega) hI
                  · skip
                    replace hb : zHd _ := hb.2 h303
                    refine w_ine_f dX9_isWord_14 (t := 21) rfl (by omega) ?_
                    refine w_ic dX9_isWord_17 zi_1 ?_
                    refine w_gt dX9_isWord_18 (t := 22) rfl ?_
                    refine w_en dX9_isWord_22 rfl ?_
                    show ZW _ _ _ _ _ _ _ (284, [some (.ref 386), some (.int u223_1), some (.int u223_2), o223_3], [.int 1], M)
                    refine w_ieq_f dX9_operand_284 (t := 291) rfl (by have := zt_1; omega) ?_
                    refine w_ic dX9_operand_287 zi_4 ?_
                    refine w_gt dX9_operand_288 (t := 336) rfl ?_
                    refine w_lo (ml' := [some (.ref 386), some (.int u223_1), some (.int u223_2), some (.int 4)]) dX9_operand_336 rfl rfl rfl rfl ?_
                    obtain ⟨m, hm, hI⟩ := hb
                    exact (ih m hm).2.2.2.2.2.2.2.2.2 M u223_1 u223_2 4 hJ (by have := zt_4; omega) (by have := zt_4; omega) hI
                · skip
                  replace hb : zHd _ := hb.2 h300
                  refine w_ine_f dX9_isWord_14 (t := 21) rfl (by omega) ?_
                  refine w_ic dX9_isWord_17 zi_1 ?_
                  refine w_gt dX9_isWord_18 (t := 22) rfl ?_
                  refine w_en dX9_isWord_22 rfl ?_
                  show ZW _ _ _ _ _ _ _ (270, [some (.ref 386), some (.int u223_1), some (.int u223_2), o223_3], [.int 1], M)
                  refine w_ieq_f dX9_operand_270 (t := 277) rfl (by have := zt_1; omega) ?_
                  refine w_ic dX9_operand_273 zi_3 ?_
                  refine w_gt dX9_operand_274 (t := 336) rfl ?_
                  refine w_lo (ml' := [some (.ref 386), some (.int u223_1), some (.int u223_2), some (.int 3)]) dX9_operand_336 rfl rfl rfl rfl ?_
                  obtain ⟨m, hm, hI⟩ := hb
                  exact (ih m hm).2.2.2.2.2.2.2.2.2 M u223_1 u223_2 3 hJ (by have := zt_3; omega) (by have := zt_3; omega) hI
              · skip
                replace hb : zHd _ := hb.2 h297
                refine w_ine_f dX9_isWord_14 (t := 21) rfl (by omega) ?_
                refine w_ic dX9_isWord_17 zi_1 ?_
                refine w_gt dX9_isWord_18 (t := 22) rfl ?_
                refine w_en dX9_isWord_22 rfl ?_
                show ZW _ _ _ _ _ _ _ (256, [some (.ref 386), some (.int u223_1), some (.int u223_2), o223_3], [.int 1], M)
                refine w_ieq_f dX9_operand_256 (t := 263) rfl (by have := zt_1; omega) ?_
                refine w_ic dX9_operand_259 zi_2 ?_
                refine w_gt dX9_operand_260 (t := 336) rfl ?_
                refine w_lo (ml' := [some (.ref 386), some (.int u223_1), some (.int u223_2), some (.int 2)]) dX9_operand_336 rfl rfl rfl rfl ?_
                obtain ⟨m, hm, hI⟩ := hb
                exact (ih m hm).2.2.2.2.2.2.2.2.2 M u223_1 u223_2 2 hJ (by have := zt_2; omega) (by have := zt_2; omega) hI
          · skip
            replace hb : zHd _ := hb.2 h219
            refine w_cne_f dX9_isWord_5 (t := 21) rfl (by have := zt_1; omega) ?_
            refine w_lo dX9_isWord_8 rfl rfl rfl rfl ?_
            refine w_gfl dX9_isWord_9 rfl hJ.1 zs_386 (Nat.le_of_ble_eq_true rfl) zo_386_7 ?_
            intro y316 f313 h314 h315
            replace hb : zHd _ := hb y316.toInt (ziL f313)
            refine w_lo dX9_isWord_12 rfl rfl rfl rfl ?_
            refine w_lcm dX9_isWord_13 ?_
            intro x317 h318
            have := ztl_439956431717
            replace hb : zHd _ := hb x317.toInt (by omega)
            rcases Int.decEq x317.toInt (0 : Int) with h319 | h319
            · skip
              replace hb : zHd _ := hb.1 h319
              refine w_ine_t dX9_isWord_14 (t := 21) rfl (by omega) ?_
              refine w_ic dX9_isWord_21 zi_0 ?_
              refine w_en dX9_isWord_22 rfl ?_
              show ZW _ _ _ _ _ _ _ (242, [some (.ref 386), some (.int u223_1), some (.int u223_2), o223_3], [.int 0], M)
              refine w_ieq_t dX9_operand_242 (t := 249) rfl (by have := zt_0; omega) ?_
              refine w_lo dX9_operand_249 rfl rfl rfl rfl ?_
              refine w_me (st' := [.long (131277443786868 : Int64), .ref 386]) dX9_operand_250 rfl rfl rfl rfl rfl ?_
              refine w_iv dX9_operand_253 rfl rfl (As := [.long (131277443786868 : Int64)]) rfl rfl hJ.1.1 zs_386 (Nat.le_of_ble_eq_true rfl) ?_
              refine ZV.of (ini := false) rfl (Nat.le_of_ble_eq_true rfl) (by decide +kernel) ?_
              show ZW _ _ _ _ _ _ _ (0, [some (.ref 386), some (.long (131277443786868 : Int64)), none], [], M)
              refine w_lo dX9_isWord_0 rfl rfl rfl rfl ?_
              refine w_gf dX9_isWord_1 rfl hJ.1.1 zs_386 f215 ?_
              refine w_ic dX9_isWord_4 zi_1 ?_
              refine w_cne_f dX9_isWord_5 (t := 21) rfl (by have := zt_1; omega) ?_
              refine w_lo dX9_isWord_8 rfl rfl rfl rfl ?_
              refine w_gf dX9_isWord_9 rfl hJ.1.1 zs_386 f313 ?_
              refine w_lo dX9_isWord_12 rfl rfl rfl rfl ?_
              refine w_lcm dX9_isWord_13 ?_
              intro x320 h321
              have := ztl_131277443786868
              replace hb : zHd _ := hb x320.toInt (by omega)
              rcases Int.decEq x320.toInt (0 : Int) with h322 | h322
              · skip
                replace hb : zHd _ := hb.1 h322
                refine w_ine_t dX9_isWord_14 (t := 21) rfl (by omega) ?_
                refine w_ic dX9_isWord_21 zi_0 ?_
                refine w_en dX9_isWord_22 rfl ?_
                show ZW _ _ _ _ _ _ _ (256, [some (.ref 386), some (.int u223_1), some (.int u223_2), o223_3], [.int 0], M)
                refine w_ieq_t dX9_operand_256 (t := 263) rfl (by have := zt_0; omega) ?_
                refine w_lo dX9_operand_263 rfl rfl rfl rfl ?_
                refine w_me (st' := [.long (431198598248 : Int64), .ref 386]) dX9_operand_264 rfl rfl rfl rfl rfl ?_
                refine w_iv dX9_operand_267 rfl rfl (As := [.long (431198598248 : Int64)]) rfl rfl hJ.1.1 zs_386 (Nat.le_of_ble_eq_true rfl) ?_
                refine ZV.of (ini := false) rfl (Nat.le_of_ble_eq_true rfl) (by decide +kernel) ?_
                show ZW _ _ _ _ _ _ _ (0, [some (.ref 386), some (.long (431198598248 : Int64)), none], [], M)
                refine w_lo dX9_isWord_0 rfl rfl rfl rfl ?_
                refine w_gf dX9_isWord_1 rfl hJ.1.1 zs_386 f215 ?_
                refine w_ic dX9_isWord_4 zi_1 ?_
                refine w_cne_f dX9_isWord_5 (t := 21) rfl (by have := zt_1; omega) ?_
                refine w_lo dX9_isWord_8 rfl rfl rfl rfl ?_
                refine w_gf dX9_isWord_9 rfl hJ.1.1 zs_386 f313 ?_
                refine w_lo dX9_isWord_12 rfl rfl rfl rfl ?_
                refine w_lcm dX9_isWord_13 ?_
                intro x323 h324
                have := ztl_431198598248
                replace hb : zHd _ := hb x323.toInt (by omega)
                rcases Int.decEq x323.toInt (0 : Int) with h325 | h325
                · skip
                  replace hb : zHd _ := hb.1 h325
                  refine w_ine_t dX9_isWord_14 (t := 21) rfl (by omega) ?_
                  refine w_ic dX9_isWord_21 zi_0 ?_
                  refine w_en dX9_isWord_22 rfl ?_
                  show ZW _ _ _ _ _ _ _ (270, [some (.ref 386), some (.int u223_1), some (.int u223_2), o223_3], [.int 0], M)
                  refine w_ieq_t dX9_operand_270 (t := 277) rfl (by have := zt_0; omega) ?_
                  refine w_lo dX9_operand_277 rfl rfl rfl rfl ?_
                  refine w_me (st' := [.long (482854658917 : Int64), .ref 386]) dX9_operand_278 rfl rfl rfl rfl rfl ?_
                  refine w_iv dX9_operand_281 rfl rfl (As := [.long (482854658917 : Int64)]) rfl rfl hJ.1.1 zs_386 (Nat.le_of_ble_eq_true rfl) ?_
                  refine ZV.of (ini := false) rfl (Nat.le_of_ble_eq_true rfl) (by decide +kernel) ?_
                  show ZW _ _ _ _ _ _ _ (0, [some (.ref 386), some (.long (482854658917 : Int64)), none], [], M)
                  refine w_lo dX9_isWord_0 rfl rfl rfl rfl ?_
                  refine w_gf dX9_isWord_1 rfl hJ.1.1 zs_386 f215 ?_
                  refine w_ic dX9_isWord_4 zi_1 ?_
                  refine w_cne_f dX9_isWord_5 (t := 21) rfl (by have := zt_1; omega) ?_
                  refine w_lo dX9_isWord_8 rfl rfl rfl rfl ?_
                  refine w_gf dX9_isWord_9 rfl hJ.1.1 zs_386 f313 ?_
                  refine w_lo dX9_isWord_12 rfl rfl rfl rfl ?_
                  refine w_lcm dX9_isWord_13 ?_
                  intro x326 h327
                  have := ztl_482854658917
                  replace hb : zHd _ := hb x326.toInt (by omega)
                  rcases Int.decEq x326.toInt (0 : Int) with h328 | h328
                  · skip
                    replace hb : zHd _ := hb.1 h328
                    refine w_ine_t dX9_isWord_14 (t := 21) rfl (by omega) ?_
                    refine w_ic dX9_isWord_21 zi_0 ?_
                    refine w_en dX9_isWord_22 rfl ?_
                    show ZW _ _ _ _ _ _ _ (284, [some (.ref 386), some (.int u223_1), some (.int u223_2), o223_3], [.int 0], M)
                    refine w_ieq_t dX9_operand_284 (t := 291) rfl (by have := zt_0; omega) ?_
                    refine w_lo dX9_operand_291 rfl rfl rfl rfl ?_
                    refine w_me (st' := [.long (120299592184933 : Int64), .ref 386]) dX9_operand_292 rfl rfl rfl rfl rfl ?_
                    refine w_iv dX9_operand_295 rfl rfl (As := [.long (120299592184933 : Int64)]) rfl rfl hJ.1.1 zs_386 (Nat.le_of_ble_eq_true rfl) ?_
                    refine ZV.of (ini := false) rfl (Nat.le_of_ble_eq_true rfl) (by decide +kernel) ?_
                    show ZW _ _ _ _ _ _ _ (0, [some (.ref 386), some (.long (120299592184933 : Int64)), none], [], M)
                    refine w_lo dX9_isWord_0 rfl rfl rfl rfl ?_
                    refine w_gf dX9_isWord_1 rfl hJ.1.1 zs_386 f215 ?_
                    refine w_ic dX9_isWord_4 zi_1 ?_
                    refine w_cne_f dX9_isWord_5 (t := 21) rfl (by have := zt_1; omega) ?_
                    refine w_lo dX9_isWord_8 rfl rfl rfl rfl ?_
                    refine w_gf dX9_isWord_9 rfl hJ.1.1 zs_386 f313 ?_
                    refine w_lo dX9_isWord_12 rfl rfl rfl rfl ?_
                    refine w_lcm dX9_isWord_13 ?_
                    intro x329 h330
                    have := ztl_120299592184933
                    replace hb : zHd _ := hb x329.toInt (by omega)
                    rcases Int.decEq x329.toInt (0 : Int) with h331 | h331
                    · skip
                      replace hb : zHd _ := hb.1 h331
                      refine w_ine_t dX9_isWord_14 (t := 21) rfl (by omega) ?_
                      refine w_ic dX9_isWord_21 zi_0 ?_
                      refine w_en dX9_isWord_22 rfl ?_
                      show ZW _ _ _ _ _ _ _ (298, [some (.ref 386), some (.int u223_1), some (.int u223_2), o223_3], [.int 0], M)
                      refine w_ieq_t dX9_operand_298 (t := 305) rfl (by have := zt_0; omega) ?_
                      refine w_lo dX9_operand_305 rfl rfl rfl rfl ?_
                      refine w_me (st' := [.long (108187867505765 : Int64), .ref 386]) dX9_operand_306 rfl rfl rfl rfl rfl ?_
                      refine w_iv dX9_operand_309 rfl rfl (As := [.long (108187867505765 : Int64)]) rfl rfl hJ.1.1 zs_386 (Nat.le_of_ble_eq_true rfl) ?_
                      refine ZV.of (ini := false) rfl (Nat.le_of_ble_eq_true rfl) (by decide +kernel) ?_
                      show ZW _ _ _ _ _ _ _ (0, [some (.ref 386), some (.long (108187867505765 : Int64)), none], [], M)
                      refine w_lo dX9_isWord_0 rfl rfl rfl rfl ?_
                      refine w_gf dX9_isWord_1 rfl hJ.1.1 zs_386 f215 ?_
                      refine w_ic dX9_isWord_4 zi_1 ?_
                      refine w_cne_f dX9_isWord_5 (t := 21) rfl (by have := zt_1; omega) ?_
                      refine w_lo dX9_isWord_8 rfl rfl rfl rfl ?_
                      refine w_gf dX9_isWord_9 rfl hJ.1.1 zs_386 f313 ?_
                      refine w_lo dX9_isWord_12 rfl rfl rfl rfl ?_
                      refine w_lcm dX9_isWord_13 ?_
                      intro x332 h333
                      have := ztl_108187867505765
                      replace hb : zHd _ := hb x332.toInt (by omega)
                      rcases Int.decEq x332.toInt (0 : Int) with h334 | h334
                      · skip
                        replace hb : zHd _ := hb.1 h334
                        refine w_ine_t dX9_isWord_14 (t := 21) rfl (by omega) ?_
                        refine w_ic dX9_isWord_21 zi_0 ?_
                        refine w_en dX9_isWord_22 rfl ?_
                        show ZW _ _ _ _ _ _ _ (312, [some (.ref 386), some (.int u223_1), some (.int u223_2), o223_3], [.int 0], M)
                        refine w_ieq_t dX9_operand_312 (t := 320) rfl (by have := zt_0; omega) ?_
                        refine w_lo dX9_operand_320 rfl rfl rfl rfl ?_
                        refine w_me (st' := [.long (1717922932 : Int64), .ref 386]) dX9_operand_321 rfl rfl rfl rfl rfl ?_
                        refine w_iv dX9_operand_324 rfl rfl (As := [.long (1717922932 : Int64)]) rfl rfl hJ.1.1 zs_386 (Nat.le_of_ble_eq_true rfl) ?_
                        refine ZV.of (ini := false) rfl (Nat.le_of_ble_eq_true rfl) (by decide +kernel) ?_
                        show ZW _ _ _ _ _ _ _ (0, [some (.ref 386), some (.long (1717922932 : Int64)), none], [], M)
                        refine w_lo dX9_isWord_0 rfl rfl rfl rfl ?_
                        refine w_gf dX9_isWord_1 rfl hJ.1.1 zs_386 f215 ?_
                        refine w_ic dX9_isWord_4 zi_1 ?_
                        refine w_cne_f dX9_isWord_5 (t := 21) rfl (by have := zt_1; omega) ?_
                        refine w_lo dX9_isWord_8 rfl rfl rfl rfl ?_
                        refine w_gf dX9_isWord_9 rfl hJ.1.1 zs_386 f313 ?_
                        refine w_lo dX9_isWord_12 rfl rfl rfl rfl ?_
                        refine w_lcm dX9_isWord_13 ?_
                        intro x335 h336
                        have := ztl_1717922932
                        replace hb : zHd _ := hb x335.toInt (by omega)
                        rcases Int.decEq x335.toInt (0 : Int) with h337 | h337
                        · skip
                          replace hb : zHd _ := hb.1 h337
                          refine w_ine_t dX9_isWord_14 (t := 21) rfl (by omega) ?_
                          refine w_ic dX9_isWord_21 zi_0 ?_
                          refine w_en dX9_isWord_22 rfl ?_
                          show ZW _ _ _ _ _ _ _ (327, [some (.ref 386), some (.int u223_1), some (.int u223_2), o223_3], [.int 0], M)
                          refine w_ieq_t dX9_operand_327 (t := 335) rfl (by have := zt_0; omega) ?_
                          refine w_ic dX9_operand_335 zi_m1 ?_
                          refine w_lo (ml' := [some (.ref 386), some (.int u223_1), some (.int u223_2), some (.int (-1))]) dX9_operand_336 rfl rfl rfl rfl ?_
                          obtain ⟨m, hm, hI⟩ := hb
                          exact (ih m hm).2.2.2.2.2.2.2.2.2 M u223_1 u223_2 (-1) hJ (by have := zt_m1; omega) (by have := zt_m1; omega) hI
                        · skip
                          replace hb : zHd _ := hb.2 h337
                          refine w_ine_f dX9_isWord_14 (t := 21) rfl (by omega) ?_
                          refine w_ic dX9_isWord_17 zi_1 ?_
                          refine w_gt dX9_isWord_18 (t := 22) rfl ?_
                          refine w_en dX9_isWord_22 rfl ?_
                          show ZW _ _ _ _ _ _ _ (327, [some (.ref 386), some (.int u223_1), some (.int u223_2), o223_3], [.int 1], M)
                          refine w_ieq_f dX9_operand_327 (t := 335) rfl (by have := zt_1; omega) ?_
                          refine w_bi dX9_operand_330 (c := 7) (by decide) ?_
                          refine w_gt dX9_operand_332 (t := 336) rfl ?_
                          refine w_lo (ml' := [some (.ref 386), some (.int u223_1), some (.int u223_2), some (.int 7)]) dX9_operand_336 rfl rfl rfl rfl ?_
                          obtain ⟨m, hm, hI⟩ := hb
                          exact (ih m hm).2.2.2.2.2.2.2.2.2 M u223_1 u223_2 7 hJ (by have := zt_7; omega) (by have := zt_7; omega) hI
                      · skip
                        replace hb : zHd _ := hb.2 h334
                        refine w_ine_f dX9_isWord_14 (t := 21) rfl (by omega) ?_
                        refine w_ic dX9_isWord_17 zi_1 ?_
                        refine w_gt dX9_isWord_18 (t := 22) rfl ?_
                        refine w_en dX9_isWord_22 rfl ?_
                        show ZW _ _ _ _ _ _ _ (312, [some (.ref 386), some (.int u223_1), some (.int u223_2), o223_3], [.int 1], M)
                        refine w_ieq_f dX9_operand_312 (t := 320) rfl (by have := zt_1; omega) ?_
                        refine w_bi dX9_operand_315 (c := 6) (by decide) ?_
                        refine w_gt dX9_operand_317 (t := 336) rfl ?_
                        refine w_lo (ml' := [some (.ref 386), some (.int u223_1), some (.int u223_2), some (.int 6)]) dX9_operand_336 rfl rfl rfl rfl ?_
                        obtain ⟨m, hm, hI⟩ := hb
                        exact (ih m hm).2.2.2.2.2.2.2.2.2 M u223_1 u223_2 6 hJ (by have := zt_6; omega) (by have := zt_6; omega) hI
                    · skip
                      replace hb : zHd _ := hb.2 h331
                      refine w_ine_f dX9_isWord_14 (t := 21) rfl (by omega) ?_
                      refine w_ic dX9_isWord_17 zi_1 ?_
                      refine w_gt dX9_isWord_18 (t := 22) rfl ?_
                      refine w_en dX9_isWord_22 rfl ?_
                      show ZW _ _ _ _ _ _ _ (298, [some (.ref 386), some (.int u223_1), some (.int u223_2), o223_3], [.int 1], M)
                      refine w_ieq_f dX9_operand_298 (t := 305) rfl (by have := zt_1; omega) ?_
                      refine w_ic dX9_operand_301 zi_5 ?_
                      refine w_gt dX9_operand_302 (t := 336) rfl ?_
                      refine w_lo (ml' := [some (.ref 386), some (.int u223_1), some (.int u223_2), some (.int 5)]) dX9_operand_336 rfl rfl rfl rfl ?_
                      obtain ⟨m, hm, hI⟩ := hb
                      exact (ih m hm).2.2.2.2.2.2.2.2.2 M u223_1 u223_2 5 hJ (by have := zt_5; omega) (by have := zt_5; omega) hI
                  · skip
                    replace hb : zHd _ := hb.2 h328
                    refine w_ine_f dX9_isWord_14 (t := 21) rfl (by omega) ?_
                    refine w_ic dX9_isWord_17 zi_1 ?_
                    refine w_gt dX9_isWord_18 (t := 22) rfl ?_
                    refine w_en dX9_isWord_22 rfl ?_
                    show ZW _ _ _ _ _ _ _ (284, [some (.ref 386), some (.int u223_1), some (.int u223_2), o223_3], [.int 1], M)
                    refine w_ieq_f dX9_operand_284 (t := 291) rfl (by have := zt_1; omega) ?_
                    refine w_ic dX9_operand_287 zi_4 ?_
                    refine w_gt dX9_operand_288 (t := 336) rfl ?_
                    refine w_lo (ml' := [some (.ref 386), some (.int u223_1), some (.int u223_2), some (.int 4)]) dX9_operand_336 rfl rfl rfl rfl ?_
                    obtain ⟨m, hm, hI⟩ := hb
                    exact (ih m hm).2.2.2.2.2.2.2.2.2 M u223_1 u223_2 4 hJ (by have := zt_4; omega) (by have := zt_4; omega) hI
                · skip
                  replace hb : zHd _ := hb.2 h325
                  refine w_ine_f dX9_isWord_14 (t := 21) rfl (by omega) ?_
                  refine w_ic dX9_isWord_17 zi_1 ?_
                  refine w_gt dX9_isWord_18 (t := 22) rfl ?_
                  refine w_en dX9_isWord_22 rfl ?_
                  show ZW _ _ _ _ _ _ _ (270, [some (.ref 386), some (.int u223_1), some (.int u223_2), o223_3], [.int 1], M)
                  refine w_ieq_f dX9_operand_270 (t := 277) rfl (by have := zt_1; omega) ?_
                  refine w_ic dX9_operand_273 zi_3 ?_
                  refine w_gt dX9_operand_274 (t := 336) rfl ?_
                  refine w_lo (ml' := [some (.ref 386), some (.int u223_1), some (.int u223_2), some (.int 3)]) dX9_operand_336 rfl rfl rfl rfl ?_
                  obtain ⟨m, hm, hI⟩ := hb
                  exact (ih m hm).2.2.2.2.2.2.2.2.2 M u223_1 u223_2 3 hJ (by have := zt_3; omega) (by have := zt_3; omega) hI
              · skip
                replace hb : zHd _ := hb.2 h322
                refine w_ine_f dX9_isWord_14 (t := 21) rfl (by omega) ?_
                refine w_ic dX9_isWord_17 zi_1 ?_
                refine w_gt dX9_isWord_18 (t := 22) rfl ?_
                refine w_en dX9_isWord_22 rfl ?_
                show ZW _ _ _ _ _ _ _ (256, [some (.ref 386), some (.int u223_1), some (.int u223_2), o223_3], [.int 1], M)
                refine w_ieq_f dX9_operand_256 (t := 263) rfl (by have := zt_1; omega) ?_
                refine w_ic dX9_operand_259 zi_2 ?_
                refine w_gt dX9_operand_260 (t := 336) rfl ?_
                refine w_lo (ml' := [some (.ref 386), some (.int u223_1), some (.int u223_2), some (.int 2)]) dX9_operand_336 rfl rfl rfl rfl ?_
                obtain ⟨m, hm, hI⟩ := hb
                exact (ih m hm).2.2.2.2.2.2.2.2.2 M u223_1 u223_2 2 hJ (by have := zt_2; omega) (by have := zt_2; omega) hI
            · skip
              replace hb : zHd _ := hb.2 h319
              refine w_ine_f dX9_isWord_14 (t := 21) rfl (by omega) ?_
              refine w_ic dX9_isWord_17 zi_1 ?_
              refine w_gt dX9_isWord_18 (t := 22) rfl ?_
              refine w_en dX9_isWord_22 rfl ?_
              show ZW _ _ _ _ _ _ _ (242, [some (.ref 386), some (.int u223_1), some (.int u223_2), o223_3], [.int 1], M)
              refine w_ieq_f dX9_operand_242 (t := 249) rfl (by have := zt_1; omega) ?_
              refine w_ic dX9_operand_245 zi_1 ?_
              refine w_gt dX9_operand_246 (t := 336) rfl ?_
              refine w_lo (ml' := [some (.ref 386), some (.int u223_1), some (.int u223_2), some (.int 1)]) dX9_operand_336 rfl rfl rfl rfl ?_
              obtain ⟨m, hm, hI⟩ := hb
              exact (ih m hm).2.2.2.2.2.2.2.2.2 M u223_1 u223_2 1 hJ (by have := zt_1; omega) (by have := zt_1; omega) hI
        · skip
          replace hb : zHd _ := hb.2 h218
          refine w_cne_f dX9_operand_228 (t := 235) rfl (by have := zt_2; omega) ?_
          refine w_ic dX9_operand_231 zi_0 ?_
          refine w_gt dX9_operand_232 (t := 336) rfl ?_
          refine w_lo (ml' := [some (.ref 386), some (.int u223_1), some (.int u223_2), some (.int 0)]) dX9_operand_336 rfl rfl rfl rfl ?_
          obtain ⟨m, hm, hI⟩ := hb
          exact (ih m hm).2.2.2.2.2.2.2.2.2 M u223_1 u223_2 0 hJ (by have := zt_0; omega) (by have := zt_0; omega) hI
      · intro M u337_1 u337_2 v337_3 hJ v337_30 v337_31 hI
        have hb : zHd _ := hb337 n (zi M) v337_3.toInt (zi_fr hJ.2) v337_30 v337_31 hI
        refine w_lo dX9_operand_337 rfl rfl rfl rfl ?_
        refine w_ic dX9_operand_338 zi_m1 ?_
        rcases Int.decEq v337_3.toInt (-1 : Int) with h338 | h338
        · skip
          replace hb : zHd _ := hb.1 h338
          refine w_cne_t dX9_operand_339 (t := 351) rfl (by have := zt_m1; omega) ?_
          refine w_lo dX9_operand_351 rfl rfl rfl rfl ?_
          refine w_gfi dX9_operand_352 rfl hJ.1 zs_386 (Nat.le_of_ble_eq_true rfl) zo_386_8 ?_
          intro x339 f340 h341 h342
          replace hb : zHd _ := hb x339.toInt (ziE f340) h341 h342
          rcases zcut (0 : Int) x339.toInt with h343 | h343
          · skip
            replace hb : zHd _ := hb.1 h343
            refine w_ile_f dX9_operand_355 (t := 360) rfl (by omega) ?_
            refine w_ic dX9_operand_358 zi_1 ?_
            refine w_en dX9_operand_359 rfl ?_
            exact ⟨_, _, rfl, (by have := zt_1; omega), (by have := zt_1; omega), hJ, hb⟩
          · skip
            replace hb : zHd _ := hb.2 h343
            refine w_ile_t dX9_operand_355 (t := 360) rfl (by omega) ?_
            refine w_lo dX9_operand_360 rfl rfl rfl rfl ?_
            refine w_lo dX9_operand_361 rfl rfl rfl rfl ?_
            refine w_lo dX9_operand_362 rfl rfl rfl rfl ?_
            refine w_gfi dX9_operand_363 rfl hJ.1 zs_386 (Nat.le_of_ble_eq_true rfl) zo_386_6 ?_
            intro x344 f345 h346 h347
            replace hb : zHd _ := hb x344.toInt (ziE f345)
            refine w_iv dX9_operand_366 rfl rfl (As := [.int v337_3, .int x344]) rfl rfl hJ.1.1 zs_386 (Nat.le_of_ble_eq_true rfl) ?_
            obtain ⟨P350, hp351, hb⟩ := hb
            replace hb : zHd _ := hb
            refine ZV.imp (u_2335 v337_3 x344 hN hJ.1 hp351) ?_
            rintro _ ⟨M348, rfl, hJ349, hq352⟩
            replace hb : zHd _ := hb  (zi M348) (zi_fr hJ349.2) hq352
            have hJ354 := zJ_trans hJ hJ349 (zSub_cons (fun _ _ h h' hk => zIR_a (by omega) (by omega)) (zSub_cons (fun _ _ h h' hk => zIR_s (zIR_s (zIR_e (by omega) (by omega) hk))) zSub_nil))
            show ZW _ _ _ _ _ _ _ (369, [some (.ref 386), some (.int u337_1), some (.int u337_2), some (.int v337_3)], [], M348)
            refine w_lo dX9_operand_369 rfl rfl rfl rfl ?_
            refine w_iv dX9_operand_370 rfl rfl (As := []) rfl rfl hJ354.1.1 zs_386 (Nat.le_of_ble_eq_true rfl) ?_
            obtain ⟨P357, hp358, hb⟩ := hb
            replace hb : zHd _ := hb
            refine ZV.imp (u_2310 hN hJ354.1 hp358) ?_
            rintro _ ⟨M355, rfl, hJ356, hq359⟩
            replace hb : zHd _ := hb  (zi M355) (zi_fr hJ356.2) hq359
            have hJ361 := zJ_trans hJ354 hJ356 (zSub_cons (fun _ _ h h' hk => zIR_s (zIR_e (by omega) (by omega) hk)) (zSub_cons (fun _ _ h h' hk => zIR_s (zIR_s (zIR_s (zIR_e (by omega) (by omega) hk)))) (zSub_cons (fun _ _ h h' hk => zIR_s (zIR_s (zIR_s (zIR_s (zIR_s (zIR_s (zIR_s (zIR_e (by omega) (by omega) hk)))))))) (zSub_cons (fun _ _ h h' hk => zIR_s (zIR_s (zIR_s (zIR_s (zIR_s (zIR_s (zIR_s (zIR_s (zIR_e (by omega) (by omega) hk))))))))) (zSub_cons (fun _ _ h h' hk => zIR_s (zIR_s (zIR_s (zIR_s (zIR_s (zIR_s (zIR_s (zIR_s (zIR_s (zIR_e (by omega) (by omega) hk)))))))))) (zSub_cons (fun _ _ h h' hk => zIR_s (zIR_s (zIR_s (zIR_s (zIR_s (zIR_s (zIR_s (zIR_s (zIR_s (zIR_s (zIR_e (by omega) (by omega) hk))))))))))) (zSub_cons (fun _ _ h h' hk => zIR_s (zIR_s (zIR_s (zIR_s (zIR_s (zIR_s (zIR_s (zIR_s (zIR_s (zIR_s (zIR_s (zIR_e (by omega) (by omega) hk)))))))))))) zSub_nil)))))))
            show ZW _ _ _ _ _ _ _ (373, [some (.ref 386), some (.int u337_1), some (.int u337_2), some (.int v337_3)], [], M355)
            refine w_ic dX9_operand_373 zi_1 ?_
            refine w_en dX9_operand_374 rfl ?_
            exact ⟨_, _, rfl, (by have := zt_1; omega), (by have := zt_1; omega), hJ361, hb⟩
        · skip
          replace hb : zHd _ := hb.2 h338
          refine w_cne_f dX9_operand_339 (t := 351) rfl (by have := zt_m1; omega) ?_
          refine w_lo dX9_operand_342 rfl rfl rfl rfl ?_
          refine w_ic dX9_operand_343 zi_1 ?_
          refine w_lo dX9_operand_344 rfl rfl rfl rfl ?_
          refine w_gfi dX9_operand_345 rfl hJ.1 zs_386 (Nat.le_of_ble_eq_true rfl) zo_386_4 ?_
          intro x362 f363 h364 h365
          replace hb : zHd _ := hb x362.toInt (ziE f363) h364 h365
          refine w_iv dX9_operand_348 rfl rfl (As := [.int 1, .int x362]) rfl rfl hJ.1.1 zs_386 (Nat.le_of_ble_eq_true rfl) ?_
          refine ZV.of (ini := false) rfl (Nat.le_of_ble_eq_true rfl) (by decide +kernel) ?_
          show ZW _ _ _ _ _ _ _ (0, [some (.ref 386), some (.int 1), some (.int x362)], [], M)
          refine w_lo dX9_blame_0 rfl rfl rfl rfl ?_
          refine w_gfi dX9_blame_1 rfl hJ.1 zs_386 (Nat.le_of_ble_eq_true rfl) zo_386_8 ?_
          intro x366 f367 h368 h369
          replace hb : zHd _ := hb x366.toInt (ziE f367) h368 h369
          rcases zcut (0 : Int) x366.toInt with h370 | h370
          · skip
            replace hb : zHd _ := hb.1 h370
            refine w_ile_f dX9_blame_4 (t := 8) rfl (by omega) ?_
            refine w_en dX9_blame_7 rfl ?_
            show ZW _ _ _ _ _ _ _ (351, [some (.ref 386), some (.int u337_1), some (.int u337_2), some (.int v337_3)], [], M)
            refine w_lo dX9_operand_351 rfl rfl rfl rfl ?_
            refine w_gf dX9_operand_352 rfl hJ.1.1 zs_386 f367 ?_
            refine w_ile_f dX9_operand_355 (t := 360) rfl (by omega) ?_
            refine w_ic dX9_operand_358 zi_1 ?_
            refine w_en dX9_operand_359 rfl ?_
            exact ⟨_, _, rfl, (by have := zt_1; omega), (by have := zt_1; omega), hJ, hb⟩
          · skip
            replace hb : zHd _ := hb.2 h370
            refine w_ile_t dX9_blame_4 (t := 8) rfl (by omega) ?_
            refine w_lo dX9_blame_8 rfl rfl rfl rfl ?_
            refine w_lo dX9_blame_9 rfl rfl rfl rfl ?_
            refine w_pfi dX9_blame_10 rfl hJ zs_386 (Nat.le_of_ble_eq_true rfl) zo_386_8 (by have := zt_1; omega) (by have := zt_1; omega) (zIR_s (zIR_s (zIR_s (zIR_s (zIR_s (zIR_s (zIR_s (zIR_s (zIR_s (zIR_s (zIR_k (by omega) (by omega)))))))))))) rfl rfl rfl ?_
            intro M371 hJ372 f373 hn374
            replace hb : zHd _ := hb (zi M371) (zi_zup hn374 f373 rfl zt_1)
            refine w_lo dX9_blame_13 rfl rfl rfl rfl ?_
            refine w_lo dX9_blame_14 rfl rfl rfl rfl ?_
            refine w_pfi dX9_blame_15 rfl hJ372 zs_386 (Nat.le_of_ble_eq_true rfl) zo_386_9 (by omega) (by omega) (zIR_s (zIR_s (zIR_s (zIR_s (zIR_s (zIR_s (zIR_s (zIR_s (zIR_s (zIR_s (zIR_s (zIR_k (by omega) (by omega))))))))))))) rfl rfl rfl ?_
            intro M376 hJ377 f378 hn379
            replace hb : zHd _ := hb (zi M376) (zi_zup hn379 f378 rfl rfl)
            refine w_en dX9_blame_18 rfl ?_
            show ZW _ _ _ _ _ _ _ (351, [some (.ref 386), some (.int u337_1), some (.int u337_2), some (.int v337_3)], [], M376)
            refine w_lo dX9_operand_351 rfl rfl rfl rfl ?_
            have f381 := (hn379 (386) 8 (Or.inr (by decide))).trans (f373)
            refine w_gf dX9_operand_352 rfl hJ377.1.1 zs_386 f381 ?_
            refine w_ile_f dX9_operand_355 (t := 360) rfl (by have := zt_1; omega) ?_
            refine w_ic dX9_operand_358 zi_1 ?_
            refine w_en dX9_operand_359 rfl ?_
            exact ⟨_, _, rfl, (by have := zt_1; omega), (by have := zt_1; omega), hJ377, hb⟩
  have hb : zHd _ := hbE
  show ZW _ _ _ _ _ _ _ (0, [some (.ref 386), none, none, none], [], M0)
  refine w_lo dX9_operand_0 rfl rfl rfl rfl ?_
  refine w_gfi dX9_operand_1 rfl hJ0.1 zs_386 (Nat.le_of_ble_eq_true rfl) zo_386_41 ?_
  intro x382 f383 h384 h385
  replace hb : zHd _ := hb x382.toInt (ziE f383) h384 h385
  refine w_ic dX9_operand_4 zi_1 ?_
  refine w_sub dX9_operand_5 (by have := zt_1; omega) ?_
  intro x386 h387
  have := zt_1
  replace hb : zHd _ := hb x386.toInt (by have := zt_1; omega)
  refine w_lo (ml' := [some (.ref 386), some (.int x386), none, none]) dX9_operand_6 rfl rfl rfl rfl ?_
  refine w_lo dX9_operand_7 rfl rfl rfl rfl ?_
  refine w_gf dX9_operand_8 rfl hJ0.1.1 zs_386 (zr_386_36 hJ0.1) ?_
  refine w_lo dX9_operand_11 rfl rfl rfl rfl ?_
  have h388 := hb.1
  replace hb : zHd _ := hb.2
  refine w_iai dX9_operand_12 hJ0.1 zs_409 (by omega) (by omega) zu_409 ?_
  intro x392 f389 h390 h391
  replace hb : zHd _ := hb x392.toInt (ziEk f389 rfl) h390 h391
  refine w_ss dX9_operand_13 rfl rfl (As := [.int x392]) rfl rfl (Nat.le_of_ble_eq_true rfl) ?_
  refine ZV.of (ini := false) rfl (Nat.le_of_ble_eq_true rfl) (by decide +kernel) ?_
  show ZW _ _ _ _ _ _ _ (0, [some (.int x392)], [], M0)
  refine w_lo dX9_isTest_0 rfl rfl rfl rfl ?_
  refine w_ic dX9_isTest_1 zi_1 ?_
  rcases Int.decEq x392.toInt (1 : Int) with h393 | h393
  · skip
    replace hb : zHd _ := hb.1 h393
    refine w_ceq_f dX9_isTest_2 (t := 10) rfl (by have := zt_1; omega) ?_
    refine w_lo dX9_isTest_5 rfl rfl rfl rfl ?_
    refine w_ic dX9_isTest_6 zi_5 ?_
    rcases Int.decEq x392.toInt (5 : Int) with h394 | h394
    · skip
      replace hb : zHd _ := hb.1 h394
      refine w_cne_t dX9_isTest_7 (t := 14) rfl (by have := zt_5; omega) ?_
      refine w_ic dX9_isTest_14 zi_0 ?_
      refine w_en dX9_isTest_15 rfl ?_
      show ZW _ _ _ _ _ _ _ (16, [some (.ref 386), some (.int x386), none, none], [.int 0], M0)
      refine w_ieq_t dX9_operand_16 (t := 32) rfl (by have := zt_0; omega) ?_
      refine w_ic dX9_operand_32 zi_0 ?_
      refine w_lo (ml' := [some (.ref 386), some (.int x386), some (.int 0), none]) dX9_operand_33 rfl rfl rfl rfl ?_
      obtain ⟨m, hI⟩ := hb
      exact (main m).1 M0 x386 0 none hJ0 (by omega) (by omega) (by have := zt_0; omega) (by have := zt_0; omega) hI
    · skip
      replace hb : zHd _ := hb.2 h394
      refine w_cne_f dX9_isTest_7 (t := 14) rfl (by have := zt_5; omega) ?_
      refine w_ic dX9_isTest_10 zi_1 ?_
      refine w_gt dX9_isTest_11 (t := 15) rfl ?_
      refine w_en dX9_isTest_15 rfl ?_
      show ZW _ _ _ _ _ _ _ (16, [some (.ref 386), some (.int x386), none, none], [.int 1], M0)
      refine w_ieq_f dX9_operand_16 (t := 32) rfl (by have := zt_1; omega) ?_
      refine w_lo dX9_operand_19 rfl rfl rfl rfl ?_
      refine w_gf dX9_operand_20 rfl hJ0.1.1 zs_386 (zr_386_38 hJ0.1) ?_
      refine w_lo dX9_operand_23 rfl rfl rfl rfl ?_
      refine w_bai dX9_operand_24 hJ0.1 zs_411 (by omega) (by omega) zu_411 ?_
      intro x398 f395 h396 h397
      replace hb : zHd _ := hb x398.toInt (ziEk f395 rfl) h396 h397
      rcases Int.decEq x398.toInt (0 : Int) with h399 | h399
      · skip
        replace hb : zHd _ := hb.1 h399
        refine w_ieq_f dX9_operand_25 (t := 32) rfl (by omega) ?_
        refine w_ic dX9_operand_28 zi_1 ?_
        refine w_gt dX9_operand_29 (t := 33) rfl ?_
        refine w_lo (ml' := [some (.ref 386), some (.int x386), some (.int 1), none]) dX9_operand_33 rfl rfl rfl rfl ?_
        obtain ⟨m, hI⟩ := hb
        exact (main m).1 M0 x386 1 none hJ0 (by omega) (by omega) (by have := zt_1; omega) (by have := zt_1; omega) hI
      · skip
        replace hb : zHd _ := hb.2 h399
        refine w_ieq_t dX9_operand_25 (t := 32) rfl (by omega) ?_
        refine w_ic dX9_operand_32 zi_0 ?_
        refine w_lo (ml' := [some (.ref 386), some (.int x386), some (.int 0), none]) dX9_operand_33 rfl rfl rfl rfl ?_
        obtain ⟨m, hI⟩ := hb
        exact (main m).1 M0 x386 0 none hJ0 (by omega) (by omega) (by have := zt_0; omega) (by have := zt_0; omega) hI
  · skip
    replace hb : zHd _ := hb.2 h393
    refine w_ceq_t dX9_isTest_2 (t := 10) rfl (by have := zt_1; omega) ?_
    refine w_ic dX9_isTest_10 zi_1 ?_
    refine w_gt dX9_isTest_11 (t := 15) rfl ?_
    refine w_en dX9_isTest_15 rfl ?_
    show ZW _ _ _ _ _ _ _ (16, [some (.ref 386), some (.int x386), none, none], [.int 1], M0)
    refine w_ieq_f dX9_operand_16 (t := 32) rfl (by have := zt_1; omega) ?_
    refine w_lo dX9_operand_19 rfl rfl rfl rfl ?_
    refine w_gf dX9_operand_20 rfl hJ0.1.1 zs_386 (zr_386_38 hJ0.1) ?_
    refine w_lo dX9_operand_23 rfl rfl rfl rfl ?_
    refine w_bai dX9_operand_24 hJ0.1 zs_411 (by omega) (by omega) zu_411 ?_
    intro x403 f400 h401 h402
    replace hb : zHd _ := hb x403.toInt (ziEk f400 rfl) h401 h402
    rcases Int.decEq x403.toInt (0 : Int) with h404 | h404
    · skip
      replace hb : zHd _ := hb.1 h404
      refine w_ieq_f dX9_operand_25 (t := 32) rfl (by omega) ?_
      refine w_ic dX9_operand_28 zi_1 ?_
      refine w_gt dX9_operand_29 (t := 33) rfl ?_
      refine w_lo (ml' := [some (.ref 386), some (.int x386), some (.int 1), none]) dX9_operand_33 rfl rfl rfl rfl ?_
      obtain ⟨m, hI⟩ := hb
      exact (main m).1 M0 x386 1 none hJ0 (by omega) (by omega) (by have := zt_1; omega) (by have := zt_1; omega) hI
    · skip
      replace hb : zHd _ := hb.2 h404
      refine w_ieq_t dX9_operand_25 (t := 32) rfl (by omega) ?_
      refine w_ic dX9_operand_32 zi_0 ?_
      refine w_lo (ml' := [some (.ref 386), some (.int x386), some (.int 0), none]) dX9_operand_33 rfl rfl rfl rfl ?_
      obtain ⟨m, hI⟩ := hb
      exact (main m).1 M0 x386 0 none hJ0 (by omega) (by omega) (by have := zt_0; omega) (by have := zt_0; omega) hI
set_option maxRecDepth 100000 in
theorem u_2338 {X : List Int32} {d N : Nat} {M0 : zM} (a0 : Int32) (hN : N ≤ 600) (hB0 : zB N M0) {Q : Int → zF → Prop} (hb : b_2338 (zi M0) a0.toInt Q) : ZV X (d + 1) 2338 [.int a0] M0 (zRI N [] M0 (1) (6) (fun v M' => Q v.toInt (zi M'))) := by
  have hJ0 : zJ N [] M0 M0 := zJ_refl hB0
  refine ZV.of (ini := false) rfl (Nat.le_of_ble_eq_true rfl) (by decide +kernel) ?_
  unfold b_2338 at hb
  replace hb : zHd _ := hb
  show ZW _ _ _ _ _ _ _ (0, [some (.int a0)], [], M0)
  refine w_lo dX9_rank_0 rfl rfl rfl rfl ?_
  refine w_bi dX9_rank_1 (c := 21) (by decide) ?_
  rcases Int.decEq a0.toInt (21 : Int) with h1 | h1
  · skip
    replace hb : zHd _ := hb.1 h1
    refine w_cne_t dX9_rank_3 (t := 10) rfl (by have := zt_21; omega) ?_
    refine w_lo dX9_rank_10 rfl rfl rfl rfl ?_
    refine w_bi dX9_rank_11 (c := 20) (by decide) ?_
    rcases Int.decEq a0.toInt (20 : Int) with h2 | h2
    · skip
      replace hb : zHd _ := hb.1 h2
      refine w_cne_t dX9_rank_13 (t := 20) rfl (by have := zt_20; omega) ?_
      refine w_lo dX9_rank_20 rfl rfl rfl rfl ?_
      refine w_bi dX9_rank_21 (c := 22) (by decide) ?_
      rcases Int.decEq a0.toInt (22 : Int) with h3 | h3
      · skip
        replace hb : zHd _ := hb.1 h3
        refine w_cne_t dX9_rank_23 (t := 30) rfl (by have := zt_22; omega) ?_
        refine w_lo dX9_rank_30 rfl rfl rfl rfl ?_
        refine w_bi dX9_rank_31 (c := 17) (by decide) ?_
        rcases Int.decEq a0.toInt (17 : Int) with h4 | h4
        · skip
          replace hb : zHd _ := hb.1 h4
          refine w_ceq_f dX9_rank_33 (t := 48) rfl (by have := zt_17; omega) ?_
          refine w_lo dX9_rank_36 rfl rfl rfl rfl ?_
          refine w_bi dX9_rank_37 (c := 18) (by decide) ?_
          rcases Int.decEq a0.toInt (18 : Int) with h5 | h5
          · skip
            replace hb : zHd _ := hb.1 h5
            refine w_ceq_f dX9_rank_39 (t := 48) rfl (by have := zt_18; omega) ?_
            refine w_lo dX9_rank_42 rfl rfl rfl rfl ?_
            refine w_bi dX9_rank_43 (c := 19) (by decide) ?_
            rcases Int.decEq a0.toInt (19 : Int) with h6 | h6
            · skip
              replace hb : zHd _ := hb.1 h6
              refine w_cne_t dX9_rank_45 (t := 52) rfl (by have := zt_19; omega) ?_
              refine w_lo dX9_rank_52 rfl rfl rfl rfl ?_
              refine w_bi dX9_rank_53 (c := 10) (by decide) ?_
              rcases Int.decEq a0.toInt (10 : Int) with h7 | h7
              · skip
                replace hb : zHd _ := hb.1 h7
                refine w_ceq_f dX9_rank_55 (t := 64) rfl (by have := zt_10; omega) ?_
                refine w_lo dX9_rank_58 rfl rfl rfl rfl ?_
                refine w_bi dX9_rank_59 (c := 11) (by decide) ?_
                rcases Int.decEq a0.toInt (11 : Int) with h8 | h8
                · skip
                  replace hb : zHd _ := hb.1 h8
                  refine w_cne_t dX9_rank_61 (t := 68) rfl (by have := zt_11; omega) ?_
                  refine w_bi dX9_rank_68 (c := 6) (by decide) ?_
                  refine w_en dX9_rank_70 rfl ?_
                  exact ⟨_, _, rfl, (by have := zt_6; omega), (by have := zt_6; omega), hJ0, hb⟩
                · skip
                  replace hb : zHd _ := hb.2 h8
                  refine w_cne_f dX9_rank_61 (t := 68) rfl (by have := zt_11; omega) ?_
                  refine w_ic dX9_rank_64 zi_5 ?_
                  refine w_gt dX9_rank_65 (t := 70) rfl ?_
                  refine w_en dX9_rank_70 rfl ?_
                  exact ⟨_, _, rfl, (by have := zt_5; omega), (by have := zt_5; omega), hJ0, hb⟩
              · skip
                replace hb : zHd _ := hb.2 h7
                refine w_ceq_t dX9_rank_55 (t := 64) rfl (by have := zt_10; omega) ?_
                refine w_ic dX9_rank_64 zi_5 ?_
                refine w_gt dX9_rank_65 (t := 70) rfl ?_
                refine w_en dX9_rank_70 rfl ?_
                exact ⟨_, _, rfl, (by have := zt_5; omega), (by have := zt_5; omega), hJ0, hb⟩
            · skip
              replace hb : zHd _ := hb.2 h6
              refine w_cne_f dX9_rank_45 (t := 52) rfl (by have := zt_19; omega) ?_
              refine w_ic dX9_rank_48 zi_4 ?_
              refine w_gt dX9_rank_49 (t := 70) rfl ?_
              refine w_en dX9_rank_70 rfl ?_
              exact ⟨_, _, rfl, (by have := zt_4; omega), (by have := zt_4; omega), hJ0, hb⟩
          · skip
            replace hb : zHd _ := hb.2 h5
            refine w_ceq_t dX9_rank_39 (t := 48) rfl (by have := zt_18; omega) ?_
            refine w_ic dX9_rank_48 zi_4 ?_
            refine w_gt dX9_rank_49 (t := 70) rfl ?_
            refine w_en dX9_rank_70 rfl ?_
            exact ⟨_, _, rfl, (by have := zt_4; omega), (by have := zt_4; omega), hJ0, hb⟩
        · skip
          replace hb : zHd _ := hb.2 h4
          refine w_ceq_t dX9_rank_33 (t := 48) rfl (by have := zt_17; omega) ?_
          refine w_ic dX9_rank_48 zi_4 ?_
          refine w_gt dX9_rank_49 (t := 70) rfl ?_
          refine w_en dX9_rank_70 rfl ?_
          exact ⟨_, _, rfl, (by have := zt_4; omega), (by have := zt_4; omega), hJ0, hb⟩
      · skip
        replace hb : zHd _ := hb.2 h3
        refine w_cne_f dX9_rank_23 (t := 30) rfl (by have := zt_22; omega) ?_
        refine w_ic dX9_rank_26 zi_3 ?_
        refine w_gt dX9_rank_27 (t := 70) rfl ?_
        refine w_en dX9_rank_70 rfl ?_
        exact ⟨_, _, rfl, (by have := zt_3; omega), (by have := zt_3; omega), hJ0, hb⟩
    · skip
      replace hb : zHd _ := hb.2 h2
      refine w_cne_f dX9_rank_13 (t := 20) rfl (by have := zt_20; omega) ?_
      refine w_ic dX9_rank_16 zi_2 ?_
      refine w_gt dX9_rank_17 (t := 70) rfl ?_
      refine w_en dX9_rank_70 rfl ?_
      exact ⟨_, _, rfl, (by have := zt_2; omega), (by have := zt_2; omega), hJ0, hb⟩
  · skip
    replace hb : zHd _ := hb.2 h1
    refine w_cne_f dX9_rank_3 (t := 10) rfl (by have := zt_21; omega) ?_
    refine w_ic dX9_rank_6 zi_1 ?_
    refine w_gt dX9_rank_7 (t := 70) rfl ?_
    refine w_en dX9_rank_70 rfl ?_
    exact ⟨_, _, rfl, (by have := zt_1; omega), (by have := zt_1; omega), hJ0, hb⟩
