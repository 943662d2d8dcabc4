/-! the reference's methods come to an end, within the box (wip/safe/mks.py) -/
set_option maxHeartbeats 20000000 in
set_option maxRecDepth 100000 in
theorem k_2325 {X : List Int32} {d N : Nat} {M0 : zM} (sz : Int32) (hfsz : zvl M0 (386) 2 = some (.int sz)) (hrsz0 : 0 ≤ sz.toInt) (hrsz1 : sz.toInt ≤ 1600) (sg : Int32) (hfsg : zvl M0 (386) 3 = some (.int sg)) (hrsg0 : 0 ≤ sg.toInt) (hrsg1 : sg.toInt ≤ 3) (se : Int32) (hfse : zvl M0 (386) 5 = some (.int se)) (hrse0 : 0 ≤ se.toInt) (hrse1 : se.toInt ≤ sz.toInt) (fk : Int32) (hffk : zvl M0 (386) 8 = some (.int fk)) (hrfk0 : 0 ≤ fk.toInt) (hrfk1 : fk.toInt ≤ 5) (hN : N ≤ 600) (hB0 : zB N M0) : ZV X (d + 4) 2325 [.ref 386] M0 (zRV N [(395, 396, 1000), (386, 387, 3), (386, 387, 4), (386, 387, 5), (386, 387, 6), (386, 387, 7), (386, 387, 8), (386, 387, 9)] M0 (fun M' => (∃ nz : Int32, zvl M' (386) 2 = some (.int nz) ∧ (nz.toInt = sz.toInt) ∧ (∃ ng : Int32, zvl M' (386) 3 = some (.int ng) ∧ (0 ≤ ng.toInt) ∧ (ng.toInt ≤ 3) ∧ (∃ ne : Int32, zvl M' (386) 5 = some (.int ne) ∧ (se.toInt ≤ ne.toInt) ∧ (ne.toInt ≤ sz.toInt) ∧ (4 * (sz.toInt - ne.toInt) + ng.toInt ≤ 4 * (sz.toInt - se.toInt) + sg.toInt) ∧ (∃ nk : Int32, zvl M' (386) 8 = some (.int nk) ∧ (fk.toInt ≤ nk.toInt) ∧ (nk.toInt ≤ 5) ∧ (1 ≤ nk.toInt ∨ sg.toInt = 0 ∨ 4 * (sz.toInt - ne.toInt) + ng.toInt + 1 ≤ 4 * (sz.toInt - se.toInt) + sg.toInt) ∧ True)))))) := by
  have hJ0 : zJ N [(395, 396, 1000), (386, 387, 3), (386, 387, 4), (386, 387, 5), (386, 387, 6), (386, 387, 7), (386, 387, 8), (386, 387, 9)] M0 M0 := zJ_refl hB0
  refine ZV.of (ini := false) rfl (Nat.le_of_ble_eq_true rfl) (by decide +kernel) ?_
  show ZW _ _ _ _ _ _ _ (0, [some (.ref 386), none, none], [], M0)
  refine w_lo dX9_slacking_0 rfl rfl rfl rfl ?_
  refine w_ic dX9_slacking_1 zi_0 ?_
  refine w_iv dX9_slacking_2 rfl rfl (As := [.int 0]) rfl rfl hJ0.1.1 zs_386 (Nat.le_of_ble_eq_true rfl) ?_
  refine ZV.imp (k_2317 0 (by have := zt_0; omega) (by have := zt_0; omega) sz hfsz (by have := zt_0; omega) (by have := zt_0; omega) sg hfsg (by have := zt_0; omega) (by have := zt_0; omega) se hfse (by have := zt_0; omega) (by have := zt_0; omega) fk hffk (by have := zt_0; omega) (by have := zt_0; omega) hN hJ0.1) ?_
  rintro _ ⟨x4, M1, rfl, h5, h6, hJ2, hq3⟩
  have hJ7 := zJ_trans hJ0 hJ2 (zSub_cons (fun _ _ h h' hk => zIR_s (zIR_e (by omega) (by omega) hk)) (zSub_cons (fun _ _ h h' hk => zIR_s (zIR_s (zIR_e (by omega) (by omega) hk))) (zSub_cons (fun _ _ h h' hk => zIR_s (zIR_s (zIR_s (zIR_e (by omega) (by omega) hk)))) (zSub_cons (fun _ _ h h' hk => zIR_s (zIR_s (zIR_s (zIR_s (zIR_e (by omega) (by omega) hk))))) (zSub_cons (fun _ _ h h' hk => zIR_s (zIR_s (zIR_s (zIR_s (zIR_s (zIR_e (by omega) (by omega) hk)))))) (zSub_cons (fun _ _ h h' hk => zIR_s (zIR_s (zIR_s (zIR_s (zIR_s (zIR_s (zIR_e (by omega) (by omega) hk))))))) (zSub_cons (fun _ _ h h' hk => zIR_s (zIR_s (zIR_s (zIR_s (zIR_s (zIR_s (zIR_s (zIR_e (by omega) (by omega) hk)))))))) zSub_nil)))))))
  obtain ⟨x8, f9, h10, x11, f12, h13, h14, x15, f16, h17, h18, h19, x20, f21, h22, h23, h24, -⟩ := hq3
  have := zt_0
  show ZW _ _ _ _ _ _ _ (5, [some (.ref 386), none, none], [.int x4], M1)
  rcases Int.decEq x4.toInt (0 : Int) with h25 | h25
  · skip
    refine w_ine_t dX9_slacking_5 (t := 9) rfl (by omega) ?_
    refine w_lo dX9_slacking_9 rfl rfl rfl rfl ?_
    refine w_ic dX9_slacking_10 zi_0 ?_
    refine w_bi dX9_slacking_11 (c := 99) (by decide) ?_
    refine w_iv dX9_slacking_13 rfl rfl (As := [.int 0, .int 99]) rfl rfl hJ7.1.1 zs_386 (Nat.le_of_ble_eq_true rfl) ?_
    refine ZV.of (ini := false) rfl (Nat.le_of_ble_eq_true rfl) (by decide +kernel) ?_
    show ZW _ _ _ _ _ _ _ (0, [some (.ref 386), some (.int 0), some (.int 99), none], [], M1)
    refine w_lo dX9_number_0 rfl rfl rfl rfl ?_
    refine w_gf dX9_number_1 rfl hJ7.1.1 zs_386 f21 ?_
    rcases zcut (0 : Int) x20.toInt with h26 | h26
    · skip
      refine w_ile_f dX9_number_4 (t := 9) rfl (by omega) ?_
      refine w_ic dX9_number_7 zi_0 ?_
      refine w_en dX9_number_8 rfl ?_
      show ZW _ _ _ _ _ _ _ (16, [some (.ref 386), none, none], [.int 0], M1)
      refine w_lo (ml' := [some (.ref 386), some (.int 0), none]) dX9_slacking_16 rfl rfl rfl rfl ?_
      refine w_lo dX9_slacking_17 rfl rfl rfl rfl ?_
      refine w_me (st' := [.long (24948 : Int64), .ref 386]) dX9_slacking_18 rfl rfl rfl rfl rfl ?_
      refine w_iv dX9_slacking_21 rfl rfl (As := [.long (24948 : Int64)]) rfl rfl hJ7.1.1 zs_386 (Nat.le_of_ble_eq_true rfl) ?_
      refine ZV.imp (k_2321 (24948 : Int64) x8 f9 (by omega) (by omega) x11 f12 (by omega) (by omega) x15 f16 (by omega) (by omega) x20 f21 (by omega) (by omega) hN hJ7.1) ?_
      rintro _ ⟨M27, rfl, hJ28, hq29⟩
      have hJ30 := zJ_trans hJ7 hJ28 (zSub_cons (fun _ _ h h' hk => zIR_s (zIR_e (by omega) (by omega) hk)) (zSub_cons (fun _ _ h h' hk => zIR_s (zIR_s (zIR_e (by omega) (by omega) hk))) (zSub_cons (fun _ _ h h' hk => zIR_s (zIR_s (zIR_s (zIR_e (by omega) (by omega) hk)))) (zSub_cons (fun _ _ h h' hk => zIR_s (zIR_s (zIR_s (zIR_s (zIR_e (by omega) (by omega) hk))))) (zSub_cons (fun _ _ h h' hk => zIR_s (zIR_s (zIR_s (zIR_s (zIR_s (zIR_e (by omega) (by omega) hk)))))) (zSub_cons (fun _ _ h h' hk => zIR_s (zIR_s (zIR_s (zIR_s (zIR_s (zIR_s (zIR_e (by omega) (by omega) hk))))))) (zSub_cons (fun _ _ h h' hk => zIR_s (zIR_s (zIR_s (zIR_s (zIR_s (zIR_s (zIR_s (zIR_e (by omega) (by omega) hk)))))))) zSub_nil)))))))
      obtain ⟨x31, f32, h33, x34, f35, h36, h37, x38, f39, h40, h41, h42, x43, f44, h45, h46, h47, -⟩ := hq29
      show ZW _ _ _ _ _ _ _ (24, [some (.ref 386), some (.int 0), none], [], M27)
      refine w_lo dX9_slacking_24 rfl rfl rfl rfl ?_
      refine w_ic dX9_slacking_25 zi_0 ?_
      refine w_bi dX9_slacking_26 (c := 10) (by decide) ?_
      refine w_iv dX9_slacking_28 rfl rfl (As := [.int 0, .int 10]) rfl rfl hJ30.1.1 zs_386 (Nat.le_of_ble_eq_true rfl) ?_
      refine ZV.of (ini := false) rfl (Nat.le_of_ble_eq_true rfl) (by decide +kernel) ?_
      show ZW _ _ _ _ _ _ _ (0, [some (.ref 386), some (.int 0), some (.int 10), none], [], M27)
      refine w_lo dX9_number_0 rfl rfl rfl rfl ?_
      refine w_gf dX9_number_1 rfl hJ30.1.1 zs_386 f44 ?_
      rcases zcut (0 : Int) x43.toInt with h48 | h48
      · skip
        refine w_ile_f dX9_number_4 (t := 9) rfl (by omega) ?_
        refine w_ic dX9_number_7 zi_0 ?_
        refine w_en dX9_number_8 rfl ?_
        show ZW _ _ _ _ _ _ _ (31, [some (.ref 386), some (.int 0), none], [.int 0], M27)
        refine w_lo (ml' := [some (.ref 386), some (.int 0), some (.int 0)]) dX9_slacking_31 rfl rfl rfl rfl ?_
        refine w_lo dX9_slacking_32 rfl rfl rfl rfl ?_
        refine w_gf dX9_slacking_33 rfl hJ30.1.1 zs_386 f44 ?_
        refine w_ine_t dX9_slacking_36 (t := 54) rfl (by omega) ?_
        refine w_en dX9_slacking_54 rfl ?_
        exact ⟨_, rfl, hJ30, ⟨x31, f32, (by omega), x34, f35, (by omega), (by omega), x38, f39, (by omega), (by omega), (by omega), x43, f44, (by omega), (by omega), (by omega), trivial⟩⟩
      · skip
        refine w_ile_t dX9_number_4 (t := 9) rfl (by omega) ?_
        refine w_lo dX9_number_9 rfl rfl rfl rfl ?_
        refine w_gf dX9_number_10 rfl hJ30.1.1 zs_386 f35 ?_
        refine w_ic dX9_number_13 zi_2 ?_
        rcases Int.decEq x34.toInt (2 : Int) with h49 | h49
        · skip
          refine w_ceq_f dX9_number_14 (t := 26) rfl (by have := zt_2; omega) ?_
          refine w_lo dX9_number_17 rfl rfl rfl rfl ?_
          refine w_ic dX9_number_18 zi_1 ?_
          refine w_lo dX9_number_19 rfl rfl rfl rfl ?_
          refine w_gfi dX9_number_20 rfl hJ30.1 zs_386 (Nat.le_of_ble_eq_true rfl) zo_386_4 ?_
          intro x50 f51 h52 h53
          refine w_iv dX9_number_23 rfl rfl (As := [.int 1, .int x50]) rfl rfl hJ30.1.1 zs_386 (Nat.le_of_ble_eq_true rfl) ?_
          refine ZV.of (ini := false) rfl (Nat.le_of_ble_eq_true rfl) (by decide +kernel) ?_
          show ZW _ _ _ _ _ _ _ (0, [some (.ref 386), some (.int 1), some (.int x50)], [], M27)
          refine w_lo dX9_blame_0 rfl rfl rfl rfl ?_
          refine w_gf dX9_blame_1 rfl hJ30.1.1 zs_386 f44 ?_
          refine w_ile_t dX9_blame_4 (t := 8) rfl (by omega) ?_
          refine w_lo dX9_blame_8 rfl rfl rfl rfl ?_
          refine w_lo dX9_blame_9 rfl rfl rfl rfl ?_
          refine w_pfi dX9_blame_10 rfl hJ30 zs_386 (Nat.le_of_ble_eq_true rfl) zo_386_8 (by have := zt_1; omega) (by have := zt_1; omega) (zIR_s (zIR_s (zIR_s (zIR_s (zIR_s (zIR_s (zIR_k (by omega) (by omega)))))))) rfl rfl rfl ?_
          intro M54 hJ55 f56 hn57
          refine w_lo dX9_blame_13 rfl rfl rfl rfl ?_
          refine w_lo dX9_blame_14 rfl rfl rfl rfl ?_
          refine w_pfi dX9_blame_15 rfl hJ55 zs_386 (Nat.le_of_ble_eq_true rfl) zo_386_9 (by omega) (by omega) (zIR_s (zIR_s (zIR_s (zIR_s (zIR_s (zIR_s (zIR_s (zIR_k (by omega) (by omega))))))))) rfl rfl rfl ?_
          intro M58 hJ59 f60 hn61
          refine w_en dX9_blame_18 rfl ?_
          show ZW _ _ _ _ _ _ _ (26, [some (.ref 386), some (.int 0), some (.int 10), none], [], M58)
          refine w_lo dX9_number_26 rfl rfl rfl rfl ?_
          have f62 := (hn61 (386) 8 (Or.inr (by decide))).trans (f56)
          refine w_gf dX9_number_27 rfl hJ59.1.1 zs_386 f62 ?_
          refine w_ine_t dX9_number_30 (t := 54) rfl (by have := zt_1; omega) ?_
          refine w_lo dX9_number_54 rfl rfl rfl rfl ?_
          refine w_gfi dX9_number_55 rfl hJ59.1 zs_386 (Nat.le_of_ble_eq_true rfl) zo_386_6 ?_
          intro x63 f64 h65 h66
          refine w_lo (ml' := [some (.ref 386), some (.int 0), some (.int 10), some (.int x63)]) dX9_number_58 rfl rfl rfl rfl ?_
          refine w_lo dX9_number_59 rfl rfl rfl rfl ?_
          refine w_gf dX9_number_60 rfl hJ59.1.1 zs_386 f62 ?_
          refine w_ine_t dX9_number_63 (t := 70) rfl (by have := zt_1; omega) ?_
          refine w_lo dX9_number_70 rfl rfl rfl rfl ?_
          refine w_eni dX9_number_71 rfl rfl ?_
          show ZW _ _ _ _ _ _ _ (31, [some (.ref 386), some (.int 0), none], [.int x63], M58)
          refine w_lo (ml' := [some (.ref 386), some (.int 0), some (.int x63)]) dX9_slacking_31 rfl rfl rfl rfl ?_
          refine w_lo dX9_slacking_32 rfl rfl rfl rfl ?_
          refine w_gf dX9_slacking_33 rfl hJ59.1.1 zs_386 f62 ?_
          refine w_ine_t dX9_slacking_36 (t := 54) rfl (by have := zt_1; omega) ?_
          refine w_en dX9_slacking_54 rfl ?_
          have f67 := (hn61 (386) 2 (Or.inr (by decide))).trans ((hn57 (386) 2 (Or.inr (by decide))).trans (f32))
          have f68 := (hn61 (386) 3 (Or.inr (by decide))).trans ((hn57 (386) 3 (Or.inr (by decide))).trans (f35))
          have f69 := (hn61 (386) 5 (Or.inr (by decide))).trans ((hn57 (386) 5 (Or.inr (by decide))).trans (f39))
          exact ⟨_, rfl, hJ59, ⟨x31, f67, (by omega), x34, f68, (by omega), (by omega), x38, f69, (by omega), (by omega), (by omega), 1, f62, (by have := zt_1; omega), (by have := zt_1; omega), (by have := zt_1; omega), trivial⟩⟩
        · skip
          refine w_ceq_t dX9_number_14 (t := 26) rfl (by have := zt_2; omega) ?_
          refine w_lo dX9_number_26 rfl rfl rfl rfl ?_
          refine w_gf dX9_number_27 rfl hJ30.1.1 zs_386 f44 ?_
          refine w_ine_f dX9_number_30 (t := 54) rfl (by omega) ?_
          refine w_lo dX9_number_33 rfl rfl rfl rfl ?_
          refine w_gfi dX9_number_34 rfl hJ30.1 zs_386 (Nat.le_of_ble_eq_true rfl) zo_386_6 ?_
          intro x70 f71 h72 h73
          refine w_lo dX9_number_37 rfl rfl rfl rfl ?_
          refine w_lo dX9_number_38 rfl rfl rfl rfl ?_
          refine w_ss dX9_number_39 rfl rfl (As := [.int x70, .int 0, .int 10]) rfl rfl (Nat.le_of_ble_eq_true rfl) ?_
          refine ZV.of (ini := false) rfl (Nat.le_of_ble_eq_true rfl) (by decide +kernel) ?_
          show ZW _ _ _ _ _ _ _ (0, [some (.int x70), some (.int 0), some (.int 10)], [], M27)
          refine w_lo dX9_is_0 rfl rfl rfl rfl ?_
          refine w_lo dX9_is_1 rfl rfl rfl rfl ?_
          rcases zcut x70.toInt (0 : Int) with h74 | h74
          · skip
            refine w_clt_t dX9_is_2 (t := 14) rfl (by have := zt_0; omega) ?_
            refine w_ic dX9_is_14 zi_0 ?_
            refine w_en dX9_is_15 rfl ?_
            show ZW _ _ _ _ _ _ _ (42, [some (.ref 386), some (.int 0), some (.int 10), none], [.int 0], M27)
            refine w_ine_f dX9_number_42 (t := 54) rfl (by have := zt_0; omega) ?_
            refine w_lo dX9_number_45 rfl rfl rfl rfl ?_
            refine w_ic dX9_number_46 zi_4 ?_
            refine w_lo dX9_number_47 rfl rfl rfl rfl ?_
            refine w_gfi dX9_number_48 rfl hJ30.1 zs_386 (Nat.le_of_ble_eq_true rfl) zo_386_4 ?_
            intro x75 f76 h77 h78
            refine w_iv dX9_number_51 rfl rfl (As := [.int 4, .int x75]) rfl rfl hJ30.1.1 zs_386 (Nat.le_of_ble_eq_true rfl) ?_
            refine ZV.of (ini := false) rfl (Nat.le_of_ble_eq_true rfl) (by decide +kernel) ?_
            show ZW _ _ _ _ _ _ _ (0, [some (.ref 386), some (.int 4), some (.int x75)], [], M27)
            refine w_lo dX9_blame_0 rfl rfl rfl rfl ?_
            refine w_gf dX9_blame_1 rfl hJ30.1.1 zs_386 f44 ?_
            refine w_ile_t dX9_blame_4 (t := 8) rfl (by omega) ?_
            refine w_lo dX9_blame_8 rfl rfl rfl rfl ?_
            refine w_lo dX9_blame_9 rfl rfl rfl rfl ?_
            refine w_pfi dX9_blame_10 rfl hJ30 zs_386 (Nat.le_of_ble_eq_true rfl) zo_386_8 (by have := zt_4; omega) (by have := zt_4; omega) (zIR_s (zIR_s (zIR_s (zIR_s (zIR_s (zIR_s (zIR_k (by omega) (by omega)))))))) rfl rfl rfl ?_
            intro M79 hJ80 f81 hn82
            refine w_lo dX9_blame_13 rfl rfl rfl rfl ?_
            refine w_lo dX9_blame_14 rfl rfl rfl rfl ?_
            refine w_pfi dX9_blame_15 rfl hJ80 zs_386 (Nat.le_of_ble_eq_true rfl) zo_386_9 (by omega) (by omega) (zIR_s (zIR_s (zIR_s (zIR_s (zIR_s (zIR_s (zIR_s (zIR_k (by omega) (by omega))))))))) rfl rfl rfl ?_
            intro M83 hJ84 f85 hn86
            refine w_en dX9_blame_18 rfl ?_
            show ZW _ _ _ _ _ _ _ (54, [some (.ref 386), some (.int 0), some (.int 10), none], [], M83)
            refine w_lo dX9_number_54 rfl rfl rfl rfl ?_
            have f87 := (hn86 (386) 6 (Or.inr (by decide))).trans ((hn82 (386) 6 (Or.inr (by decide))).trans (f71))
            refine w_gf dX9_number_55 rfl hJ84.1.1 zs_386 f87 ?_
            refine w_lo (ml' := [some (.ref 386), some (.int 0), some (.int 10), some (.int x70)]) dX9_number_58 rfl rfl rfl rfl ?_
            refine w_lo dX9_number_59 rfl rfl rfl rfl ?_
            have f88 := (hn86 (386) 8 (Or.inr (by decide))).trans (f81)
            refine w_gf dX9_number_60 rfl hJ84.1.1 zs_386 f88 ?_
            refine w_ine_t dX9_number_63 (t := 70) rfl (by have := zt_4; omega) ?_
            refine w_lo dX9_number_70 rfl rfl rfl rfl ?_
            refine w_eni dX9_number_71 rfl rfl ?_
            show ZW _ _ _ _ _ _ _ (31, [some (.ref 386), some (.int 0), none], [.int x70], M83)
            refine w_lo (ml' := [some (.ref 386), some (.int 0), some (.int x70)]) dX9_slacking_31 rfl rfl rfl rfl ?_
            refine w_lo dX9_slacking_32 rfl rfl rfl rfl ?_
            refine w_gf dX9_slacking_33 rfl hJ84.1.1 zs_386 f88 ?_
            refine w_ine_t dX9_slacking_36 (t := 54) rfl (by have := zt_4; omega) ?_
            refine w_en dX9_slacking_54 rfl ?_
            have f89 := (hn86 (386) 2 (Or.inr (by decide))).trans ((hn82 (386) 2 (Or.inr (by decide))).trans (f32))
            have f90 := (hn86 (386) 3 (Or.inr (by decide))).trans ((hn82 (386) 3 (Or.inr (by decide))).trans (f35))
            have f91 := (hn86 (386) 5 (Or.inr (by decide))).trans ((hn82 (386) 5 (Or.inr (by decide))).trans (f39))
            exact ⟨_, rfl, hJ84, ⟨x31, f89, (by omega), x34, f90, (by omega), (by omega), x38, f91, (by omega), (by omega), (by omega), 4, f88, (by have := zt_4; omega), (by have := zt_4; omega), (by have := zt_4; omega), trivial⟩⟩
          · skip
            refine w_clt_f dX9_is_2 (t := 14) rfl (by have := zt_0; omega) ?_
            refine w_lo dX9_is_5 rfl rfl rfl rfl ?_
            refine w_lo dX9_is_6 rfl rfl rfl rfl ?_
            rcases zcut (10 : Int) x70.toInt with h92 | h92
            · skip
              refine w_cgt_t dX9_is_7 (t := 14) rfl (by have := zt_10; omega) ?_
              refine w_ic dX9_is_14 zi_0 ?_
              refine w_en dX9_is_15 rfl ?_
              show ZW _ _ _ _ _ _ _ (42, [some (.ref 386), some (.int 0), some (.int 10), none], [.int 0], M27)
              refine w_ine_f dX9_number_42 (t := 54) rfl (by have := zt_0; omega) ?_
              refine w_lo dX9_number_45 rfl rfl rfl rfl ?_
              refine w_ic dX9_number_46 zi_4 ?_
              refine w_lo dX9_number_47 rfl rfl rfl rfl ?_
              refine w_gfi dX9_number_48 rfl hJ30.1 zs_386 (Nat.le_of_ble_eq_true rfl) zo_386_4 ?_
              intro x93 f94 h95 h96
              refine w_iv dX9_number_51 rfl rfl (As := [.int 4, .int x93]) rfl rfl hJ30.1.1 zs_386 (Nat.le_of_ble_eq_true rfl) ?_
              refine ZV.of (ini := false) rfl (Nat.le_of_ble_eq_true rfl) (by decide +kernel) ?_
              show ZW _ _ _ _ _ _ _ (0, [some (.ref 386), some (.int 4), some (.int x93)], [], M27)
              refine w_lo dX9_blame_0 rfl rfl rfl rfl ?_
              refine w_gf dX9_blame_1 rfl hJ30.1.1 zs_386 f44 ?_
              refine w_ile_t dX9_blame_4 (t := 8) rfl (by omega) ?_
              refine w_lo dX9_blame_8 rfl rfl rfl rfl ?_
              refine w_lo dX9_blame_9 rfl rfl rfl rfl ?_
              refine w_pfi dX9_blame_10 rfl hJ30 zs_386 (Nat.le_of_ble_eq_true rfl) zo_386_8 (by have := zt_4; omega) (by have := zt_4; omega) (zIR_s (zIR_s (zIR_s (zIR_s (zIR_s (zIR_s (zIR_k (by omega) (by omega)))))))) rfl rfl rfl ?_
              intro M97 hJ98 f99 hn100
              refine w_lo dX9_blame_13 rfl rfl rfl rfl ?_
              refine w_lo dX9_blame_14 rfl rfl rfl rfl ?_
              refine w_pfi dX9_blame_15 rfl hJ98 zs_386 (Nat.le_of_ble_eq_true rfl) zo_386_9 (by omega) (by omega) (zIR_s (zIR_s (zIR_s (zIR_s (zIR_s (zIR_s (zIR_s (zIR_k (by omega) (by omega))))))))) rfl rfl rfl ?_
              intro M101 hJ102 f103 hn104
              refine w_en dX9_blame_18 rfl ?_
              show ZW _ _ _ _ _ _ _ (54, [some (.ref 386), some (.int 0), some (.int 10), none], [], M101)
              refine w_lo dX9_number_54 rfl rfl rfl rfl ?_
              have f105 := (hn104 (386) 6 (Or.inr (by decide))).trans ((hn100 (386) 6 (Or.inr (by decide))).trans (f71))
              refine w_gf dX9_number_55 rfl hJ102.1.1 zs_386 f105 ?_
              refine w_lo (ml' := [some (.ref 386), some (.int 0), some (.int 10), some (.int x70)]) dX9_number_58 rfl rfl rfl rfl ?_
              refine w_lo dX9_number_59 rfl rfl rfl rfl ?_
              have f106 := (hn104 (386) 8 (Or.inr (by decide))).trans (f99)
              refine w_gf dX9_number_60 rfl hJ102.1.1 zs_386 f106 ?_
              refine w_ine_t dX9_number_63 (t := 70) rfl (by have := zt_4; omega) ?_
              refine w_lo dX9_number_70 rfl rfl rfl rfl ?_
              refine w_eni dX9_number_71 rfl rfl ?_
              show ZW _ _ _ _ _ _ _ (31, [some (.ref 386), some (.int 0), none], [.int x70], M101)
              refine w_lo (ml' := [some (.ref 386), some (.int 0), some (.int x70)]) dX9_slacking_31 rfl rfl rfl rfl ?_
              refine w_lo dX9_slacking_32 rfl rfl rfl rfl ?_
              refine w_gf dX9_slacking_33 rfl hJ102.1.1 zs_386 f106 ?_
              refine w_ine_t dX9_slacking_36 (t := 54) rfl (by have := zt_4; omega) ?_
              refine w_en dX9_slacking_54 rfl ?_
              have f107 := (hn104 (386) 2 (Or.inr (by decide))).trans ((hn100 (386) 2 (Or.inr (by decide))).trans (f32))
              have f108 := (hn104 (386) 3 (Or.inr (by decide))).trans ((hn100 (386) 3 (Or.inr (by decide))).trans (f35))
              have f109 := (hn104 (386) 5 (Or.inr (by decide))).trans ((hn100 (386) 5 (Or.inr (by decide))).trans (f39))
              exact ⟨_, rfl, hJ102, ⟨x31, f107, (by omega), x34, f108, (by omega), (by omega), x38, f109, (by omega), (by omega), (by omega), 4, f106, (by have := zt_4; omega), (by have := zt_4; omega), (by have := zt_4; omega), trivial⟩⟩
            · skip
              refine w_cgt_f dX9_is_7 (t := 14) rfl (by have := zt_10; omega) ?_
              refine w_ic dX9_is_10 zi_1 ?_
              refine w_gt dX9_is_11 (t := 15) rfl ?_
              refine w_en dX9_is_15 rfl ?_
              show ZW _ _ _ _ _ _ _ (42, [some (.ref 386), some (.int 0), some (.int 10), none], [.int 1], M27)
              refine w_ine_t dX9_number_42 (t := 54) rfl (by have := zt_1; omega) ?_
              refine w_lo dX9_number_54 rfl rfl rfl rfl ?_
              refine w_gf dX9_number_55 rfl hJ30.1.1 zs_386 f71 ?_
              refine w_lo (ml' := [some (.ref 386), some (.int 0), some (.int 10), some (.int x70)]) dX9_number_58 rfl rfl rfl rfl ?_
              refine w_lo dX9_number_59 rfl rfl rfl rfl ?_
              refine w_gf dX9_number_60 rfl hJ30.1.1 zs_386 f44 ?_
              refine w_ine_f dX9_number_63 (t := 70) rfl (by omega) ?_
              refine w_lo dX9_number_66 rfl rfl rfl rfl ?_
              refine w_iv dX9_number_67 rfl rfl (As := []) rfl rfl hJ30.1.1 zs_386 (Nat.le_of_ble_eq_true rfl) ?_
              refine ZV.imp (k_2310 x31 f32 (by omega) (by omega) x34 f35 (by omega) (by omega) x38 f39 (by omega) (by omega) x43 f44 (by omega) (by omega) hN hJ30.1) ?_
              rintro _ ⟨M110, rfl, hJ111, hq112⟩
              have hJ113 := zJ_trans hJ30 hJ111 (zSub_cons (fun _ _ h h' hk => zIR_s (zIR_e (by omega) (by omega) hk)) (zSub_cons (fun _ _ h h' hk => zIR_s (zIR_s (zIR_e (by omega) (by omega) hk))) (zSub_cons (fun _ _ h h' hk => zIR_s (zIR_s (zIR_s (zIR_e (by omega) (by omega) hk)))) (zSub_cons (fun _ _ h h' hk => zIR_s (zIR_s (zIR_s (zIR_s (zIR_e (by omega) (by omega) hk))))) (zSub_cons (fun _ _ h h' hk => zIR_s (zIR_s (zIR_s (zIR_s (zIR_s (zIR_e (by omega) (by omega) hk)))))) (zSub_cons (fun _ _ h h' hk => zIR_s (zIR_s (zIR_s (zIR_s (zIR_s (zIR_s (zIR_e (by omega) (by omega) hk))))))) (zSub_cons (fun _ _ h h' hk => zIR_s (zIR_s (zIR_s (zIR_s (zIR_s (zIR_s (zIR_s (zIR_e (by omega) (by omega) hk)))))))) zSub_nil)))))))
              obtain ⟨x114, f115, h116, x117, f118, h119, h120, x121, f122, h123, h124, x125, f126, h127, h128, h129, x130, f131, h132, h133, -⟩ := hq112
              show ZW _ _ _ _ _ _ _ (70, [some (.ref 386), some (.int 0), some (.int 10), some (.int x70)], [], M110)
              refine w_lo dX9_number_70 rfl rfl rfl rfl ?_
              refine w_eni dX9_number_71 rfl rfl ?_
              show ZW _ _ _ _ _ _ _ (31, [some (.ref 386), some (.int 0), none], [.int x70], M110)
              refine w_lo (ml' := [some (.ref 386), some (.int 0), some (.int x70)]) dX9_slacking_31 rfl rfl rfl rfl ?_
              refine w_lo dX9_slacking_32 rfl rfl rfl rfl ?_
              refine w_gf dX9_slacking_33 rfl hJ113.1.1 zs_386 f131 ?_
              rcases Int.decEq x130.toInt (0 : Int) with h134 | h134
              · skip
                refine w_ine_t dX9_slacking_36 (t := 54) rfl (by omega) ?_
                refine w_en dX9_slacking_54 rfl ?_
                exact ⟨_, rfl, hJ113, ⟨x114, f115, (by omega), x117, f118, (by omega), (by omega), x125, f126, (by omega), (by omega), (by omega), x130, f131, (by omega), (by omega), (by omega), trivial⟩⟩
              · skip
                refine w_ine_f dX9_slacking_36 (t := 54) rfl (by omega) ?_
                refine w_lo dX9_slacking_39 rfl rfl rfl rfl ?_
                refine w_gf dX9_slacking_40 rfl hJ113.1.1 zs_386 (zr_386_20 hJ113.1) ?_
                refine w_bi dX9_slacking_43 (c := 11) (by decide) ?_
                refine w_lo dX9_slacking_45 rfl rfl rfl rfl ?_
                refine w_gfi dX9_slacking_46 rfl hJ113.1 zs_386 (Nat.le_of_ble_eq_true rfl) zo_386_35 ?_
                intro x135 f136 h137 h138
                refine w_mulc dX9_slacking_49 zt_11 (by have := zt_11; omega) ?_
                intro x139 h140
                have := zt_11
                refine w_lo dX9_slacking_50 rfl rfl rfl rfl ?_
                refine w_add dX9_slacking_51 (by omega) ?_
                intro x141 h142
                refine w_lo dX9_slacking_52 rfl rfl rfl rfl ?_
                refine w_isi dX9_slacking_53 hJ113 zs_395 (by omega) (by omega) zu_395 (zbot _) (ztop _) (zIR_a (by omega) (by omega)) ?_
                intro M143 hJ144 f145 hn146
                refine w_en dX9_slacking_54 rfl ?_
                have f147 := (hn146 (386) 2 (Or.inl (by omega))).trans (f115)
                have f148 := (hn146 (386) 3 (Or.inl (by omega))).trans (f118)
                have f149 := (hn146 (386) 5 (Or.inl (by omega))).trans (f126)
                have f150 := (hn146 (386) 8 (Or.inl (by omega))).trans (f131)
                exact ⟨_, rfl, hJ144, ⟨x114, f147, (by omega), x117, f148, (by omega), (by omega), x125, f149, (by omega), (by omega), (by omega), x130, f150, (by omega), (by omega), (by omega), trivial⟩⟩
    · skip
      refine w_ile_t dX9_number_4 (t := 9) rfl (by omega) ?_
      refine w_lo dX9_number_9 rfl rfl rfl rfl ?_
      refine w_gf dX9_number_10 rfl hJ7.1.1 zs_386 f12 ?_
      refine w_ic dX9_number_13 zi_2 ?_
      rcases Int.decEq x11.toInt (2 : Int) with h151 | h151
      · skip
        refine w_ceq_f dX9_number_14 (t := 26) rfl (by have := zt_2; omega) ?_
        refine w_lo dX9_number_17 rfl rfl rfl rfl ?_
        refine w_ic dX9_number_18 zi_1 ?_
        refine w_lo dX9_number_19 rfl rfl rfl rfl ?_
        refine w_gfi dX9_number_20 rfl hJ7.1 zs_386 (Nat.le_of_ble_eq_true rfl) zo_386_4 ?_
        intro x152 f153 h154 h155
        refine w_iv dX9_number_23 rfl rfl (As := [.int 1, .int x152]) rfl rfl hJ7.1.1 zs_386 (Nat.le_of_ble_eq_true rfl) ?_
        refine ZV.of (ini := false) rfl (Nat.le_of_ble_eq_true rfl) (by decide +kernel) ?_
        show ZW _ _ _ _ _ _ _ (0, [some (.ref 386), some (.int 1), some (.int x152)], [], M1)
        refine w_lo dX9_blame_0 rfl rfl rfl rfl ?_
        refine w_gf dX9_blame_1 rfl hJ7.1.1 zs_386 f21 ?_
        refine w_ile_t dX9_blame_4 (t := 8) rfl (by omega) ?_
        refine w_lo dX9_blame_8 rfl rfl rfl rfl ?_
        refine w_lo dX9_blame_9 rfl rfl rfl rfl ?_
        refine w_pfi dX9_blame_10 rfl hJ7 zs_386 (Nat.le_of_ble_eq_true rfl) zo_386_8 (by have := zt_1; omega) (by have := zt_1; omega) (zIR_s (zIR_s (zIR_s (zIR_s (zIR_s (zIR_s (zIR_k (by omega) (by omega)))))))) rfl rfl rfl ?_
        intro M156 hJ157 f158 hn159
        refine w_lo dX9_blame_13 rfl rfl rfl rfl ?_
        refine w_lo dX9_blame_14 rfl rfl rfl rfl ?_
        refine w_pfi dX9_blame_15 rfl hJ157 zs_386 (Nat.le_of_ble_eq_true rfl) zo_386_9 (by omega) (by omega) (zIR_s (zIR_s (zIR_s (zIR_s (zIR_s (zIR_s (zIR_s (zIR_k (by omega) (by omega))))))))) rfl rfl rfl ?_
        intro M160 hJ161 f162 hn163
        refine w_en dX9_blame_18 rfl ?_
        show ZW _ _ _ _ _ _ _ (26, [some (.ref 386), some (.int 0), some (.int 99), none], [], M160)
        refine w_lo dX9_number_26 rfl rfl rfl rfl ?_
        have f164 := (hn163 (386) 8 (Or.inr (by decide))).trans (f158)
        refine w_gf dX9_number_27 rfl hJ161.1.1 zs_386 f164 ?_
        refine w_ine_t dX9_number_30 (t := 54) rfl (by have := zt_1; omega) ?_
        refine w_lo dX9_number_54 rfl rfl rfl rfl ?_
        refine w_gfi dX9_number_55 rfl hJ161.1 zs_386 (Nat.le_of_ble_eq_true rfl) zo_386_6 ?_
        intro x165 f166 h167 h168
        refine w_lo (ml' := [some (.ref 386), some (.int 0), some (.int 99), some (.int x165)]) dX9_number_58 rfl rfl rfl rfl ?_
        refine w_lo dX9_number_59 rfl rfl rfl rfl ?_
        refine w_gf dX9_number_60 rfl hJ161.1.1 zs_386 f164 ?_
        refine w_ine_t dX9_number_63 (t := 70) rfl (by have := zt_1; omega) ?_
        refine w_lo dX9_number_70 rfl rfl rfl rfl ?_
        refine w_eni dX9_number_71 rfl rfl ?_
        show ZW _ _ _ _ _ _ _ (16, [some (.ref 386), none, none], [.int x165], M160)
        refine w_lo (ml' := [some (.ref 386), some (.int x165), none]) dX9_slacking_16 rfl rfl rfl rfl ?_
        refine w_lo dX9_slacking_17 rfl rfl rfl rfl ?_
        refine w_me (st' := [.long (24948 : Int64), .ref 386]) dX9_slacking_18 rfl rfl rfl rfl rfl ?_
        have f171 := (hn163 (386) 2 (Or.inr (by decide))).trans ((hn159 (386) 2 (Or.inr (by decide))).trans (f9))
        have f172 := (hn163 (386) 3 (Or.inr (by decide))).trans ((hn159 (386) 3 (Or.inr (by decide))).trans (f12))
        have f173 := (hn163 (386) 5 (Or.inr (by decide))).trans ((hn159 (386) 5 (Or.inr (by decide))).trans (f16))
        refine w_iv dX9_slacking_21 rfl rfl (As := [.long (24948 : Int64)]) rfl rfl hJ161.1.1 zs_386 (Nat.le_of_ble_eq_true rfl) ?_
        refine ZV.imp (k_2321 (24948 : Int64) x8 f171 (by have := zt_1; omega) (by have := zt_1; omega) x11 f172 (by have := zt_1; omega) (by have := zt_1; omega) x15 f173 (by have := zt_1; omega) (by have := zt_1; omega) 1 f164 (by have := zt_1; omega) (by have := zt_1; omega) hN hJ161.1) ?_
        rintro _ ⟨M169, rfl, hJ170, hq174⟩
        have hJ175 := zJ_trans hJ161 hJ170 (zSub_cons (fun _ _ h h' hk => zIR_s (zIR_e (by omega) (by omega) hk)) (zSub_cons (fun _ _ h h' hk => zIR_s (zIR_s (zIR_e (by omega) (by omega) hk))) (zSub_cons (fun _ _ h h' hk => zIR_s (zIR_s (zIR_s (zIR_e (by omega) (by omega) hk)))) (zSub_cons (fun _ _ h h' hk => zIR_s (zIR_s (zIR_s (zIR_s (zIR_e (by omega) (by omega) hk))))) (zSub_cons (fun _ _ h h' hk => zIR_s (zIR_s (zIR_s (zIR_s (zIR_s (zIR_e (by omega) (by omega) hk)))))) (zSub_cons (fun _ _ h h' hk => zIR_s (zIR_s (zIR_s (zIR_s (zIR_s (zIR_s (zIR_e (by omega) (by omega) hk))))))) (zSub_cons (fun _ _ h h' hk => zIR_s (zIR_s (zIR_s (zIR_s (zIR_s (zIR_s (zIR_s (zIR_e (by omega) (by omega) hk)))))))) zSub_nil)))))))
        obtain ⟨x176, f177, h178, x179, f180, h181, h182, x183, f184, h185, h186, h187, x188, f189, h190, h191, h192, -⟩ := hq174
        have := zt_1
        show ZW _ _ _ _ _ _ _ (24, [some (.ref 386), some (.int x165), none], [], M169)
        refine w_lo dX9_slacking_24 rfl rfl rfl rfl ?_
        refine w_ic dX9_slacking_25 zi_0 ?_
        refine w_bi dX9_slacking_26 (c := 10) (by decide) ?_
        refine w_iv dX9_slacking_28 rfl rfl (As := [.int 0, .int 10]) rfl rfl hJ175.1.1 zs_386 (Nat.le_of_ble_eq_true rfl) ?_
        refine ZV.of (ini := false) rfl (Nat.le_of_ble_eq_true rfl) (by decide +kernel) ?_
        show ZW _ _ _ _ _ _ _ (0, [some (.ref 386), some (.int 0), some (.int 10), none], [], M169)
        refine w_lo dX9_number_0 rfl rfl rfl rfl ?_
        refine w_gf dX9_number_1 rfl hJ175.1.1 zs_386 f189 ?_
        rcases zcut (0 : Int) x188.toInt with h193 | h193
        · skip
          refine w_ile_f dX9_number_4 (t := 9) rfl (by omega) ?_
          refine w_ic dX9_number_7 zi_0 ?_
          refine w_en dX9_number_8 rfl ?_
          show ZW _ _ _ _ _ _ _ (31, [some (.ref 386), some (.int x165), none], [.int 0], M169)
          refine w_lo (ml' := [some (.ref 386), some (.int x165), some (.int 0)]) dX9_slacking_31 rfl rfl rfl rfl ?_
          refine w_lo dX9_slacking_32 rfl rfl rfl rfl ?_
          refine w_gf dX9_slacking_33 rfl hJ175.1.1 zs_386 f189 ?_
          refine w_ine_t dX9_slacking_36 (t := 54) rfl (by omega) ?_
          refine w_en dX9_slacking_54 rfl ?_
          exact ⟨_, rfl, hJ175, ⟨x176, f177, (by omega), x179, f180, (by omega), (by omega), x183, f184, (by omega), (by omega), (by omega), x188, f189, (by omega), (by omega), (by omega), trivial⟩⟩
        · skip
          refine w_ile_t dX9_number_4 (t := 9) rfl (by omega) ?_
          refine w_lo dX9_number_9 rfl rfl rfl rfl ?_
          refine w_gf dX9_number_10 rfl hJ175.1.1 zs_386 f180 ?_
          refine w_ic dX9_number_13 zi_2 ?_
          rcases Int.decEq x179.toInt (2 : Int) with h194 | h194
          · skip
            refine w_ceq_f dX9_number_14 (t := 26) rfl (by have := zt_2; omega) ?_
            refine w_lo dX9_number_17 rfl rfl rfl rfl ?_
            refine w_ic dX9_number_18 zi_1 ?_
            refine w_lo dX9_number_19 rfl rfl rfl rfl ?_
            refine w_gfi dX9_number_20 rfl hJ175.1 zs_386 (Nat.le_of_ble_eq_true rfl) zo_386_4 ?_
            intro x195 f196 h197 h198
            refine w_iv dX9_number_23 rfl rfl (As := [.int 1, .int x195]) rfl rfl hJ175.1.1 zs_386 (Nat.le_of_ble_eq_true rfl) ?_
            refine ZV.of (ini := false) rfl (Nat.le_of_ble_eq_true rfl) (by decide +kernel) ?_
            show ZW _ _ _ _ _ _ _ (0, [some (.ref 386), some (.int 1), some (.int x195)], [], M169)
            refine w_lo dX9_blame_0 rfl rfl rfl rfl ?_
            refine w_gf dX9_blame_1 rfl hJ175.1.1 zs_386 f189 ?_
            refine w_ile_t dX9_blame_4 (t := 8) rfl (by omega) ?_
            refine w_lo dX9_blame_8 rfl rfl rfl rfl ?_
            refine w_lo dX9_blame_9 rfl rfl rfl rfl ?_
            refine w_pfi dX9_blame_10 rfl hJ175 zs_386 (Nat.le_of_ble_eq_true rfl) zo_386_8 (by have := zt_1; omega) (by have := zt_1; omega) (zIR_s (zIR_s (zIR_s (zIR_s (zIR_s (zIR_s (zIR_k (by omega) (by omega)))))))) rfl rfl rfl ?_
            intro M199 hJ200 f201 hn202
            refine w_lo dX9_blame_13 rfl rfl rfl rfl ?_
            refine w_lo dX9_blame_14 rfl rfl rfl rfl ?_
            refine w_pfi dX9_blame_15 rfl hJ200 zs_386 (Nat.le_of_ble_eq_true rfl) zo_386_9 (by omega) (by omega) (zIR_s (zIR_s (zIR_s (zIR_s (zIR_s (zIR_s (zIR_s (zIR_k (by omega) (by omega))))))))) rfl rfl rfl ?_
            intro M203 hJ204 f205 hn206
            refine w_en dX9_blame_18 rfl ?_
            show ZW _ _ _ _ _ _ _ (26, [some (.ref 386), some (.int 0), some (.int 10), none], [], M203)
            refine w_lo dX9_number_26 rfl rfl rfl rfl ?_
            have f207 := (hn206 (386) 8 (Or.inr (by decide))).trans (f201)
            refine w_gf dX9_number_27 rfl hJ204.1.1 zs_386 f207 ?_
            refine w_ine_t dX9_number_30 (t := 54) rfl (by have := zt_1; omega) ?_
            refine w_lo dX9_number_54 rfl rfl rfl rfl ?_
            refine w_gfi dX9_number_55 rfl hJ204.1 zs_386 (Nat.le_of_ble_eq_true rfl) zo_386_6 ?_
            intro x208 f209 h210 h211
            refine w_lo (ml' := [some (.ref 386), some (.int 0), some (.int 10), some (.int x208)]) dX9_number_58 rfl rfl rfl rfl ?_
            refine w_lo dX9_number_59 rfl rfl rfl rfl ?_
            refine w_gf dX9_number_60 rfl hJ204.1.1 zs_386 f207 ?_
            refine w_ine_t dX9_number_63 (t := 70) rfl (by have := zt_1; omega) ?_
            refine w_lo dX9_number_70 rfl rfl rfl rfl ?_
            refine w_eni dX9_number_71 rfl rfl ?_
            show ZW _ _ _ _ _ _ _ (31, [some (.ref 386), some (.int x165), none], [.int x208], M203)
            refine w_lo (ml' := [some (.ref 386), some (.int x165), some (.int x208)]) dX9_slacking_31 rfl rfl rfl rfl ?_
            refine w_lo dX9_slacking_32 rfl rfl rfl rfl ?_
            refine w_gf dX9_slacking_33 rfl hJ204.1.1 zs_386 f207 ?_
            refine w_ine_t dX9_slacking_36 (t := 54) rfl (by have := zt_1; omega) ?_
            refine w_en dX9_slacking_54 rfl ?_
            have f212 := (hn206 (386) 2 (Or.inr (by decide))).trans ((hn202 (386) 2 (Or.inr (by decide))).trans (f177))
            have f213 := (hn206 (386) 3 (Or.inr (by decide))).trans ((hn202 (386) 3 (Or.inr (by decide))).trans (f180))
            have f214 := (hn206 (386) 5 (Or.inr (by decide))).trans ((hn202 (386) 5 (Or.inr (by decide))).trans (f184))
            exact ⟨_, rfl, hJ204, ⟨x176, f212, (by omega), x179, f213, (by omega), (by omega), x183, f214, (by omega), (by omega), (by omega), 1, f207, (by have := zt_1; omega), (by have := zt_1; omega), (by have := zt_1; omega), trivial⟩⟩
          · skip
            refine w_ceq_t dX9_number_14 (t := 26) rfl (by have := zt_2; omega) ?_
            refine w_lo dX9_number_26 rfl rfl rfl rfl ?_
            refine w_gf dX9_number_27 rfl hJ175.1.1 zs_386 f189 ?_
            refine w_ine_f dX9_number_30 (t := 54) rfl (by omega) ?_
            refine w_lo dX9_number_33 rfl rfl rfl rfl ?_
            refine w_gfi dX9_number_34 rfl hJ175.1 zs_386 (Nat.le_of_ble_eq_true rfl) zo_386_6 ?_
            intro x215 f216 h217 h218
            refine w_lo dX9_number_37 rfl rfl rfl rfl ?_
            refine w_lo dX9_number_38 rfl rfl rfl rfl ?_
            refine w_ss dX9_number_39 rfl rfl (As := [.int x215, .int 0, .int 10]) rfl rfl (Nat.le_of_ble_eq_true rfl) ?_
            refine ZV.of (ini := false) rfl (Nat.le_of_ble_eq_true rfl) (by decide +kernel) ?_
            show ZW _ _ _ _ _ _ _ (0, [some (.int x215), some (.int 0), some (.int 10)], [], M169)
            refine w_lo dX9_is_0 rfl rfl rfl rfl ?_
            refine w_lo dX9_is_1 rfl rfl rfl rfl ?_
            rcases zcut x215.toInt (0 : Int) with h219 | h219
            · skip
              refine w_clt_t dX9_is_2 (t := 14) rfl (by have := zt_0; omega) ?_
              refine w_ic dX9_is_14 zi_0 ?_
              refine w_en dX9_is_15 rfl ?_
              show ZW _ _ _ _ _ _ _ (42, [some (.ref 386), some (.int 0), some (.int 10), none], [.int 0], M169)
              refine w_ine_f dX9_number_42 (t := 54) rfl (by have := zt_0; omega) ?_
              refine w_lo dX9_number_45 rfl rfl rfl rfl ?_
              refine w_ic dX9_number_46 zi_4 ?_
              refine w_lo dX9_number_47 rfl rfl rfl rfl ?_
              refine w_gfi dX9_number_48 rfl hJ175.1 zs_386 (Nat.le_of_ble_eq_true rfl) zo_386_4 ?_
              intro x220 f221 h222 h223
              refine w_iv dX9_number_51 rfl rfl (As := [.int 4, .int x220]) rfl rfl hJ175.1.1 zs_386 (Nat.le_of_ble_eq_true rfl) ?_
              refine ZV.of (ini := false) rfl (Nat.le_of_ble_eq_true rfl) (by decide +kernel) ?_
              show ZW _ _ _ _ _ _ _ (0, [some (.ref 386), some (.int 4), some (.int x220)], [], M169)
              refine w_lo dX9_blame_0 rfl rfl rfl rfl ?_
              refine w_gf dX9_blame_1 rfl hJ175.1.1 zs_386 f189 ?_
              refine w_ile_t dX9_blame_4 (t := 8) rfl (by omega) ?_
              refine w_lo dX9_blame_8 rfl rfl rfl rfl ?_
              refine w_lo dX9_blame_9 rfl rfl rfl rfl ?_
              refine w_pfi dX9_blame_10 rfl hJ175 zs_386 (Nat.le_of_ble_eq_true rfl) zo_386_8 (by have := zt_4; omega) (by have := zt_4; omega) (zIR_s (zIR_s (zIR_s (zIR_s (zIR_s (zIR_s (zIR_k (by omega) (by omega)))))))) rfl rfl rfl ?_
              intro M224 hJ225 f226 hn227
              refine w_lo dX9_blame_13 rfl rfl rfl rfl ?_
              refine w_lo dX9_blame_14 rfl rfl rfl rfl ?_
              refine w_pfi dX9_blame_15 rfl hJ225 zs_386 (Nat.le_of_ble_eq_true rfl) zo_386_9 (by omega) (by omega) (zIR_s (zIR_s (zIR_s (zIR_s (zIR_s (zIR_s (zIR_s (zIR_k (by omega) (by omega))))))))) rfl rfl rfl ?_
              intro M228 hJ229 f230 hn231
              refine w_en dX9_blame_18 rfl ?_
              show ZW _ _ _ _ _ _ _ (54, [some (.ref 386), some (.int 0), some (.int 10), none], [], M228)
              refine w_lo dX9_number_54 rfl rfl rfl rfl ?_
              have f232 := (hn231 (386) 6 (Or.inr (by decide))).trans ((hn227 (386) 6 (Or.inr (by decide))).trans (f216))
              refine w_gf dX9_number_55 rfl hJ229.1.1 zs_386 f232 ?_
              refine w_lo (ml' := [some (.ref 386), some (.int 0), some (.int 10), some (.int x215)]) dX9_number_58 rfl rfl rfl rfl ?_
              refine w_lo dX9_number_59 rfl rfl rfl rfl ?_
              have f233 := (hn231 (386) 8 (Or.inr (by decide))).trans (f226)
              refine w_gf dX9_number_60 rfl hJ229.1.1 zs_386 f233 ?_
              refine w_ine_t dX9_number_63 (t := 70) rfl (by have := zt_4; omega) ?_
              refine w_lo dX9_number_70 rfl rfl rfl rfl ?_
              refine w_eni dX9_number_71 rfl rfl ?_
              show ZW _ _ _ _ _ _ _ (31, [some (.ref 386), some (.int x165), none], [.int x215], M228)
              refine w_lo (ml' := [some (.ref 386), some (.int x165), some (.int x215)]) dX9_slacking_31 rfl rfl rfl rfl ?_
              refine w_lo dX9_slacking_32 rfl rfl rfl rfl ?_
              refine w_gf dX9_slacking_33 rfl hJ229.1.1 zs_386 f233 ?_
              refine w_ine_t dX9_slacking_36 (t := 54) rfl (by have := zt_4; omega) ?_
              refine w_en dX9_slacking_54 rfl ?_
              have f234 := (hn231 (386) 2 (Or.inr (by decide))).trans ((hn227 (386) 2 (Or.inr (by decide))).trans (f177))
              have f235 := (hn231 (386) 3 (Or.inr (by decide))).trans ((hn227 (386) 3 (Or.inr (by decide))).trans (f180))
              have f236 := (hn231 (386) 5 (Or.inr (by decide))).trans ((hn227 (386) 5 (Or.inr (by decide))).trans (f184))
              exact ⟨_, rfl, hJ229, ⟨x176, f234, (by omega), x179, f235, (by omega), (by omega), x183, f236, (by omega), (by omega), (by omega), 4, f233, (by have := zt_4; omega), (by have := zt_4; omega), (by have := zt_4; omega), trivial⟩⟩
            · skip
              refine w_clt_f dX9_is_2 (t := 14) rfl (by have := zt_0; omega) ?_
              refine w_lo dX9_is_5 rfl rfl rfl rfl ?_
              refine w_lo dX9_is_6 rfl rfl rfl rfl ?_
              rcases zcut (10 : Int) x215.toInt with h237 | h237
              · skip
                refine w_cgt_t dX9_is_7 (t := 14) rfl (by have := zt_10; omega) ?_
                refine w_ic dX9_is_14 zi_0 ?_
                refine w_en dX9_is_15 rfl ?_
                show ZW _ _ _ _ _ _ _ (42, [some (.ref 386), some (.int 0), some (.int 10), none], [.int 0], M169)
                refine w_ine_f dX9_number_42 (t := 54) rfl (by have := zt_0; omega) ?_
                refine w_lo dX9_number_45 rfl rfl rfl rfl ?_
                refine w_ic dX9_number_46 zi_4 ?_
                refine w_lo dX9_number_47 rfl rfl rfl rfl ?_
                refine w_gfi dX9_number_48 rfl hJ175.1 zs_386 (Nat.le_of_ble_eq_true rfl) zo_386_4 ?_
                intro x238 f239 h240 h241
                refine w_iv dX9_number_51 rfl rfl (As := [.int 4, .int x238]) rfl rfl hJ175.1.1 zs_386 (Nat.le_of_ble_eq_true rfl) ?_
                refine ZV.of (ini := false) rfl (Nat.le_of_ble_eq_true rfl) (by decide +kernel) ?_
                show ZW _ _ _ _ _ _ _ (0, [some (.ref 386), some (.int 4), some (.int x238)], [], M169)
                refine w_lo dX9_blame_0 rfl rfl rfl rfl ?_
                refine w_gf dX9_blame_1 rfl hJ175.1.1 zs_386 f189 ?_
                refine w_ile_t dX9_blame_4 (t := 8) rfl (by omega) ?_
                refine w_lo dX9_blame_8 rfl rfl rfl rfl ?_
                refine w_lo dX9_blame_9 rfl rfl rfl rfl ?_
                refine w_pfi dX9_blame_10 rfl hJ175 zs_386 (Nat.le_of_ble_eq_true rfl) zo_386_8 (by have := zt_4; omega) (by have := zt_4; omega) (zIR_s (zIR_s (zIR_s (zIR_s (zIR_s (zIR_s (zIR_k (by omega) (by omega)))))))) rfl rfl rfl ?_
                intro M242 hJ243 f244 hn245
                refine w_lo dX9_blame_13 rfl rfl rfl rfl ?_
                refine w_lo dX9_blame_14 rfl rfl rfl rfl ?_
                refine w_pfi dX9_blame_15 rfl hJ243 zs_386 (Nat.le_of_ble_eq_true rfl) zo_386_9 (by omega) (by omega) (zIR_s (zIR_s (zIR_s (zIR_s (zIR_s (zIR_s (zIR_s (zIR_k (by omega) (by omega))))))))) rfl rfl rfl ?_
                intro M246 hJ247 f248 hn249
                refine w_en dX9_blame_18 rfl ?_
                show ZW _ _ _ _ _ _ _ (54, [some (.ref 386), some (.int 0), some (.int 10), none], [], M246)
                refine w_lo dX9_number_54 rfl rfl rfl rfl ?_
                have f250 := (hn249 (386) 6 (Or.inr (by decide))).trans ((hn245 (386) 6 (Or.inr (by decide))).trans (f216))
                refine w_gf dX9_number_55 rfl hJ247.1.1 zs_386 f250 ?_
                refine w_lo (ml' := [some (.ref 386), some (.int 0), some (.int 10), some (.int x215)]) dX9_number_58 rfl rfl rfl rfl ?_
                refine w_lo dX9_number_59 rfl rfl rfl rfl ?_
                have f251 := (hn249 (386) 8 (Or.inr (by decide))).trans (f244)
                refine w_gf dX9_number_60 rfl hJ247.1.1 zs_386 f251 ?_
                refine w_ine_t dX9_number_63 (t := 70) rfl (by have := zt_4; omega) ?_
                refine w_lo dX9_number_70 rfl rfl rfl rfl ?_
                refine w_eni dX9_number_71 rfl rfl ?_
                show ZW _ _ _ _ _ _ _ (31, [some (.ref 386), some (.int x165), none], [.int x215], M246)
                refine w_lo (ml' := [some (.ref 386), some (.int x165), some (.int x215)]) dX9_slacking_31 rfl rfl rfl rfl ?_
                refine w_lo dX9_slacking_32 rfl rfl rfl rfl ?_
                refine w_gf dX9_slacking_33 rfl hJ247.1.1 zs_386 f251 ?_
                refine w_ine_t dX9_slacking_36 (t := 54) rfl (by have := zt_4; omega) ?_
                refine w_en dX9_slacking_54 rfl ?_
                have f252 := (hn249 (386) 2 (Or.inr (by decide))).trans ((hn245 (386) 2 (Or.inr (by decide))).trans (f177))
                have f253 := (hn249 (386) 3 (Or.inr (by decide))).trans ((hn245 (386) 3 (Or.inr (by decide))).trans (f180))
                have f254 := (hn249 (386) 5 (Or.inr (by decide))).trans ((hn245 (386) 5 (Or.inr (by decide))).trans (f184))
                exact ⟨_, rfl, hJ247, ⟨x176, f252, (by omega), x179, f253, (by omega), (by omega), x183, f254, (by omega), (by omega), (by omega), 4, f251, (by have := zt_4; omega), (by have := zt_4; omega), (by have := zt_4; omega), trivial⟩⟩
              · skip
                refine w_cgt_f dX9_is_7 (t := 14) rfl (by have := zt_10; omega) ?_
                refine w_ic dX9_is_10 zi_1 ?_
                refine w_gt dX9_is_11 (t := 15) rfl ?_
                refine w_en dX9_is_15 rfl ?_
                show ZW _ _ _ _ _ _ _ (42, [some (.ref 386), some (.int 0), some (.int 10), none], [.int 1], M169)
                refine w_ine_t dX9_number_42 (t := 54) rfl (by have := zt_1; omega) ?_
                refine w_lo dX9_number_54 rfl rfl rfl rfl ?_
                refine w_gf dX9_number_55 rfl hJ175.1.1 zs_386 f216 ?_
                refine w_lo (ml' := [some (.ref 386), some (.int 0), some (.int 10), some (.int x215)]) dX9_number_58 rfl rfl rfl rfl ?_
                refine w_lo dX9_number_59 rfl rfl rfl rfl ?_
                refine w_gf dX9_number_60 rfl hJ175.1.1 zs_386 f189 ?_
                refine w_ine_f dX9_number_63 (t := 70) rfl (by omega) ?_
                refine w_lo dX9_number_66 rfl rfl rfl rfl ?_
                refine w_iv dX9_number_67 rfl rfl (As := []) rfl rfl hJ175.1.1 zs_386 (Nat.le_of_ble_eq_true rfl) ?_
                refine ZV.imp (k_2310 x176 f177 (by omega) (by omega) x179 f180 (by omega) (by omega) x183 f184 (by omega) (by omega) x188 f189 (by omega) (by omega) hN hJ175.1) ?_
                rintro _ ⟨M255, rfl, hJ256, hq257⟩
                have hJ258 := zJ_trans hJ175 hJ256 (zSub_cons (fun _ _ h h' hk => zIR_s (zIR_e (by omega) (by omega) hk)) (zSub_cons (fun _ _ h h' hk => zIR_s (zIR_s (zIR_e (by omega) (by omega) hk))) (zSub_cons (fun _ _ h h' hk => zIR_s (zIR_s (zIR_s (zIR_e (by omega) (by omega) hk)))) (zSub_cons (fun _ _ h h' hk => zIR_s (zIR_s (zIR_s (zIR_s (zIR_e (by omega) (by omega) hk))))) (zSub_cons (fun _ _ h h' hk => zIR_s (zIR_s (zIR_s (zIR_s (zIR_s (zIR_e (by omega) (by omega) hk)))))) (zSub_cons (fun _ _ h h' hk => zIR_s (zIR_s (zIR_s (zIR_s (zIR_s (zIR_s (zIR_e (by omega) (by omega) hk))))))) (zSub_cons (fun _ _ h h' hk => zIR_s (zIR_s (zIR_s (zIR_s (zIR_s (zIR_s (zIR_s (zIR_e (by omega) (by omega) hk)))))))) zSub_nil)))))))
                obtain ⟨x259, f260, h261, x262, f263, h264, h265, x266, f267, h268, h269, x270, f271, h272, h273, h274, x275, f276, h277, h278, -⟩ := hq257
                show ZW _ _ _ _ _ _ _ (70, [some (.ref 386), some (.int 0), some (.int 10), some (.int x215)], [], M255)
                refine w_lo dX9_number_70 rfl rfl rfl rfl ?_
                refine w_eni dX9_number_71 rfl rfl ?_
                show ZW _ _ _ _ _ _ _ (31, [some (.ref 386), some (.int x165), none], [.int x215], M255)
                refine w_lo (ml' := [some (.ref 386), some (.int x165), some (.int x215)]) dX9_slacking_31 rfl rfl rfl rfl ?_
                refine w_lo dX9_slacking_32 rfl rfl rfl rfl ?_
                refine w_gf dX9_slacking_33 rfl hJ258.1.1 zs_386 f276 ?_
                rcases Int.decEq x275.toInt (0 : Int) with h279 | h279
                · skip
                  refine w_ine_t dX9_slacking_36 (t := 54) rfl (by omega) ?_
                  refine w_en dX9_slacking_54 rfl ?_
                  exact ⟨_, rfl, hJ258, ⟨x259, f260, (by omega), x262, f263, (by omega), (by omega), x270, f271, (by omega), (by omega), (by omega), x275, f276, (by omega), (by omega), (by omega), trivial⟩⟩
                · skip
                  refine w_ine_f dX9_slacking_36 (t := 54) rfl (by omega) ?_
                  refine w_lo dX9_slacking_39 rfl rfl rfl rfl ?_
                  refine w_gf dX9_slacking_40 rfl hJ258.1.1 zs_386 (zr_386_20 hJ258.1) ?_
                  refine w_bi dX9_slacking_43 (c := 11) (by decide) ?_
                  refine w_lo dX9_slacking_45 rfl rfl rfl rfl ?_
                  refine w_gfi dX9_slacking_46 rfl hJ258.1 zs_386 (Nat.le_of_ble_eq_true rfl) zo_386_35 ?_
                  intro x280 f281 h282 h283
                  refine w_mulc dX9_slacking_49 zt_11 (by have := zt_11; omega) ?_
                  intro x284 h285
                  have := zt_11
                  refine w_lo dX9_slacking_50 rfl rfl rfl rfl ?_
                  refine w_add dX9_slacking_51 (by omega) ?_
                  intro x286 h287
                  refine w_lo dX9_slacking_52 rfl rfl rfl rfl ?_
                  refine w_isi dX9_slacking_53 hJ258 zs_395 (by omega) (by omega) zu_395 (zbot _) (ztop _) (zIR_a (by omega) (by omega)) ?_
                  intro M288 hJ289 f290 hn291
                  refine w_en dX9_slacking_54 rfl ?_
                  have f292 := (hn291 (386) 2 (Or.inl (by omega))).trans (f260)
                  have f293 := (hn291 (386) 3 (Or.inl (by omega))).trans (f263)
                  have f294 := (hn291 (386) 5 (Or.inl (by omega))).trans (f271)
                  have f295 := (hn291 (386) 8 (Or.inl (by omega))).trans (f276)
                  exact ⟨_, rfl, hJ289, ⟨x259, f292, (by omega), x262, f293, (by omega), (by omega), x270, f294, (by omega), (by omega), (by omega), x275, f295, (by omega), (by omega), (by omega), trivial⟩⟩
      · skip
        refine w_ceq_t dX9_number_14 (t := 26) rfl (by have := zt_2; omega) ?_
        refine w_lo dX9_number_26 rfl rfl rfl rfl ?_
        refine w_gf dX9_number_27 rfl hJ7.1.1 zs_386 f21 ?_
        refine w_ine_f dX9_number_30 (t := 54) rfl (by omega) ?_
        refine w_lo dX9_number_33 rfl rfl rfl rfl ?_
        refine w_gfi dX9_number_34 rfl hJ7.1 zs_386 (Nat.le_of_ble_eq_true rfl) zo_386_6 ?_
        intro x296 f297 h298 h299
        refine w_lo dX9_number_37 rfl rfl rfl rfl ?_
        refine w_lo dX9_number_38 rfl rfl rfl rfl ?_
        refine w_ss dX9_number_39 rfl rfl (As := [.int x296, .int 0, .int 99]) rfl rfl (Nat.le_of_ble_eq_true rfl) ?_
        refine ZV.of (ini := false) rfl (Nat.le_of_ble_eq_true rfl) (by decide +kernel) ?_
        show ZW _ _ _ _ _ _ _ (0, [some (.int x296), some (.int 0), some (.int 99)], [], M1)
        refine w_lo dX9_is_0 rfl rfl rfl rfl ?_
        refine w_lo dX9_is_1 rfl rfl rfl rfl ?_
        rcases zcut x296.toInt (0 : Int) with h300 | h300
        · skip
          refine w_clt_t dX9_is_2 (t := 14) rfl (by have := zt_0; omega) ?_
          refine w_ic dX9_is_14 zi_0 ?_
          refine w_en dX9_is_15 rfl ?_
          show ZW _ _ _ _ _ _ _ (42, [some (.ref 386), some (.int 0), some (.int 99), none], [.int 0], M1)
          refine w_ine_f dX9_number_42 (t := 54) rfl (by have := zt_0; omega) ?_
          refine w_lo dX9_number_45 rfl rfl rfl rfl ?_
          refine w_ic dX9_number_46 zi_4 ?_
          refine w_lo dX9_number_47 rfl rfl rfl rfl ?_
          refine w_gfi dX9_number_48 rfl hJ7.1 zs_386 (Nat.le_of_ble_eq_true rfl) zo_386_4 ?_
          intro x301 f302 h303 h304
          refine w_iv dX9_number_51 rfl rfl (As := [.int 4, .int x301]) rfl rfl hJ7.1.1 zs_386 (Nat.le_of_ble_eq_true rfl) ?_
          refine ZV.of (ini := false) rfl (Nat.le_of_ble_eq_true rfl) (by decide +kernel) ?_
          show ZW _ _ _ _ _ _ _ (0, [some (.ref 386), some (.int 4), some (.int x301)], [], M1)
          refine w_lo dX9_blame_0 rfl rfl rfl rfl ?_
          refine w_gf dX9_blame_1 rfl hJ7.1.1 zs_386 f21 ?_
          refine w_ile_t dX9_blame_4 (t := 8) rfl (by omega) ?_
          refine w_lo dX9_blame_8 rfl rfl rfl rfl ?_
          refine w_lo dX9_blame_9 rfl rfl rfl rfl ?_
          refine w_pfi dX9_blame_10 rfl hJ7 zs_386 (Nat.le_of_ble_eq_true rfl) zo_386_8 (by have := zt_4; omega) (by have := zt_4; omega) (zIR_s (zIR_s (zIR_s (zIR_s (zIR_s (zIR_s (zIR_k (by omega) (by omega)))))))) rfl rfl rfl ?_
          intro M305 hJ306 f307 hn308
          refine w_lo dX9_blame_13 rfl rfl rfl rfl ?_
          refine w_lo dX9_blame_14 rfl rfl rfl rfl ?_
          refine w_pfi dX9_blame_15 rfl hJ306 zs_386 (Nat.le_of_ble_eq_true rfl) zo_386_9 (by omega) (by omega) (zIR_s (zIR_s (zIR_s (zIR_s (zIR_s (zIR_s (zIR_s (zIR_k (by omega) (by omega))))))))) rfl rfl rfl ?_
          intro M309 hJ310 f311 hn312
          refine w_en dX9_blame_18 rfl ?_
          show ZW _ _ _ _ _ _ _ (54, [some (.ref 386), some (.int 0), some (.int 99), none], [], M309)
          refine w_lo dX9_number_54 rfl rfl rfl rfl ?_
          have f313 := (hn312 (386) 6 (Or.inr (by decide))).trans ((hn308 (386) 6 (Or.inr (by decide))).trans (f297))
          refine w_gf dX9_number_55 rfl hJ310.1.1 zs_386 f313 ?_
          refine w_lo (ml' := [some (.ref 386), some (.int 0), some (.int 99), some (.int x296)]) dX9_number_58 rfl rfl rfl rfl ?_
          refine w_lo dX9_number_59 rfl rfl rfl rfl ?_
          have f314 := (hn312 (386) 8 (Or.inr (by decide))).trans (f307)
          refine w_gf dX9_number_60 rfl hJ310.1.1 zs_386 f314 ?_
          refine w_ine_t dX9_number_63 (t := 70) rfl (by have := zt_4; omega) ?_
          refine w_lo dX9_number_70 rfl rfl rfl rfl ?_
          refine w_eni dX9_number_71 rfl rfl ?_
          show ZW _ _ _ _ _ _ _ (16, [some (.ref 386), none, none], [.int x296], M309)
          refine w_lo (ml' := [some (.ref 386), some (.int x296), none]) dX9_slacking_16 rfl rfl rfl rfl ?_
          refine w_lo dX9_slacking_17 rfl rfl rfl rfl ?_
          refine w_me (st' := [.long (24948 : Int64), .ref 386]) dX9_slacking_18 rfl rfl rfl rfl rfl ?_
          have f317 := (hn312 (386) 2 (Or.inr (by decide))).trans ((hn308 (386) 2 (Or.inr (by decide))).trans (f9))
          have f318 := (hn312 (386) 3 (Or.inr (by decide))).trans ((hn308 (386) 3 (Or.inr (by decide))).trans (f12))
          have f319 := (hn312 (386) 5 (Or.inr (by decide))).trans ((hn308 (386) 5 (Or.inr (by decide))).trans (f16))
          refine w_iv dX9_slacking_21 rfl rfl (As := [.long (24948 : Int64)]) rfl rfl hJ310.1.1 zs_386 (Nat.le_of_ble_eq_true rfl) ?_
          refine ZV.imp (k_2321 (24948 : Int64) x8 f317 (by have := zt_4; omega) (by have := zt_4; omega) x11 f318 (by have := zt_4; omega) (by have := zt_4; omega) x15 f319 (by have := zt_4; omega) (by have := zt_4; omega) 4 f314 (by have := zt_4; omega) (by have := zt_4; omega) hN hJ310.1) ?_
          rintro _ ⟨M315, rfl, hJ316, hq320⟩
          have hJ321 := zJ_trans hJ310 hJ316 (zSub_cons (fun _ _ h h' hk => zIR_s (zIR_e (by omega) (by omega) hk)) (zSub_cons (fun _ _ h h' hk => zIR_s (zIR_s (zIR_e (by omega) (by omega) hk))) (zSub_cons (fun _ _ h h' hk => zIR_s (zIR_s (zIR_s (zIR_e (by omega) (by omega) hk)))) (zSub_cons (fun _ _ h h' hk => zIR_s (zIR_s (zIR_s (zIR_s (zIR_e (by omega) (by omega) hk))))) (zSub_cons (fun _ _ h h' hk => zIR_s (zIR_s (zIR_s (zIR_s (zIR_s (zIR_e (by omega) (by omega) hk)))))) (zSub_cons (fun _ _ h h' hk => zIR_s (zIR_s (zIR_s (zIR_s (zIR_s (zIR_s (zIR_e (by omega) (by omega) hk))))))) (zSub_cons (fun _ _ h h' hk => zIR_s (zIR_s (zIR_s (zIR_s (zIR_s (zIR_s (zIR_s (zIR_e (by omega) (by omega) hk)))))))) zSub_nil)))))))
          obtain ⟨x322, f323, h324, x325, f326, h327, h328, x329, f330, h331, h332, h333, x334, f335, h336, h337, h338, -⟩ := hq320
          have := zt_4
          show ZW _ _ _ _ _ _ _ (24, [some (.ref 386), some (.int x296), none], [], M315)
          refine w_lo dX9_slacking_24 rfl rfl rfl rfl ?_
          refine w_ic dX9_slacking_25 zi_0 ?_
          refine w_bi dX9_slacking_26 (c := 10) (by decide) ?_
          refine w_iv dX9_slacking_28 rfl rfl (As := [.int 0, .int 10]) rfl rfl hJ321.1.1 zs_386 (Nat.le_of_ble_eq_true rfl) ?_
          refine ZV.of (ini := false) rfl (Nat.le_of_ble_eq_true rfl) (by decide +kernel) ?_
          show ZW _ _ _ _ _ _ _ (0, [some (.ref 386), some (.int 0), some (.int 10), none], [], M315)
          refine w_lo dX9_number_0 rfl rfl rfl rfl ?_
          refine w_gf dX9_number_1 rfl hJ321.1.1 zs_386 f335 ?_
          rcases zcut (0 : Int) x334.toInt with h339 | h339
          · skip
            refine w_ile_f dX9_number_4 (t := 9) rfl (by omega) ?_
            refine w_ic dX9_number_7 zi_0 ?_
            refine w_en dX9_number_8 rfl ?_
            show ZW _ _ _ _ _ _ _ (31, [some (.ref 386), some (.int x296), none], [.int 0], M315)
            refine w_lo (ml' := [some (.ref 386), some (.int x296), some (.int 0)]) dX9_slacking_31 rfl rfl rfl rfl ?_
            refine w_lo dX9_slacking_32 rfl rfl rfl rfl ?_
            refine w_gf dX9_slacking_33 rfl hJ321.1.1 zs_386 f335 ?_
            refine w_ine_t dX9_slacking_36 (t := 54) rfl (by omega) ?_
            refine w_en dX9_slacking_54 rfl ?_
            exact ⟨_, rfl, hJ321, ⟨x322, f323, (by omega), x325, f326, (by omega), (by omega), x329, f330, (by omega), (by omega), (by omega), x334, f335, (by omega), (by omega), (by omega), trivial⟩⟩
          · skip
            refine w_ile_t dX9_number_4 (t := 9) rfl (by omega) ?_
            refine w_lo dX9_number_9 rfl rfl rfl rfl ?_
            refine w_gf dX9_number_10 rfl hJ321.1.1 zs_386 f326 ?_
            refine w_ic dX9_number_13 zi_2 ?_
            rcases Int.decEq x325.toInt (2 : Int) with h340 | h340
            · skip
              refine w_ceq_f dX9_number_14 (t := 26) rfl (by have := zt_2; omega) ?_
              refine w_lo dX9_number_17 rfl rfl rfl rfl ?_
              refine w_ic dX9_number_18 zi_1 ?_
              refine w_lo dX9_number_19 rfl rfl rfl rfl ?_
              refine w_gfi dX9_number_20 rfl hJ321.1 zs_386 (Nat.le_of_ble_eq_true rfl) zo_386_4 ?_
              intro x341 f342 h343 h344
              refine w_iv dX9_number_23 rfl rfl (As := [.int 1, .int x341]) rfl rfl hJ321.1.1 zs_386 (Nat.le_of_ble_eq_true rfl) ?_
              refine ZV.of (ini := false) rfl (Nat.le_of_ble_eq_true rfl) (by decide +kernel) ?_
              show ZW _ _ _ _ _ _ _ (0, [some (.ref 386), some (.int 1), some (.int x341)], [], M315)
              refine w_lo dX9_blame_0 rfl rfl rfl rfl ?_
              refine w_gf dX9_blame_1 rfl hJ321.1.1 zs_386 f335 ?_
              refine w_ile_t dX9_blame_4 (t := 8) rfl (by omega) ?_
              refine w_lo dX9_blame_8 rfl rfl rfl rfl ?_
              refine w_lo dX9_blame_9 rfl rfl rfl rfl ?_
              refine w_pfi dX9_blame_10 rfl hJ321 zs_386 (Nat.le_of_ble_eq_true rfl) zo_386_8 (by have := zt_1; omega) (by have := zt_1; omega) (zIR_s (zIR_s (zIR_s (zIR_s (zIR_s (zIR_s (zIR_k (by omega) (by omega)))))))) rfl rfl rfl ?_
              intro M345 hJ346 f347 hn348
              refine w_lo dX9_blame_13 rfl rfl rfl rfl ?_
              refine w_lo dX9_blame_14 rfl rfl rfl rfl ?_
              refine w_pfi dX9_blame_15 rfl hJ346 zs_386 (Nat.le_of_ble_eq_true rfl) zo_386_9 (by omega) (by omega) (zIR_s (zIR_s (zIR_s (zIR_s (zIR_s (zIR_s (zIR_s (zIR_k (by omega) (by omega))))))))) rfl rfl rfl ?_
              intro M349 hJ350 f351 hn352
              refine w_en dX9_blame_18 rfl ?_
              show ZW _ _ _ _ _ _ _ (26, [some (.ref 386), some (.int 0), some (.int 10), none], [], M349)
              refine w_lo dX9_number_26 rfl rfl rfl rfl ?_
              have f353 := (hn352 (386) 8 (Or.inr (by decide))).trans (f347)
              refine w_gf dX9_number_27 rfl hJ350.1.1 zs_386 f353 ?_
              refine w_ine_t dX9_number_30 (t := 54) rfl (by have := zt_1; omega) ?_
              refine w_lo dX9_number_54 rfl rfl rfl rfl ?_
              refine w_gfi dX9_number_55 rfl hJ350.1 zs_386 (Nat.le_of_ble_eq_true rfl) zo_386_6 ?_
              intro x354 f355 h356 h357
              refine w_lo (ml' := [some (.ref 386), some (.int 0), some (.int 10), some (.int x354)]) dX9_number_58 rfl rfl rfl rfl ?_
              refine w_lo dX9_number_59 rfl rfl rfl rfl ?_
              refine w_gf dX9_number_60 rfl hJ350.1.1 zs_386 f353 ?_
              refine w_ine_t dX9_number_63 (t := 70) rfl (by have := zt_1; omega) ?_
              refine w_lo dX9_number_70 rfl rfl rfl rfl ?_
              refine w_eni dX9_number_71 rfl rfl ?_
              show ZW _ _ _ _ _ _ _ (31, [some (.ref 386), some (.int x296), none], [.int x354], M349)
              refine w_lo (ml' := [some (.ref 386), some (.int x296), some (.int x354)]) dX9_slacking_31 rfl rfl rfl rfl ?_
              refine w_lo dX9_slacking_32 rfl rfl rfl rfl ?_
              refine w_gf dX9_slacking_33 rfl hJ350.1.1 zs_386 f353 ?_
              refine w_ine_t dX9_slacking_36 (t := 54) rfl (by have := zt_1; omega) ?_
              refine w_en dX9_slacking_54 rfl ?_
              have f358 := (hn352 (386) 2 (Or.inr (by decide))).trans ((hn348 (386) 2 (Or.inr (by decide))).trans (f323))
              have f359 := (hn352 (386) 3 (Or.inr (by decide))).trans ((hn348 (386) 3 (Or.inr (by decide))).trans (f326))
              have f360 := (hn352 (386) 5 (Or.inr (by decide))).trans ((hn348 (386) 5 (Or.inr (by decide))).trans (f330))
              exact ⟨_, rfl, hJ350, ⟨x322, f358, (by omega), x325, f359, (by omega), (by omega), x329, f360, (by omega), (by omega), (by omega), 1, f353, (by have := zt_1; omega), (by have := zt_1; omega), (by have := zt_1; omega), trivial⟩⟩
            · skip
              refine w_ceq_t dX9_number_14 (t := 26) rfl (by have := zt_2; omega) ?_
              refine w_lo dX9_number_26 rfl rfl rfl rfl ?_
              refine w_gf dX9_number_27 rfl hJ321.1.1 zs_386 f335 ?_
              refine w_ine_f dX9_number_30 (t := 54) rfl (by omega) ?_
              refine w_lo dX9_number_33 rfl rfl rfl rfl ?_
              refine w_gfi dX9_number_34 rfl hJ321.1 zs_386 (Nat.le_of_ble_eq_true rfl) zo_386_6 ?_
              intro x361 f362 h363 h364
              refine w_lo dX9_number_37 rfl rfl rfl rfl ?_
              refine w_lo dX9_number_38 rfl rfl rfl rfl ?_
              refine w_ss dX9_number_39 rfl rfl (As := [.int x361, .int 0, .int 10]) rfl rfl (Nat.le_of_ble_eq_true rfl) ?_
              refine ZV.of (ini := false) rfl (Nat.le_of_ble_eq_true rfl) (by decide +kernel) ?_
              show ZW _ _ _ _ _ _ _ (0, [some (.int x361), some (.int 0), some (.int 10)], [], M315)
              refine w_lo dX9_is_0 rfl rfl rfl rfl ?_
              refine w_lo dX9_is_1 rfl rfl rfl rfl ?_
              rcases zcut x361.toInt (0 : Int) with h365 | h365
              · skip
                refine w_clt_t dX9_is_2 (t := 14) rfl (by have := zt_0; omega) ?_
                refine w_ic dX9_is_14 zi_0 ?_
                refine w_en dX9_is_15 rfl ?_
                show ZW _ _ _ _ _ _ _ (42, [some (.ref 386), some (.int 0), some (.int 10), none], [.int 0], M315)
                refine w_ine_f dX9_number_42 (t := 54) rfl (by have := zt_0; omega) ?_
                refine w_lo dX9_number_45 rfl rfl rfl rfl ?_
                refine w_ic dX9_number_46 zi_4 ?_
                refine w_lo dX9_number_47 rfl rfl rfl rfl ?_
                refine w_gfi dX9_number_48 rfl hJ321.1 zs_386 (Nat.le_of_ble_eq_true rfl) zo_386_4 ?_
                intro x366 f367 h368 h369
                refine w_iv dX9_number_51 rfl rfl (As := [.int 4, .int x366]) rfl rfl hJ321.1.1 zs_386 (Nat.le_of_ble_eq_true rfl) ?_
                refine ZV.of (ini := false) rfl (Nat.le_of_ble_eq_true rfl) (by decide +kernel) ?_
                show ZW _ _ _ _ _ _ _ (0, [some (.ref 386), some (.int 4), some (.int x366)], [], M315)
                refine w_lo dX9_blame_0 rfl rfl rfl rfl ?_
                refine w_gf dX9_blame_1 rfl hJ321.1.1 zs_386 f335 ?_
                refine w_ile_t dX9_blame_4 (t := 8) rfl (by omega) ?_
                refine w_lo dX9_blame_8 rfl rfl rfl rfl ?_
                refine w_lo dX9_blame_9 rfl rfl rfl rfl ?_
                refine w_pfi dX9_blame_10 rfl hJ321 zs_386 (Nat.le_of_ble_eq_true rfl) zo_386_8 (by have := zt_4; omega) (by have := zt_4; omega) (zIR_s (zIR_s (zIR_s (zIR_s (zIR_s (zIR_s (zIR_k (by omega) (by omega)))))))) rfl rfl rfl ?_
                intro M370 hJ371 f372 hn373
                refine w_lo dX9_blame_13 rfl rfl rfl rfl ?_
                refine w_lo dX9_blame_14 rfl rfl rfl rfl ?_
                refine w_pfi dX9_blame_15 rfl hJ371 zs_386 (Nat.le_of_ble_eq_true rfl) zo_386_9 (by omega) (by omega) (zIR_s (zIR_s (zIR_s (zIR_s (zIR_s (zIR_s (zIR_s (zIR_k (by omega) (by omega))))))))) rfl rfl rfl ?_
                intro M374 hJ375 f376 hn377
                refine w_en dX9_blame_18 rfl ?_
                show ZW _ _ _ _ _ _ _ (54, [some (.ref 386), some (.int 0), some (.int 10), none], [], M374)
                refine w_lo dX9_number_54 rfl rfl rfl rfl ?_
                have f378 := (hn377 (386) 6 (Or.inr (by decide))).trans ((hn373 (386) 6 (Or.inr (by decide))).trans (f362))
                refine w_gf dX9_number_55 rfl hJ375.1.1 zs_386 f378 ?_
                refine w_lo (ml' := [some (.ref 386), some (.int 0), some (.int 10), some (.int x361)]) dX9_number_58 rfl rfl rfl rfl ?_
                refine w_lo dX9_number_59 rfl rfl rfl rfl ?_
                have f379 := (hn377 (386) 8 (Or.inr (by decide))).trans (f372)
                refine w_gf dX9_number_60 rfl hJ375.1.1 zs_386 f379 ?_
                refine w_ine_t dX9_number_63 (t := 70) rfl (by have := zt_4; omega) ?_
                refine w_lo dX9_number_70 rfl rfl rfl rfl ?_
                refine w_eni dX9_number_71 rfl rfl ?_
                show ZW _ _ _ _ _ _ _ (31, [some (.ref 386), some (.int x296), none], [.int x361], M374)
                refine w_lo (ml' := [some (.ref 386), some (.int x296), some (.int x361)]) dX9_slacking_31 rfl rfl rfl rfl ?_
                refine w_lo dX9_slacking_32 rfl rfl rfl rfl ?_
                refine w_gf dX9_slacking_33 rfl hJ375.1.1 zs_386 f379 ?_
                refine w_ine_t dX9_slacking_36 (t := 54) rfl (by have := zt_4; omega) ?_
                refine w_en dX9_slacking_54 rfl ?_
                have f380 := (hn377 (386) 2 (Or.inr (by decide))).trans ((hn373 (386) 2 (Or.inr (by decide))).trans (f323))
                have f381 := (hn377 (386) 3 (Or.inr (by decide))).trans ((hn373 (386) 3 (Or.inr (by decide))).trans (f326))
                have f382 := (hn377 (386) 5 (Or.inr (by decide))).trans ((hn373 (386) 5 (Or.inr (by decide))).trans (f330))
                exact ⟨_, rfl, hJ375, ⟨x322, f380, (by omega), x325, f381, (by omega), (by omega), x329, f382, (by omega), (by omega), (by omega), 4, f379, (by have := zt_4; omega), (by have := zt_4; omega), (by have := zt_4; omega), trivial⟩⟩
              · skip
                refine w_clt_f dX9_is_2 (t := 14) rfl (by have := zt_0; omega) ?_
                refine w_lo dX9_is_5 rfl rfl rfl rfl ?_
                refine w_lo dX9_is_6 rfl rfl rfl rfl ?_
                rcases zcut (10 : Int) x361.toInt with h383 | h383
                · skip
                  refine w_cgt_t dX9_is_7 (t := 14) rfl (by have := zt_10; omega) ?_
                  refine w_ic dX9_is_14 zi_0 ?_
                  refine w_en dX9_is_15 rfl ?_
                  show ZW _ _ _ _ _ _ _ (42, [some (.ref 386), some (.int 0), some (.int 10), none], [.int 0], M315)
                  refine w_ine_f dX9_number_42 (t := 54) rfl (by have := zt_0; omega) ?_
                  refine w_lo dX9_number_45 rfl rfl rfl rfl ?_
                  refine w_ic dX9_number_46 zi_4 ?_
                  refine w_lo dX9_number_47 rfl rfl rfl rfl ?_
                  refine w_gfi dX9_number_48 rfl hJ321.1 zs_386 (Nat.le_of_ble_eq_true rfl) zo_386_4 ?_
                  intro x384 f385 h386 h387
                  refine w_iv dX9_number_51 rfl rfl (As := [.int 4, .int x384]) rfl rfl hJ321.1.1 zs_386 (Nat.le_of_ble_eq_true rfl) ?_
                  refine ZV.of (ini := false) rfl (Nat.le_of_ble_eq_true rfl) (by decide +kernel) ?_
                  show ZW _ _ _ _ _ _ _ (0, [some (.ref 386), some (.int 4), some (.int x384)], [], M315)
                  refine w_lo dX9_blame_0 rfl rfl rfl rfl ?_
                  refine w_gf dX9_blame_1 rfl hJ321.1.1 zs_386 f335 ?_
                  refine w_ile_t dX9_blame_4 (t := 8) rfl (by omega) ?_
                  refine w_lo dX9_blame_8 rfl rfl rfl rfl ?_
                  refine w_lo dX9_blame_9 rfl rfl rfl rfl ?_
                  refine w_pfi dX9_blame_10 rfl hJ321 zs_386 (Nat.le_of_ble_eq_true rfl) zo_386_8 (by have := zt_4; omega) (by have := zt_4; omega) (zIR_s (zIR_s (zIR_s (zIR_s (zIR_s (zIR_s (zIR_k (by omega) (by omega)))))))) rfl rfl rfl ?_
                  intro M388 hJ389 f390 hn391
                  refine w_lo dX9_blame_13 rfl rfl rfl rfl ?_
                  refine w_lo dX9_blame_14 rfl rfl rfl rfl ?_
                  refine w_pfi dX9_blame_15 rfl hJ389 zs_386 (Nat.le_of_ble_eq_true rfl) zo_386_9 (by omega) (by omega) (zIR_s (zIR_s (zIR_s (zIR_s (zIR_s (zIR_s (zIR_s (zIR_k (by omega) (by omega))))))))) rfl rfl rfl ?_
                  intro M392 hJ393 f394 hn395
                  refine w_en dX9_blame_18 rfl ?_
                  show ZW _ _ _ _ _ _ _ (54, [some (.ref 386), some (.int 0), some (.int 10), none], [], M392)
                  refine w_lo dX9_number_54 rfl rfl rfl rfl ?_
                  have f396 := (hn395 (386) 6 (Or.inr (by decide))).trans ((hn391 (386) 6 (Or.inr (by decide))).trans (f362))
                  refine w_gf dX9_number_55 rfl hJ393.1.1 zs_386 f396 ?_
                  refine w_lo (ml' := [some (.ref 386), some (.int 0), some (.int 10), some (.int x361)]) dX9_number_58 rfl rfl rfl rfl ?_
                  refine w_lo dX9_number_59 rfl rfl rfl rfl ?_
                  have f397 := (hn395 (386) 8 (Or.inr (by decide))).trans (f390)
                  refine w_gf dX9_number_60 rfl hJ393.1.1 zs_386 f397 ?_
                  refine w_ine_t dX9_number_63 (t := 70) rfl (by have := zt_4; omega) ?_
                  refine w_lo dX9_number_70 rfl rfl rfl rfl ?_
                  refine w_eni dX9_number_71 rfl rfl ?_
                  show ZW _ _ _ _ _ _ _ (31, [some (.ref 386), some (.int x296), none], [.int x361], M392)
                  refine w_lo (ml' := [some (.ref 386), some (.int x296), some (.int x361)]) dX9_slacking_31 rfl rfl rfl rfl ?_
                  refine w_lo dX9_slacking_32 rfl rfl rfl rfl ?_
                  refine w_gf dX9_slacking_33 rfl hJ393.1.1 zs_386 f397 ?_
                  refine w_ine_t dX9_slacking_36 (t := 54) rfl (by have := zt_4; omega) ?_
                  refine w_en dX9_slacking_54 rfl ?_
                  have f398 := (hn395 (386) 2 (Or.inr (by decide))).trans ((hn391 (386) 2 (Or.inr (by decide))).trans (f323))
                  have f399 := (hn395 (386) 3 (Or.inr (by decide))).trans ((hn391 (386) 3 (Or.inr (by decide))).trans (f326))
                  have f400 := (hn395 (386) 5 (Or.inr (by decide))).trans ((hn391 (386) 5 (Or.inr (by decide))).trans (f330))
                  exact ⟨_, rfl, hJ393, ⟨x322, f398, (by omega), x325, f399, (by omega), (by omega), x329, f400, (by omega), (by omega), (by omega), 4, f397, (by have := zt_4; omega), (by have := zt_4; omega), (by have := zt_4; omega), trivial⟩⟩
                · skip
                  refine w_cgt_f dX9_is_7 (t := 14) rfl (by have := zt_10; omega) ?_
                  refine w_ic dX9_is_10 zi_1 ?_
                  refine w_gt dX9_is_11 (t := 15) rfl ?_
                  refine w_en dX9_is_15 rfl ?_
                  show ZW _ _ _ _ _ _ _ (42, [some (.ref 386), some (.int 0), some (.int 10), none], [.int 1], M315)
                  refine w_ine_t dX9_number_42 (t := 54) rfl (by have := zt_1; omega) ?_
                  refine w_lo dX9_number_54 rfl rfl rfl rfl ?_
                  refine w_gf dX9_number_55 rfl hJ321.1.1 zs_386 f362 ?_
                  refine w_lo (ml' := [some (.ref 386), some (.int 0), some (.int 10), some (.int x361)]) dX9_number_58 rfl rfl rfl rfl ?_
                  refine w_lo dX9_number_59 rfl rfl rfl rfl ?_
                  refine w_gf dX9_number_60 rfl hJ321.1.1 zs_386 f335 ?_
                  refine w_ine_f dX9_number_63 (t := 70) rfl (by omega) ?_
                  refine w_lo dX9_number_66 rfl rfl rfl rfl ?_
                  refine w_iv dX9_number_67 rfl rfl (As := []) rfl rfl hJ321.1.1 zs_386 (Nat.le_of_ble_eq_true rfl) ?_
                  refine ZV.imp (k_2310 x322 f323 (by omega) (by omega) x325 f326 (by omega) (by omega) x329 f330 (by omega) (by omega) x334 f335 (by omega) (by omega) hN hJ321.1) ?_
                  rintro _ ⟨M401, rfl, hJ402, hq403⟩
                  have hJ404 := zJ_trans hJ321 hJ402 (zSub_cons (fun _ _ h h' hk => zIR_s (zIR_e (by omega) (by omega) hk)) (zSub_cons (fun _ _ h h' hk => zIR_s (zIR_s (zIR_e (by omega) (by omega) hk))) (zSub_cons (fun _ _ h h' hk => zIR_s (zIR_s (zIR_s (zIR_e (by omega) (by omega) hk)))) (zSub_cons (fun _ _ h h' hk => zIR_s (zIR_s (zIR_s (zIR_s (zIR_e (by omega) (by omega) hk))))) (zSub_cons (fun _ _ h h' hk => zIR_s (zIR_s (zIR_s (zIR_s (zIR_s (zIR_e (by omega) (by omega) hk)))))) (zSub_cons (fun _ _ h h' hk => zIR_s (zIR_s (zIR_s (zIR_s (zIR_s (zIR_s (zIR_e (by omega) (by omega) hk))))))) (zSub_cons (fun _ _ h h' hk => zIR_s (zIR_s (zIR_s (zIR_s (zIR_s (zIR_s (zIR_s (zIR_e (by omega) (by omega) hk)))))))) zSub_nil)))))))
                  obtain ⟨x405, f406, h407, x408, f409, h410, h411, x412, f413, h414, h415, x416, f417, h418, h419, h420, x421, f422, h423, h424, -⟩ := hq403
                  show ZW _ _ _ _ _ _ _ (70, [some (.ref 386), some (.int 0), some (.int 10), some (.int x361)], [], M401)
                  refine w_lo dX9_number_70 rfl rfl rfl rfl ?_
                  refine w_eni dX9_number_71 rfl rfl ?_
                  show ZW _ _ _ _ _ _ _ (31, [some (.ref 386), some (.int x296), none], [.int x361], M401)
                  refine w_lo (ml' := [some (.ref 386), some (.int x296), some (.int x361)]) dX9_slacking_31 rfl rfl rfl rfl ?_
                  refine w_lo dX9_slacking_32 rfl rfl rfl rfl ?_
                  refine w_gf dX9_slacking_33 rfl hJ404.1.1 zs_386 f422 ?_
                  rcases Int.decEq x421.toInt (0 : Int) with h425 | h425
                  · skip
                    refine w_ine_t dX9_slacking_36 (t := 54) rfl (by omega) ?_
                    refine w_en dX9_slacking_54 rfl ?_
                    exact ⟨_, rfl, hJ404, ⟨x405, f406, (by omega), x408, f409, (by omega), (by omega), x416, f417, (by omega), (by omega), (by omega), x421, f422, (by omega), (by omega), (by omega), trivial⟩⟩
                  · skip
                    refine w_ine_f dX9_slacking_36 (t := 54) rfl (by omega) ?_
                    refine w_lo dX9_slacking_39 rfl rfl rfl rfl ?_
                    refine w_gf dX9_slacking_40 rfl hJ404.1.1 zs_386 (zr_386_20 hJ404.1) ?_
                    refine w_bi dX9_slacking_43 (c := 11) (by decide) ?_
                    refine w_lo dX9_slacking_45 rfl rfl rfl rfl ?_
                    refine w_gfi dX9_slacking_46 rfl hJ404.1 zs_386 (Nat.le_of_ble_eq_true rfl) zo_386_35 ?_
                    intro x426 f427 h428 h429
                    refine w_mulc dX9_slacking_49 zt_11 (by have := zt_11; omega) ?_
                    intro x430 h431
                    have := zt_11
                    refine w_lo dX9_slacking_50 rfl rfl rfl rfl ?_
                    refine w_add dX9_slacking_51 (by omega) ?_
                    intro x432 h433
                    refine w_lo dX9_slacking_52 rfl rfl rfl rfl ?_
                    refine w_isi dX9_slacking_53 hJ404 zs_395 (by omega) (by omega) zu_395 (zbot _) (ztop _) (zIR_a (by omega) (by omega)) ?_
                    intro M434 hJ435 f436 hn437
                    refine w_en dX9_slacking_54 rfl ?_
                    have f438 := (hn437 (386) 2 (Or.inl (by omega))).trans (f406)
                    have f439 := (hn437 (386) 3 (Or.inl (by omega))).trans (f409)
                    have f440 := (hn437 (386) 5 (Or.inl (by omega))).trans (f417)
                    have f441 := (hn437 (386) 8 (Or.inl (by omega))).trans (f422)
                    exact ⟨_, rfl, hJ435, ⟨x405, f438, (by omega), x408, f439, (by omega), (by omega), x416, f440, (by omega), (by omega), (by omega), x421, f441, (by omega), (by omega), (by omega), trivial⟩⟩
        · skip
          refine w_clt_f dX9_is_2 (t := 14) rfl (by have := zt_0; omega) ?_
          refine w_lo dX9_is_5 rfl rfl rfl rfl ?_
          refine w_lo dX9_is_6 rfl rfl rfl rfl ?_
          rcases zcut (99 : Int) x296.toInt with h442 | h442
          · skip
            refine w_cgt_t dX9_is_7 (t := 14) rfl (by have := zt_99; omega) ?_
            refine w_ic dX9_is_14 zi_0 ?_
            refine w_en dX9_is_15 rfl ?_
            show ZW _ _ _ _ _ _ _ (42, [some (.ref 386), some (.int 0), some (.int 99), none], [.int 0], M1)
            refine w_ine_f dX9_number_42 (t := 54) rfl (by have := zt_0; omega) ?_
            refine w_lo dX9_number_45 rfl rfl rfl rfl ?_
            refine w_ic dX9_number_46 zi_4 ?_
            refine w_lo dX9_number_47 rfl rfl rfl rfl ?_
            refine w_gfi dX9_number_48 rfl hJ7.1 zs_386 (Nat.le_of_ble_eq_true rfl) zo_386_4 ?_
            intro x443 f444 h445 h446
            refine w_iv dX9_number_51 rfl rfl (As := [.int 4, .int x443]) rfl rfl hJ7.1.1 zs_386 (Nat.le_of_ble_eq_true rfl) ?_
            refine ZV.of (ini := false) rfl (Nat.le_of_ble_eq_true rfl) (by decide +kernel) ?_
            show ZW _ _ _ _ _ _ _ (0, [some (.ref 386), some (.int 4), some (.int x443)], [], M1)
            refine w_lo dX9_blame_0 rfl rfl rfl rfl ?_
            refine w_gf dX9_blame_1 rfl hJ7.1.1 zs_386 f21 ?_
            refine w_ile_t dX9_blame_4 (t := 8) rfl (by omega) ?_
            refine w_lo dX9_blame_8 rfl rfl rfl rfl ?_
            refine w_lo dX9_blame_9 rfl rfl rfl rfl ?_
            refine w_pfi dX9_blame_10 rfl hJ7 zs_386 (Nat.le_of_ble_eq_true rfl) zo_386_8 (by have := zt_4; omega) (by have := zt_4; omega) (zIR_s (zIR_s (zIR_s (zIR_s (zIR_s (zIR_s (zIR_k (by omega) (by omega)))))))) rfl rfl rfl ?_
            intro M447 hJ448 f449 hn450
            refine w_lo dX9_blame_13 rfl rfl rfl rfl ?_
            refine w_lo dX9_blame_14 rfl rfl rfl rfl ?_
            refine w_pfi dX9_blame_15 rfl hJ448 zs_386 (Nat.le_of_ble_eq_true rfl) zo_386_9 (by omega) (by omega) (zIR_s (zIR_s (zIR_s (zIR_s (zIR_s (zIR_s (zIR_s (zIR_k (by omega) (by omega))))))))) rfl rfl rfl ?_
            intro M451 hJ452 f453 hn454
            refine w_en dX9_blame_18 rfl ?_
            show ZW _ _ _ _ _ _ _ (54, [some (.ref 386), some (.int 0), some (.int 99), none], [], M451)
            refine w_lo dX9_number_54 rfl rfl rfl rfl ?_
            have f455 := (hn454 (386) 6 (Or.inr (by decide))).trans ((hn450 (386) 6 (Or.inr (by decide))).trans (f297))
            refine w_gf dX9_number_55 rfl hJ452.1.1 zs_386 f455 ?_
            refine w_lo (ml' := [some (.ref 386), some (.int 0), some (.int 99), some (.int x296)]) dX9_number_58 rfl rfl rfl rfl ?_
            refine w_lo dX9_number_59 rfl rfl rfl rfl ?_
            have f456 := (hn454 (386) 8 (Or.inr (by decide))).trans (f449)
            refine w_gf dX9_number_60 rfl hJ452.1.1 zs_386 f456 ?_
            refine w_ine_t dX9_number_63 (t := 70) rfl (by have := zt_4; omega) ?_
            refine w_lo dX9_number_70 rfl rfl rfl rfl ?_
            refine w_eni dX9_number_71 rfl rfl ?_
            show ZW _ _ _ _ _ _ _ (16, [some (.ref 386), none, none], [.int x296], M451)
            refine w_lo (ml' := [some (.ref 386), some (.int x296), none]) dX9_slacking_16 rfl rfl rfl rfl ?_
            refine w_lo dX9_slacking_17 rfl rfl rfl rfl ?_
            refine w_me (st' := [.long (24948 : Int64), .ref 386]) dX9_slacking_18 rfl rfl rfl rfl rfl ?_
            have f459 := (hn454 (386) 2 (Or.inr (by decide))).trans ((hn450 (386) 2 (Or.inr (by decide))).trans (f9))
            have f460 := (hn454 (386) 3 (Or.inr (by decide))).trans ((hn450 (386) 3 (Or.inr (by decide))).trans (f12))
            have f461 := (hn454 (386) 5 (Or.inr (by decide))).trans ((hn450 (386) 5 (Or.inr (by decide))).trans (f16))
            refine w_iv dX9_slacking_21 rfl rfl (As := [.long (24948 : Int64)]) rfl rfl hJ452.1.1 zs_386 (Nat.le_of_ble_eq_true rfl) ?_
            refine ZV.imp (k_2321 (24948 : Int64) x8 f459 (by have := zt_4; omega) (by have := zt_4; omega) x11 f460 (by have := zt_4; omega) (by have := zt_4; omega) x15 f461 (by have := zt_4; omega) (by have := zt_4; omega) 4 f456 (by have := zt_4; omega) (by have := zt_4; omega) hN hJ452.1) ?_
            rintro _ ⟨M457, rfl, hJ458, hq462⟩
            have hJ463 := zJ_trans hJ452 hJ458 (zSub_cons (fun _ _ h h' hk => zIR_s (zIR_e (by omega) (by omega) hk)) (zSub_cons (fun _ _ h h' hk => zIR_s (zIR_s (zIR_e (by omega) (by omega) hk))) (zSub_cons (fun _ _ h h' hk => zIR_s (zIR_s (zIR_s (zIR_e (by omega) (by omega) hk)))) (zSub_cons (fun _ _ h h' hk => zIR_s (zIR_s (zIR_s (zIR_s (zIR_e (by omega) (by omega) hk))))) (zSub_cons (fun _ _ h h' hk => zIR_s (zIR_s (zIR_s (zIR_s (zIR_s (zIR_e (by omega) (by omega) hk)))))) (zSub_cons (fun _ _ h h' hk => zIR_s (zIR_s (zIR_s (zIR_s (zIR_s (zIR_s (zIR_e (by omega) (by omega) hk))))))) (zSub_cons (fun _ _ h h' hk => zIR_s (zIR_s (zIR_s (zIR_s (zIR_s (zIR_s (zIR_s (zIR_e (by omega) (by omega) hk)))))))) zSub_nil)))))))
            obtain ⟨x464, f465, h466, x467, f468, h469, h470, x471, f472, h473, h474, h475, x476, f477, h478, h479, h480, -⟩ := hq462
            have := zt_4
            show ZW _ _ _ _ _ _ _ (24, [some (.ref 386), some (.int x296), none], [], M457)
            refine w_lo dX9_slacking_24 rfl rfl rfl rfl ?_
            refine w_ic dX9_slacking_25 zi_0 ?_
            refine w_bi dX9_slacking_26 (c := 10) (by decide) ?_
            refine w_iv dX9_slacking_28 rfl rfl (As := [.int 0, .int 10]) rfl rfl hJ463.1.1 zs_386 (Nat.le_of_ble_eq_true rfl) ?_
            refine ZV.of (ini := false) rfl (Nat.le_of_ble_eq_true rfl) (by decide +kernel) ?_
            show ZW _ _ _ _ _ _ _ (0, [some (.ref 386), some (.int 0), some (.int 10), none], [], M457)
            refine w_lo dX9_number_0 rfl rfl rfl rfl ?_
            refine w_gf dX9_number_1 rfl hJ463.1.1 zs_386 f477 ?_
            rcases zcut (0 : Int) x476.toInt with h481 | h481
            · skip
              refine w_ile_f dX9_number_4 (t := 9) rfl (by omega) ?_
              refine w_ic dX9_number_7 zi_0 ?_
              refine w_en dX9_number_8 rfl ?_
              show ZW _ _ _ _ _ _ _ (31, [some (.ref 386), some (.int x296), none], [.int 0], M457)
              refine w_lo (ml' := [some (.ref 386), some (.int x296), some (.int 0)]) dX9_slacking_31 rfl rfl rfl rfl ?_
              refine w_lo dX9_slacking_32 rfl rfl rfl rfl ?_
              refine w_gf dX9_slacking_33 rfl hJ463.1.1 zs_386 f477 ?_
              refine w_ine_t dX9_slacking_36 (t := 54) rfl (by omega) ?_
              refine w_en dX9_slacking_54 rfl ?_
              exact ⟨_, rfl, hJ463, ⟨x464, f465, (by omega), x467, f468, (by omega), (by omega), x471, f472, (by omega), (by omega), (by omega), x476, f477, (by omega), (by omega), (by omega), trivial⟩⟩
            · skip
              refine w_ile_t dX9_number_4 (t := 9) rfl (by omega) ?_
              refine w_lo dX9_number_9 rfl rfl rfl rfl ?_
              refine w_gf dX9_number_10 rfl hJ463.1.1 zs_386 f468 ?_
              refine w_ic dX9_number_13 zi_2 ?_
              rcases Int.decEq x467.toInt (2 : Int) with h482 | h482
              · skip
                refine w_ceq_f dX9_number_14 (t := 26) rfl (by have := zt_2; omega) ?_
                refine w_lo dX9_number_17 rfl rfl rfl rfl ?_
                refine w_ic dX9_number_18 zi_1 ?_
                refine w_lo dX9_number_19 rfl rfl rfl rfl ?_
                refine w_gfi dX9_number_20 rfl hJ463.1 zs_386 (Nat.le_of_ble_eq_true rfl) zo_386_4 ?_
                intro x483 f484 h485 h486
                refine w_iv dX9_number_23 rfl rfl (As := [.int 1, .int x483]) rfl rfl hJ463.1.1 zs_386 (Nat.le_of_ble_eq_true rfl) ?_
                refine ZV.of (ini := false) rfl (Nat.le_of_ble_eq_true rfl) (by decide +kernel) ?_
                show ZW _ _ _ _ _ _ _ (0, [some (.ref 386), some (.int 1), some (.int x483)], [], M457)
                refine w_lo dX9_blame_0 rfl rfl rfl rfl ?_
                refine w_gf dX9_blame_1 rfl hJ463.1.1 zs_386 f477 ?_
                refine w_ile_t dX9_blame_4 (t := 8) rfl (by omega) ?_
                refine w_lo dX9_blame_8 rfl rfl rfl rfl ?_
                refine w_lo dX9_blame_9 rfl rfl rfl rfl ?_
                refine w_pfi dX9_blame_10 rfl hJ463 zs_386 (Nat.le_of_ble_eq_true rfl) zo_386_8 (by have := zt_1; omega) (by have := zt_1; omega) (zIR_s (zIR_s (zIR_s (zIR_s (zIR_s (zIR_s (zIR_k (by omega) (by omega)))))))) rfl rfl rfl ?_
                intro M487 hJ488 f489 hn490
                refine w_lo dX9_blame_13 rfl rfl rfl rfl ?_
                refine w_lo dX9_blame_14 rfl rfl rfl rfl ?_
                refine w_pfi dX9_blame_15 rfl hJ488 zs_386 (Nat.le_of_ble_eq_true rfl) zo_386_9 (by omega) (by omega) (zIR_s (zIR_s (zIR_s (zIR_s (zIR_s (zIR_s (zIR_s (zIR_k (by omega) (by omega))))))))) rfl rfl rfl ?_
                intro M491 hJ492 f493 hn494
                refine w_en dX9_blame_18 rfl ?_
                show ZW _ _ _ _ _ _ _ (26, [some (.ref 386), some (.int 0), some (.int 10), none], [], M491)
                refine w_lo dX9_number_26 rfl rfl rfl rfl ?_
                have f495 := (hn494 (386) 8 (Or.inr (by decide))).trans (f489)
                refine w_gf dX9_number_27 rfl hJ492.1.1 zs_386 f495 ?_
                refine w_ine_t dX9_number_30 (t := 54) rfl (by have := zt_1; omega) ?_
                refine w_lo dX9_number_54 rfl rfl rfl rfl ?_
                refine w_gfi dX9_number_55 rfl hJ492.1 zs_386 (Nat.le_of_ble_eq_true rfl) zo_386_6 ?_
                intro x496 f497 h498 h499
                refine w_lo (ml' := [some (.ref 386), some (.int 0), some (.int 10), some (.int x496)]) dX9_number_58 rfl rfl rfl rfl ?_
                refine w_lo dX9_number_59 rfl rfl rfl rfl ?_
                refine w_gf dX9_number_60 rfl hJ492.1.1 zs_386 f495 ?_
                refine w_ine_t dX9_number_63 (t := 70) rfl (by have := zt_1; omega) ?_
                refine w_lo dX9_number_70 rfl rfl rfl rfl ?_
                refine w_eni dX9_number_71 rfl rfl ?_
                show ZW _ _ _ _ _ _ _ (31, [some (.ref 386), some (.int x296), none], [.int x496], M491)
                refine w_lo (ml' := [some (.ref 386), some (.int x296), some (.int x496)]) dX9_slacking_31 rfl rfl rfl rfl ?_
                refine w_lo dX9_slacking_32 rfl rfl rfl rfl ?_
                refine w_gf dX9_slacking_33 rfl hJ492.1.1 zs_386 f495 ?_
                refine w_ine_t dX9_slacking_36 (t := 54) rfl (by have := zt_1; omega) ?_
                refine w_en dX9_slacking_54 rfl ?_
                have f500 := (hn494 (386) 2 (Or.inr (by decide))).trans ((hn490 (386) 2 (Or.inr (by decide))).trans (f465))
                have f501 := (hn494 (386) 3 (Or.inr (by decide))).trans ((hn490 (386) 3 (Or.inr (by decide))).trans (f468))
                have f502 := (hn494 (386) 5 (Or.inr (by decide))).trans ((hn490 (386) 5 (Or.inr (by decide))).trans (f472))
                exact ⟨_, rfl, hJ492, ⟨x464, f500, (by omega), x467, f501, (by omega), (by omega), x471, f502, (by omega), (by omega), (by omega), 1, f495, (by have := zt_1; omega), (by have := zt_1; omega), (by have := zt_1; omega), trivial⟩⟩
              · skip
                refine w_ceq_t dX9_number_14 (t := 26) rfl (by have := zt_2; omega) ?_
                refine w_lo dX9_number_26 rfl rfl rfl rfl ?_
                refine w_gf dX9_number_27 rfl hJ463.1.1 zs_386 f477 ?_
                refine w_ine_f dX9_number_30 (t := 54) rfl (by omega) ?_
                refine w_lo dX9_number_33 rfl rfl rfl rfl ?_
                refine w_gfi dX9_number_34 rfl hJ463.1 zs_386 (Nat.le_of_ble_eq_true rfl) zo_386_6 ?_
                intro x503 f504 h505 h506
                refine w_lo dX9_number_37 rfl rfl rfl rfl ?_
                refine w_lo dX9_number_38 rfl rfl rfl rfl ?_
                refine w_ss dX9_number_39 rfl rfl (As := [.int x503, .int 0, .int 10]) rfl rfl (Nat.le_of_ble_eq_true rfl) ?_
                refine ZV.of (ini := false) rfl (Nat.le_of_ble_eq_true rfl) (by decide +kernel) ?_
                show ZW _ _ _ _ _ _ _ (0, [some (.int x503), some (.int 0), some (.int 10)], [], M457)
                refine w_lo dX9_is_0 rfl rfl rfl rfl ?_
                refine w_lo dX9_is_1 rfl rfl rfl rfl ?_
                rcases zcut x503.toInt (0 : Int) with h507 | h507
                · skip
                  refine w_clt_t dX9_is_2 (t := 14) rfl (by have := zt_0; omega) ?_
                  refine w_ic dX9_is_14 zi_0 ?_
                  refine w_en dX9_is_15 rfl ?_
                  show ZW _ _ _ _ _ _ _ (42, [some (.ref 386), some (.int 0), some (.int 10), none], [.int 0], M457)
                  refine w_ine_f dX9_number_42 (t := 54) rfl (by have := zt_0; omega) ?_
                  refine w_lo dX9_number_45 rfl rfl rfl rfl ?_
                  refine w_ic dX9_number_46 zi_4 ?_
                  refine w_lo dX9_number_47 rfl rfl rfl rfl ?_
                  refine w_gfi dX9_number_48 rfl hJ463.1 zs_386 (Nat.le_of_ble_eq_true rfl) zo_386_4 ?_
                  intro x508 f509 h510 h511
                  refine w_iv dX9_number_51 rfl rfl (As := [.int 4, .int x508]) rfl rfl hJ463.1.1 zs_386 (Nat.le_of_ble_eq_true rfl) ?_
                  refine ZV.of (ini := false) rfl (Nat.le_of_ble_eq_true rfl) (by decide +kernel) ?_
                  show ZW _ _ _ _ _ _ _ (0, [some (.ref 386), some (.int 4), some (.int x508)], [], M457)
                  refine w_lo dX9_blame_0 rfl rfl rfl rfl ?_
                  refine w_gf dX9_blame_1 rfl hJ463.1.1 zs_386 f477 ?_
                  refine w_ile_t dX9_blame_4 (t := 8) rfl (by omega) ?_
                  refine w_lo dX9_blame_8 rfl rfl rfl rfl ?_
                  refine w_lo dX9_blame_9 rfl rfl rfl rfl ?_
                  refine w_pfi dX9_blame_10 rfl hJ463 zs_386 (Nat.le_of_ble_eq_true rfl) zo_386_8 (by have := zt_4; omega) (by have := zt_4; omega) (zIR_s (zIR_s (zIR_s (zIR_s (zIR_s (zIR_s (zIR_k (by omega) (by omega)))))))) rfl rfl rfl ?_
                  intro M512 hJ513 f514 hn515
                  refine w_lo dX9_blame_13 rfl rfl rfl rfl ?_
                  refine w_lo dX9_blame_14 rfl rfl rfl rfl ?_
                  refine w_pfi dX9_blame_15 rfl hJ513 zs_386 (Nat.le_of_ble_eq_true rfl) zo_386_9 (by omega) (by omega) (zIR_s (zIR_s (zIR_s (zIR_s (zIR_s (zIR_s (zIR_s (zIR_k (by omega) (by omega))))))))) rfl rfl rfl ?_
                  intro M516 hJ517 f518 hn519
                  refine w_en dX9_blame_18 rfl ?_
                  show ZW _ _ _ _ _ _ _ (54, [some (.ref 386), some (.int 0), some (.int 10), none], [], M516)
                  refine w_lo dX9_number_54 rfl rfl rfl rfl ?_
                  have f520 := (hn519 (386) 6 (Or.inr (by decide))).trans ((hn515 (386) 6 (Or.inr (by decide))).trans (f504))
                  refine w_gf dX9_number_55 rfl hJ517.1.1 zs_386 f520 ?_
                  refine w_lo (ml' := [some (.ref 386), some (.int 0), some (.int 10), some (.int x503)]) dX9_number_58 rfl rfl rfl rfl ?_
                  refine w_lo dX9_number_59 rfl rfl rfl rfl ?_
                  have f521 := (hn519 (386) 8 (Or.inr (by decide))).trans (f514)
                  refine w_gf dX9_number_60 rfl hJ517.1.1 zs_386 f521 ?_
                  refine w_ine_t dX9_number_63 (t := 70) rfl (by have := zt_4; omega) ?_
                  refine w_lo dX9_number_70 rfl rfl rfl rfl ?_
                  refine w_eni dX9_number_71 rfl rfl ?_
                  show ZW _ _ _ _ _ _ _ (31, [some (.ref 386), some (.int x296), none], [.int x503], M516)
                  refine w_lo (ml' := [some (.ref 386), some (.int x296), some (.int x503)]) dX9_slacking_31 rfl rfl rfl rfl ?_
                  refine w_lo dX9_slacking_32 rfl rfl rfl rfl ?_
                  refine w_gf dX9_slacking_33 rfl hJ517.1.1 zs_386 f521 ?_
                  refine w_ine_t dX9_slacking_36 (t := 54) rfl (by have := zt_4; omega) ?_
                  refine w_en dX9_slacking_54 rfl ?_
                  have f522 := (hn519 (386) 2 (Or.inr (by decide))).trans ((hn515 (386) 2 (Or.inr (by decide))).trans (f465))
                  have f523 := (hn519 (386) 3 (Or.inr (by decide))).trans ((hn515 (386) 3 (Or.inr (by decide))).trans (f468))
                  have f524 := (hn519 (386) 5 (Or.inr (by decide))).trans ((hn515 (386) 5 (Or.inr (by decide))).trans (f472))
                  exact ⟨_, rfl, hJ517, ⟨x464, f522, (by omega), x467, f523, (by omega), (by omega), x471, f524, (by omega), (by omega), (by omega), 4, f521, (by have := zt_4; omega), (by have := zt_4; omega), (by have := zt_4; omega), trivial⟩⟩
                · skip
                  refine w_clt_f dX9_is_2 (t := 14) rfl (by have := zt_0; omega) ?_
                  refine w_lo dX9_is_5 rfl rfl rfl rfl ?_
                  refine w_lo dX9_is_6 rfl rfl rfl rfl ?_
                  rcases zcut (10 : Int) x503.toInt with h525 | h525
                  · skip
                    refine w_cgt_t dX9_is_7 (t := 14) rfl (by have := zt_10; omega) ?_
                    refine w_ic dX9_is_14 zi_0 ?_
                    refine w_en dX9_is_15 rfl ?_
                    show ZW _ _ _ _ _ _ _ (42, [some (.ref 386), some (.int 0), some (.int 10), none], [.int 0], M457)
                    refine w_ine_f dX9_number_42 (t := 54) rfl (by have := zt_0; omega) ?_
                    refine w_lo dX9_number_45 rfl rfl rfl rfl ?_
                    refine w_ic dX9_number_46 zi_4 ?_
                    refine w_lo dX9_number_47 rfl rfl rfl rfl ?_
                    refine w_gfi dX9_number_48 rfl hJ463.1 zs_386 (Nat.le_of_ble_eq_true rfl) zo_386_4 ?_
                    intro x526 f527 h528 h529
                    refine w_iv dX9_number_51 rfl rfl (As := [.int 4, .int x526]) rfl rfl hJ463.1.1 zs_386 (Nat.le_of_ble_eq_true rfl) ?_
                    refine ZV.of (ini := false) rfl (Nat.le_of_ble_eq_true rfl) (by decide +kernel) ?_
                    show ZW _ _ _ _ _ _ _ (0, [some (.ref 386), some (.int 4), some (.int x526)], [], M457)
                    refine w_lo dX9_blame_0 rfl rfl rfl rfl ?_
                    refine w_gf dX9_blame_1 rfl hJ463.1.1 zs_386 f477 ?_
                    refine w_ile_t dX9_blame_4 (t := 8) rfl (by omega) ?_
                    refine w_lo dX9_blame_8 rfl rfl rfl rfl ?_
                    refine w_lo dX9_blame_9 rfl rfl rfl rfl ?_
                    refine w_pfi dX9_blame_10 rfl hJ463 zs_386 (Nat.le_of_ble_eq_true rfl) zo_386_8 (by have := zt_4; omega) (by have := zt_4; omega) (zIR_s (zIR_s (zIR_s (zIR_s (zIR_s (zIR_s (zIR_k (by omega) (by omega)))))))) rfl rfl rfl ?_
                    intro M530 hJ531 f532 hn533
                    refine w_lo dX9_blame_13 rfl rfl rfl rfl ?_
                    refine w_lo dX9_blame_14 rfl rfl rfl rfl ?_
                    refine w_pfi dX9_blame_15 rfl hJ531 zs_386 (Nat.le_of_ble_eq_true rfl) zo_386_9 (by omega) (by omega) (zIR_s (zIR_s (zIR_s (zIR_s (zIR_s (zIR_s (zIR_s (zIR_k (by omega) (by omega))))))))) rfl rfl rfl ?_
                    intro M534 hJ535 f536 hn537
                    refine w_en dX9_blame_18 rfl ?_
                    show ZW _ _ _ _ _ _ _ (54, [some (.ref 386), some (.int 0), some (.int 10), none], [], M534)
                    refine w_lo dX9_number_54 rfl rfl rfl rfl ?_
                    have f538 := (hn537 (386) 6 (Or.inr (by decide))).trans ((hn533 (386) 6 (Or.inr (by decide))).trans (f504))
                    refine w_gf dX9_number_55 rfl hJ535.1.1 zs_386 f538 ?_
                    refine w_lo (ml' := [some (.ref 386), some (.int 0), some (.int 10), some (.int x503)]) dX9_number_58 rfl rfl rfl rfl ?_
                    refine w_lo dX9_number_59 rfl rfl rfl rfl ?_
                    have f539 := (hn537 (386) 8 (Or.inr (by decide))).trans (f532)
                    refine w_gf dX9_number_60 rfl hJ535.1.1 zs_386 f539 ?_
                    refine w_ine_t dX9_number_63 (t := 70) rfl (by have := zt_4; omega) ?_
                    refine w_lo dX9_number_70 rfl rfl rfl rfl ?_
                    refine w_eni dX9_number_71 rfl rfl ?_
                    show ZW _ _ _ _ _ _ _ (31, [some (.ref 386), some (.int x296), none], [.int x503], M534)
                    refine w_lo (ml' := [some (.ref 386), some (.int x296), some (.int x503)]) dX9_slacking_31 rfl rfl rfl rfl ?_
                    refine w_lo dX9_slacking_32 rfl rfl rfl rfl ?_
                    refine w_gf dX9_slacking_33 rfl hJ535.1.1 zs_386 f539 ?_
                    refine w_ine_t dX9_slacking_36 (t := 54) rfl (by have := zt_4; omega) ?_
                    refine w_en dX9_slacking_54 rfl ?_
                    have f540 := (hn537 (386) 2 (Or.inr (by decide))).trans ((hn533 (386) 2 (Or.inr (by decide))).trans (f465))
                    have f541 := (hn537 (386) 3 (Or.inr (by decide))).trans ((hn533 (386) 3 (Or.inr (by decide))).trans (f468))
                    have f542 := (hn537 (386) 5 (Or.inr (by decide))).trans ((hn533 (386) 5 (Or.inr (by decide))).trans (f472))
                    exact ⟨_, rfl, hJ535, ⟨x464, f540, (by omega), x467, f541, (by omega), (by omega), x471, f542, (by omega), (by omega), (by omega), 4, f539, (by have := zt_4; omega), (by have := zt_4; omega), (by have := zt_4; omega), trivial⟩⟩
                  · skip
                    refine w_cgt_f dX9_is_7 (t := 14) rfl (by have := zt_10; omega) ?_
                    refine w_ic dX9_is_10 zi_1 ?_
                    refine w_gt dX9_is_11 (t := 15) rfl ?_
                    refine w_en dX9_is_15 rfl ?_
                    show ZW _ _ _ _ _ _ _ (42, [some (.ref 386), some (.int 0), some (.int 10), none], [.int 1], M457)
                    refine w_ine_t dX9_number_42 (t := 54) rfl (by have := zt_1; omega) ?_
                    refine w_lo dX9_number_54 rfl rfl rfl rfl ?_
                    refine w_gf dX9_number_55 rfl hJ463.1.1 zs_386 f504 ?_
                    refine w_lo (ml' := [some (.ref 386), some (.int 0), some (.int 10), some (.int x503)]) dX9_number_58 rfl rfl rfl rfl ?_
                    refine w_lo dX9_number_59 rfl rfl rfl rfl ?_
                    refine w_gf dX9_number_60 rfl hJ463.1.1 zs_386 f477 ?_
                    refine w_ine_f dX9_number_63 (t := 70) rfl (by omega) ?_
                    refine w_lo dX9_number_66 rfl rfl rfl rfl ?_
                    refine w_iv dX9_number_67 rfl rfl (As := []) rfl rfl hJ463.1.1 zs_386 (Nat.le_of_ble_eq_true rfl) ?_
                    refine ZV.imp (k_2310 x464 f465 (by omega) (by omega) x467 f468 (by omega) (by omega) x471 f472 (by omega) (by omega) x476 f477 (by omega) (by omega) hN hJ463.1) ?_
                    rintro _ ⟨M543, rfl, hJ544, hq545⟩
                    have hJ546 := zJ_trans hJ463 hJ544 (zSub_cons (fun _ _ h h' hk => zIR_s (zIR_e (by omega) (by omega) hk)) (zSub_cons (fun _ _ h h' hk => zIR_s (zIR_s (zIR_e (by omega) (by omega) hk))) (zSub_cons (fun _ _ h h' hk => zIR_s (zIR_s (zIR_s (zIR_e (by omega) (by omega) hk)))) (zSub_cons (fun _ _ h h' hk => zIR_s (zIR_s (zIR_s (zIR_s (zIR_e (by omega) (by omega) hk))))) (zSub_cons (fun _ _ h h' hk => zIR_s (zIR_s (zIR_s (zIR_s (zIR_s (zIR_e (by omega) (by omega) hk)))))) (zSub_cons (fun _ _ h h' hk => zIR_s (zIR_s (zIR_s (zIR_s (zIR_s (zIR_s (zIR_e (by omega) (by omega) hk))))))) (zSub_cons (fun _ _ h h' hk => zIR_s (zIR_s (zIR_s (zIR_s (zIR_s (zIR_s (zIR_s (zIR_e (by omega) (by omega) hk)))))))) zSub_nil)))))))
                    obtain ⟨x547, f548, h549, x550, f551, h552, h553, x554, f555, h556, h557, x558, f559, h560, h561, h562, x563, f564, h565, h566, -⟩ := hq545
                    show ZW _ _ _ _ _ _ _ (70, [some (.ref 386), some (.int 0), some (.int 10), some (.int x503)], [], M543)
                    refine w_lo dX9_number_70 rfl rfl rfl rfl ?_
                    refine w_eni dX9_number_71 rfl rfl ?_
                    show ZW _ _ _ _ _ _ _ (31, [some (.ref 386), some (.int x296), none], [.int x503], M543)
                    refine w_lo (ml' := [some (.ref 386), some (.int x296), some (.int x503)]) dX9_slacking_31 rfl rfl rfl rfl ?_
                    refine w_lo dX9_slacking_32 rfl rfl rfl rfl ?_
                    refine w_gf dX9_slacking_33 rfl hJ546.1.1 zs_386 f564 ?_
                    rcases Int.decEq x563.toInt (0 : Int) with h567 | h567
                    · skip
                      refine w_ine_t dX9_slacking_36 (t := 54) rfl (by omega) ?_
                      refine w_en dX9_slacking_54 rfl ?_
                      exact ⟨_, rfl, hJ546, ⟨x547, f548, (by omega), x550, f551, (by omega), (by omega), x558, f559, (by omega), (by omega), (by omega), x563, f564, (by omega), (by omega), (by omega), trivial⟩⟩
                    · skip
                      refine w_ine_f dX9_slacking_36 (t := 54) rfl (by omega) ?_
                      refine w_lo dX9_slacking_39 rfl rfl rfl rfl ?_
                      refine w_gf dX9_slacking_40 rfl hJ546.1.1 zs_386 (zr_386_20 hJ546.1) ?_
                      refine w_bi dX9_slacking_43 (c := 11) (by decide) ?_
                      refine w_lo dX9_slacking_45 rfl rfl rfl rfl ?_
                      refine w_gfi dX9_slacking_46 rfl hJ546.1 zs_386 (Nat.le_of_ble_eq_true rfl) zo_386_35 ?_
                      intro x568 f569 h570 h571
                      refine w_mulc dX9_slacking_49 zt_11 (by have := zt_11; omega) ?_
                      intro x572 h573
                      have := zt_11
                      refine w_lo dX9_slacking_50 rfl rfl rfl rfl ?_
                      refine w_add dX9_slacking_51 (by omega) ?_
                      intro x574 h575
                      refine w_lo dX9_slacking_52 rfl rfl rfl rfl ?_
                      refine w_isi dX9_slacking_53 hJ546 zs_395 (by omega) (by omega) zu_395 (zbot _) (ztop _) (zIR_a (by omega) (by omega)) ?_
                      intro M576 hJ577 f578 hn579
                      refine w_en dX9_slacking_54 rfl ?_
                      have f580 := (hn579 (386) 2 (Or.inl (by omega))).trans (f548)
                      have f581 := (hn579 (386) 3 (Or.inl (by omega))).trans (f551)
                      have f582 := (hn579 (386) 5 (Or.inl (by omega))).trans (f559)
                      have f583 := (hn579 (386) 8 (Or.inl (by omega))).trans (f564)
                      exact ⟨_, rfl, hJ577, ⟨x547, f580, (by omega), x550, f581, (by omega), (by omega), x558, f582, (by omega), (by omega), (by omega), x563, f583, (by omega), (by omega), (by omega), trivial⟩⟩
          · skip
            refine w_cgt_f dX9_is_7 (t := 14) rfl (by have := zt_99; omega) ?_
            refine w_ic dX9_is_10 zi_1 ?_
            refine w_gt dX9_is_11 (t := 15) rfl ?_
            refine w_en dX9_is_15 rfl ?_
            show ZW _ _ _ _ _ _ _ (42, [some (.ref 386), some (.int 0), some (.int 99), none], [.int 1], M1)
            refine w_ine_t dX9_number_42 (t := 54) rfl (by have := zt_1; omega) ?_
            refine w_lo dX9_number_54 rfl rfl rfl rfl ?_
            refine w_gf dX9_number_55 rfl hJ7.1.1 zs_386 f297 ?_
            refine w_lo (ml' := [some (.ref 386), some (.int 0), some (.int 99), some (.int x296)]) dX9_number_58 rfl rfl rfl rfl ?_
            refine w_lo dX9_number_59 rfl rfl rfl rfl ?_
            refine w_gf dX9_number_60 rfl hJ7.1.1 zs_386 f21 ?_
            refine w_ine_f dX9_number_63 (t := 70) rfl (by omega) ?_
            refine w_lo dX9_number_66 rfl rfl rfl rfl ?_
            refine w_iv dX9_number_67 rfl rfl (As := []) rfl rfl hJ7.1.1 zs_386 (Nat.le_of_ble_eq_true rfl) ?_
            refine ZV.imp (k_2310 x8 f9 (by omega) (by omega) x11 f12 (by omega) (by omega) x15 f16 (by omega) (by omega) x20 f21 (by omega) (by omega) hN hJ7.1) ?_
            rintro _ ⟨M584, rfl, hJ585, hq586⟩
            have hJ587 := zJ_trans hJ7 hJ585 (zSub_cons (fun _ _ h h' hk => zIR_s (zIR_e (by omega) (by omega) hk)) (zSub_cons (fun _ _ h h' hk => zIR_s (zIR_s (zIR_e (by omega) (by omega) hk))) (zSub_cons (fun _ _ h h' hk => zIR_s (zIR_s (zIR_s (zIR_e (by omega) (by omega) hk)))) (zSub_cons (fun _ _ h h' hk => zIR_s (zIR_s (zIR_s (zIR_s (zIR_e (by omega) (by omega) hk))))) (zSub_cons (fun _ _ h h' hk => zIR_s (zIR_s (zIR_s (zIR_s (zIR_s (zIR_e (by omega) (by omega) hk)))))) (zSub_cons (fun _ _ h h' hk => zIR_s (zIR_s (zIR_s (zIR_s (zIR_s (zIR_s (zIR_e (by omega) (by omega) hk))))))) (zSub_cons (fun _ _ h h' hk => zIR_s (zIR_s (zIR_s (zIR_s (zIR_s (zIR_s (zIR_s (zIR_e (by omega) (by omega) hk)))))))) zSub_nil)))))))
            obtain ⟨x588, f589, h590, x591, f592, h593, h594, x595, f596, h597, h598, x599, f600, h601, h602, h603, x604, f605, h606, h607, -⟩ := hq586
            show ZW _ _ _ _ _ _ _ (70, [some (.ref 386), some (.int 0), some (.int 99), some (.int x296)], [], M584)
            refine w_lo dX9_number_70 rfl rfl rfl rfl ?_
            refine w_eni dX9_number_71 rfl rfl ?_
            show ZW _ _ _ _ _ _ _ (16, [some (.ref 386), none, none], [.int x296], M584)
            refine w_lo (ml' := [some (.ref 386), some (.int x296), none]) dX9_slacking_16 rfl rfl rfl rfl ?_
            refine w_lo dX9_slacking_17 rfl rfl rfl rfl ?_
            refine w_me (st' := [.long (24948 : Int64), .ref 386]) dX9_slacking_18 rfl rfl rfl rfl rfl ?_
            refine w_iv dX9_slacking_21 rfl rfl (As := [.long (24948 : Int64)]) rfl rfl hJ587.1.1 zs_386 (Nat.le_of_ble_eq_true rfl) ?_
            refine ZV.imp (k_2321 (24948 : Int64) x588 f589 (by omega) (by omega) x591 f592 (by omega) (by omega) x599 f600 (by omega) (by omega) x604 f605 (by omega) (by omega) hN hJ587.1) ?_
            rintro _ ⟨M608, rfl, hJ609, hq610⟩
            have hJ611 := zJ_trans hJ587 hJ609 (zSub_cons (fun _ _ h h' hk => zIR_s (zIR_e (by omega) (by omega) hk)) (zSub_cons (fun _ _ h h' hk => zIR_s (zIR_s (zIR_e (by omega) (by omega) hk))) (zSub_cons (fun _ _ h h' hk => zIR_s (zIR_s (zIR_s (zIR_e (by omega) (by omega) hk)))) (zSub_cons (fun _ _ h h' hk => zIR_s (zIR_s (zIR_s (zIR_s (zIR_e (by omega) (by omega) hk))))) (zSub_cons (fun _ _ h h' hk => zIR_s (zIR_s (zIR_s (zIR_s (zIR_s (zIR_e (by omega) (by omega) hk)))))) (zSub_cons (fun _ _ h h' hk => zIR_s (zIR_s (zIR_s (zIR_s (zIR_s (zIR_s (zIR_e (by omega) (by omega) hk))))))) (zSub_cons (fun _ _ h h' hk => zIR_s (zIR_s (zIR_s (zIR_s (zIR_s (zIR_s (zIR_s (zIR_e (by omega) (by omega) hk)))))))) zSub_nil)))))))
            obtain ⟨x612, f613, h614, x615, f616, h617, h618, x619, f620, h621, h622, h623, x624, f625, h626, h627, h628, -⟩ := hq610
            show ZW _ _ _ _ _ _ _ (24, [some (.ref 386), some (.int x296), none], [], M608)
            refine w_lo dX9_slacking_24 rfl rfl rfl rfl ?_
            refine w_ic dX9_slacking_25 zi_0 ?_
            refine w_bi dX9_slacking_26 (c := 10) (by decide) ?_
            refine w_iv dX9_slacking_28 rfl rfl (As := [.int 0, .int 10]) rfl rfl hJ611.1.1 zs_386 (Nat.le_of_ble_eq_true rfl) ?_
            refine ZV.of (ini := false) rfl (Nat.le_of_ble_eq_true rfl) (by decide +kernel) ?_
            show ZW _ _ _ _ _ _ _ (0, [some (.ref 386), some (.int 0), some (.int 10), none], [], M608)
            refine w_lo dX9_number_0 rfl rfl rfl rfl ?_
            refine w_gf dX9_number_1 rfl hJ611.1.1 zs_386 f625 ?_
            rcases zcut (0 : Int) x624.toInt with h629 | h629
            · skip
              refine w_ile_f dX9_number_4 (t := 9) rfl (by omega) ?_
              refine w_ic dX9_number_7 zi_0 ?_
              refine w_en dX9_number_8 rfl ?_
              show ZW _ _ _ _ _ _ _ (31, [some (.ref 386), some (.int x296), none], [.int 0], M608)
              refine w_lo (ml' := [some (.ref 386), some (.int x296), some (.int 0)]) dX9_slacking_31 rfl rfl rfl rfl ?_
              refine w_lo dX9_slacking_32 rfl rfl rfl rfl ?_
              refine w_gf dX9_slacking_33 rfl hJ611.1.1 zs_386 f625 ?_
              refine w_ine_t dX9_slacking_36 (t := 54) rfl (by omega) ?_
              refine w_en dX9_slacking_54 rfl ?_
              exact ⟨_, rfl, hJ611, ⟨x612, f613, (by omega), x615, f616, (by omega), (by omega), x619, f620, (by omega), (by omega), (by omega), x624, f625, (by omega), (by omega), (by omega), trivial⟩⟩
            · skip
              refine w_ile_t dX9_number_4 (t := 9) rfl (by omega) ?_
              refine w_lo dX9_number_9 rfl rfl rfl rfl ?_
              refine w_gf dX9_number_10 rfl hJ611.1.1 zs_386 f616 ?_
              refine w_ic dX9_number_13 zi_2 ?_
              rcases Int.decEq x615.toInt (2 : Int) with h630 | h630
              · skip
                refine w_ceq_f dX9_number_14 (t := 26) rfl (by have := zt_2; omega) ?_
                refine w_lo dX9_number_17 rfl rfl rfl rfl ?_
                refine w_ic dX9_number_18 zi_1 ?_
                refine w_lo dX9_number_19 rfl rfl rfl rfl ?_
                refine w_gfi dX9_number_20 rfl hJ611.1 zs_386 (Nat.le_of_ble_eq_true rfl) zo_386_4 ?_
                intro x631 f632 h633 h634
                refine w_iv dX9_number_23 rfl rfl (As := [.int 1, .int x631]) rfl rfl hJ611.1.1 zs_386 (Nat.le_of_ble_eq_true rfl) ?_
                refine ZV.of (ini := false) rfl (Nat.le_of_ble_eq_true rfl) (by decide +kernel) ?_
                show ZW _ _ _ _ _ _ _ (0, [some (.ref 386), some (.int 1), some (.int x631)], [], M608)
                refine w_lo dX9_blame_0 rfl rfl rfl rfl ?_
                refine w_gf dX9_blame_1 rfl hJ611.1.1 zs_386 f625 ?_
                refine w_ile_t dX9_blame_4 (t := 8) rfl (by omega) ?_
                refine w_lo dX9_blame_8 rfl rfl rfl rfl ?_
                refine w_lo dX9_blame_9 rfl rfl rfl rfl ?_
                refine w_pfi dX9_blame_10 rfl hJ611 zs_386 (Nat.le_of_ble_eq_true rfl) zo_386_8 (by have := zt_1; omega) (by have := zt_1; omega) (zIR_s (zIR_s (zIR_s (zIR_s (zIR_s (zIR_s (zIR_k (by omega) (by omega)))))))) rfl rfl rfl ?_
                intro M635 hJ636 f637 hn638
                refine w_lo dX9_blame_13 rfl rfl rfl rfl ?_
                refine w_lo dX9_blame_14 rfl rfl rfl rfl ?_
                refine w_pfi dX9_blame_15 rfl hJ636 zs_386 (Nat.le_of_ble_eq_true rfl) zo_386_9 (by omega) (by omega) (zIR_s (zIR_s (zIR_s (zIR_s (zIR_s (zIR_s (zIR_s (zIR_k (by omega) (by omega))))))))) rfl rfl rfl ?_
                intro M639 hJ640 f641 hn642
                refine w_en dX9_blame_18 rfl ?_
                show ZW _ _ _ _ _ _ _ (26, [some (.ref 386), some (.int 0), some (.int 10), none], [], M639)
                refine w_lo dX9_number_26 rfl rfl rfl rfl ?_
                have f643 := (hn642 (386) 8 (Or.inr (by decide))).trans (f637)
                refine w_gf dX9_number_27 rfl hJ640.1.1 zs_386 f643 ?_
                refine w_ine_t dX9_number_30 (t := 54) rfl (by have := zt_1; omega) ?_
                refine w_lo dX9_number_54 rfl rfl rfl rfl ?_
                refine w_gfi dX9_number_55 rfl hJ640.1 zs_386 (Nat.le_of_ble_eq_true rfl) zo_386_6 ?_
                intro x644 f645 h646 h647
                refine w_lo (ml' := [some (.ref 386), some (.int 0), some (.int 10), some (.int x644)]) dX9_number_58 rfl rfl rfl rfl ?_
                refine w_lo dX9_number_59 rfl rfl rfl rfl ?_
                refine w_gf dX9_number_60 rfl hJ640.1.1 zs_386 f643 ?_
                refine w_ine_t dX9_number_63 (t := 70) rfl (by have := zt_1; omega) ?_
                refine w_lo dX9_number_70 rfl rfl rfl rfl ?_
                refine w_eni dX9_number_71 rfl rfl ?_
                show ZW _ _ _ _ _ _ _ (31, [some (.ref 386), some (.int x296), none], [.int x644], M639)
                refine w_lo (ml' := [some (.ref 386), some (.int x296), some (.int x644)]) dX9_slacking_31 rfl rfl rfl rfl ?_
                refine w_lo dX9_slacking_32 rfl rfl rfl rfl ?_
                refine w_gf dX9_slacking_33 rfl hJ640.1.1 zs_386 f643 ?_
                refine w_ine_t dX9_slacking_36 (t := 54) rfl (by have := zt_1; omega) ?_
                refine w_en dX9_slacking_54 rfl ?_
                have f648 := (hn642 (386) 2 (Or.inr (by decide))).trans ((hn638 (386) 2 (Or.inr (by decide))).trans (f613))
                have f649 := (hn642 (386) 3 (Or.inr (by decide))).trans ((hn638 (386) 3 (Or.inr (by decide))).trans (f616))
                have f650 := (hn642 (386) 5 (Or.inr (by decide))).trans ((hn638 (386) 5 (Or.inr (by decide))).trans (f620))
                exact ⟨_, rfl, hJ640, ⟨x612, f648, (by omega), x615, f649, (by omega), (by omega), x619, f650, (by omega), (by omega), (by omega), 1, f643, (by have := zt_1; omega), (by have := zt_1; omega), (by have := zt_1; omega), trivial⟩⟩
              · skip
                refine w_ceq_t dX9_number_14 (t := 26) rfl (by have := zt_2; omega) ?_
                refine w_lo dX9_number_26 rfl rfl rfl rfl ?_
                refine w_gf dX9_number_27 rfl hJ611.1.1 zs_386 f625 ?_
                refine w_ine_f dX9_number_30 (t := 54) rfl (by omega) ?_
                refine w_lo dX9_number_33 rfl rfl rfl rfl ?_
                refine w_gfi dX9_number_34 rfl hJ611.1 zs_386 (Nat.le_of_ble_eq_true rfl) zo_386_6 ?_
                intro x651 f652 h653 h654
                refine w_lo dX9_number_37 rfl rfl rfl rfl ?_
                refine w_lo dX9_number_38 rfl rfl rfl rfl ?_
                refine w_ss dX9_number_39 rfl rfl (As := [.int x651, .int 0, .int 10]) rfl rfl (Nat.le_of_ble_eq_true rfl) ?_
                refine ZV.of (ini := false) rfl (Nat.le_of_ble_eq_true rfl) (by decide +kernel) ?_
                show ZW _ _ _ _ _ _ _ (0, [some (.int x651), some (.int 0), some (.int 10)], [], M608)
                refine w_lo dX9_is_0 rfl rfl rfl rfl ?_
                refine w_lo dX9_is_1 rfl rfl rfl rfl ?_
                rcases zcut x651.toInt (0 : Int) with h655 | h655
                · skip
                  refine w_clt_t dX9_is_2 (t := 14) rfl (by have := zt_0; omega) ?_
                  refine w_ic dX9_is_14 zi_0 ?_
                  refine w_en dX9_is_15 rfl ?_
                  show ZW _ _ _ _ _ _ _ (42, [some (.ref 386), some (.int 0), some (.int 10), none], [.int 0], M608)
                  refine w_ine_f dX9_number_42 (t := 54) rfl (by have := zt_0; omega) ?_
                  refine w_lo dX9_number_45 rfl rfl rfl rfl ?_
                  refine w_ic dX9_number_46 zi_4 ?_
                  refine w_lo dX9_number_47 rfl rfl rfl rfl ?_
                  refine w_gfi dX9_number_48 rfl hJ611.1 zs_386 (Nat.le_of_ble_eq_true rfl) zo_386_4 ?_
                  intro x656 f657 h658 h659
                  refine w_iv dX9_number_51 rfl rfl (As := [.int 4, .int x656]) rfl rfl hJ611.1.1 zs_386 (Nat.le_of_ble_eq_true rfl) ?_
                  refine ZV.of (ini := false) rfl (Nat.le_of_ble_eq_true rfl) (by decide +kernel) ?_
                  show ZW _ _ _ _ _ _ _ (0, [some (.ref 386), some (.int 4), some (.int x656)], [], M608)
                  refine w_lo dX9_blame_0 rfl rfl rfl rfl ?_
                  refine w_gf dX9_blame_1 rfl hJ611.1.1 zs_386 f625 ?_
                  refine w_ile_t dX9_blame_4 (t := 8) rfl (by omega) ?_
                  refine w_lo dX9_blame_8 rfl rfl rfl rfl ?_
                  refine w_lo dX9_blame_9 rfl rfl rfl rfl ?_
                  refine w_pfi dX9_blame_10 rfl hJ611 zs_386 (Nat.le_of_ble_eq_true rfl) zo_386_8 (by have := zt_4; omega) (by have := zt_4; omega) (zIR_s (zIR_s (zIR_s (zIR_s (zIR_s (zIR_s (zIR_k (by omega) (by omega)))))))) rfl rfl rfl ?_
                  intro M660 hJ661 f662 hn663
                  refine w_lo dX9_blame_13 rfl rfl rfl rfl ?_
                  refine w_lo dX9_blame_14 rfl rfl rfl rfl ?_
                  refine w_pfi dX9_blame_15 rfl hJ661 zs_386 (Nat.le_of_ble_eq_true rfl) zo_386_9 (by omega) (by omega) (zIR_s (zIR_s (zIR_s (zIR_s (zIR_s (zIR_s (zIR_s (zIR_k (by omega) (by omega))))))))) rfl rfl rfl ?_
                  intro M664 hJ665 f666 hn667
                  refine w_en dX9_blame_18 rfl ?_
                  show ZW _ _ _ _ _ _ _ (54, [some (.ref 386), some (.int 0), some (.int 10), none], [], M664)
                  refine w_lo dX9_number_54 rfl rfl rfl rfl ?_
                  have f668 := (hn667 (386) 6 (Or.inr (by decide))).trans ((hn663 (386) 6 (Or.inr (by decide))).trans (f652))
                  refine w_gf dX9_number_55 rfl hJ665.1.1 zs_386 f668 ?_
                  refine w_lo (ml' := [some (.ref 386), some (.int 0), some (.int 10), some (.int x651)]) dX9_number_58 rfl rfl rfl rfl ?_
                  refine w_lo dX9_number_59 rfl rfl rfl rfl ?_
                  have f669 := (hn667 (386) 8 (Or.inr (by decide))).trans (f662)
                  refine w_gf dX9_number_60 rfl hJ665.1.1 zs_386 f669 ?_
                  refine w_ine_t dX9_number_63 (t := 70) rfl (by have := zt_4; omega) ?_
                  refine w_lo dX9_number_70 rfl rfl rfl rfl ?_
                  refine w_eni dX9_number_71 rfl rfl ?_
                  show ZW _ _ _ _ _ _ _ (31, [some (.ref 386), some (.int x296), none], [.int x651], M664)
                  refine w_lo (ml' := [some (.ref 386), some (.int x296), some (.int x651)]) dX9_slacking_31 rfl rfl rfl rfl ?_
                  refine w_lo dX9_slacking_32 rfl rfl rfl rfl ?_
                  refine w_gf dX9_slacking_33 rfl hJ665.1.1 zs_386 f669 ?_
                  refine w_ine_t dX9_slacking_36 (t := 54) rfl (by have := zt_4; omega) ?_
                  refine w_en dX9_slacking_54 rfl ?_
                  have f670 := (hn667 (386) 2 (Or.inr (by decide))).trans ((hn663 (386) 2 (Or.inr (by decide))).trans (f613))
                  have f671 := (hn667 (386) 3 (Or.inr (by decide))).trans ((hn663 (386) 3 (Or.inr (by decide))).trans (f616))
                  have f672 := (hn667 (386) 5 (Or.inr (by decide))).trans ((hn663 (386) 5 (Or.inr (by decide))).trans (f620))
                  exact ⟨_, rfl, hJ665, ⟨x612, f670, (by omega), x615, f671, (by omega), (by omega), x619, f672, (by omega), (by omega), (by omega), 4, f669, (by have := zt_4; omega), (by have := zt_4; omega), (by have := zt_4; omega), trivial⟩⟩
                · skip
                  refine w_clt_f dX9_is_2 (t := 14) rfl (by have := zt_0; omega) ?_
                  refine w_lo dX9_is_5 rfl rfl rfl rfl ?_
                  refine w_lo dX9_is_6 rfl rfl rfl rfl ?_
                  rcases zcut (10 : Int) x651.toInt with h673 | h673
                  · skip
                    refine w_cgt_t dX9_is_7 (t := 14) rfl (by have := zt_10; omega) ?_
                    refine w_ic dX9_is_14 zi_0 ?_
                    refine w_en dX9_is_15 rfl ?_
                    show ZW _ _ _ _ _ _ _ (42, [some (.ref 386), some (.int 0), some (.int 10), none], [.int 0], M608)
                    refine w_ine_f dX9_number_42 (t := 54) rfl (by have := zt_0; omega) ?_
                    refine w_lo dX9_number_45 rfl rfl rfl rfl ?_
                    refine w_ic dX9_number_46 zi_4 ?_
                    refine w_lo dX9_number_47 rfl rfl rfl rfl ?_
                    refine w_gfi dX9_number_48 rfl hJ611.1 zs_386 (Nat.le_of_ble_eq_true rfl) zo_386_4 ?_
                    intro x674 f675 h676 h677
                    refine w_iv dX9_number_51 rfl rfl (As := [.int 4, .int x674]) rfl rfl hJ611.1.1 zs_386 (Nat.le_of_ble_eq_true rfl) ?_
                    refine ZV.of (ini := false) rfl (Nat.le_of_ble_eq_true rfl) (by decide +kernel) ?_
                    show ZW _ _ _ _ _ _ _ (0, [some (.ref 386), some (.int 4), some (.int x674)], [], M608)
                    refine w_lo dX9_blame_0 rfl rfl rfl rfl ?_
                    refine w_gf dX9_blame_1 rfl hJ611.1.1 zs_386 f625 ?_
                    refine w_ile_t dX9_blame_4 (t := 8) rfl (by omega) ?_
                    refine w_lo dX9_blame_8 rfl rfl rfl rfl ?_
                    refine w_lo dX9_blame_9 rfl rfl rfl rfl ?_
                    refine w_pfi dX9_blame_10 rfl hJ611 zs_386 (Nat.le_of_ble_eq_true rfl) zo_386_8 (by have := zt_4; omega) (by have := zt_4; omega) (zIR_s (zIR_s (zIR_s (zIR_s (zIR_s (zIR_s (zIR_k (by omega) (by omega)))))))) rfl rfl rfl ?_
                    intro M678 hJ679 f680 hn681
                    refine w_lo dX9_blame_13 rfl rfl rfl rfl ?_
                    refine w_lo dX9_blame_14 rfl rfl rfl rfl ?_
                    refine w_pfi dX9_blame_15 rfl hJ679 zs_386 (Nat.le_of_ble_eq_true rfl) zo_386_9 (by omega) (by omega) (zIR_s (zIR_s (zIR_s (zIR_s (zIR_s (zIR_s (zIR_s (zIR_k (by omega) (by omega))))))))) rfl rfl rfl ?_
                    intro M682 hJ683 f684 hn685
                    refine w_en dX9_blame_18 rfl ?_
                    show ZW _ _ _ _ _ _ _ (54, [some (.ref 386), some (.int 0), some (.int 10), none], [], M682)
                    refine w_lo dX9_number_54 rfl rfl rfl rfl ?_
                    have f686 := (hn685 (386) 6 (Or.inr (by decide))).trans ((hn681 (386) 6 (Or.inr (by decide))).trans (f652))
                    refine w_gf dX9_number_55 rfl hJ683.1.1 zs_386 f686 ?_
                    refine w_lo (ml' := [some (.ref 386), some (.int 0), some (.int 10), some (.int x651)]) dX9_number_58 rfl rfl rfl rfl ?_
                    refine w_lo dX9_number_59 rfl rfl rfl rfl ?_
                    have f687 := (hn685 (386) 8 (Or.inr (by decide))).trans (f680)
                    refine w_gf dX9_number_60 rfl hJ683.1.1 zs_386 f687 ?_
                    refine w_ine_t dX9_number_63 (t := 70) rfl (by have := zt_4; omega) ?_
                    refine w_lo dX9_number_70 rfl rfl rfl rfl ?_
                    refine w_eni dX9_number_71 rfl rfl ?_
                    show ZW _ _ _ _ _ _ _ (31, [some (.ref 386), some (.int x296), none], [.int x651], M682)
                    refine w_lo (ml' := [some (.ref 386), some (.int x296), some (.int x651)]) dX9_slacking_31 rfl rfl rfl rfl ?_
                    refine w_lo dX9_slacking_32 rfl rfl rfl rfl ?_
                    refine w_gf dX9_slacking_33 rfl hJ683.1.1 zs_386 f687 ?_
                    refine w_ine_t dX9_slacking_36 (t := 54) rfl (by have := zt_4; omega) ?_
                    refine w_en dX9_slacking_54 rfl ?_
                    have f688 := (hn685 (386) 2 (Or.inr (by decide))).trans ((hn681 (386) 2 (Or.inr (by decide))).trans (f613))
                    have f689 := (hn685 (386) 3 (Or.inr (by decide))).trans ((hn681 (386) 3 (Or.inr (by decide))).trans (f616))
                    have f690 := (hn685 (386) 5 (Or.inr (by decide))).trans ((hn681 (386) 5 (Or.inr (by decide))).trans (f620))
                    exact ⟨_, rfl, hJ683, ⟨x612, f688, (by omega), x615, f689, (by omega), (by omega), x619, f690, (by omega), (by omega), (by omega), 4, f687, (by have := zt_4; omega), (by have := zt_4; omega), (by have := zt_4; omega), trivial⟩⟩
                  · skip
                    refine w_cgt_f dX9_is_7 (t := 14) rfl (by have := zt_10; omega) ?_
                    refine w_ic dX9_is_10 zi_1 ?_
                    refine w_gt dX9_is_11 (t := 15) rfl ?_
                    refine w_en dX9_is_15 rfl ?_
                    show ZW _ _ _ _ _ _ _ (42, [some (.ref 386), some (.int 0), some (.int 10), none], [.int 1], M608)
                    refine w_ine_t dX9_number_42 (t := 54) rfl (by have := zt_1; omega) ?_
                    refine w_lo dX9_number_54 rfl rfl rfl rfl ?_
                    refine w_gf dX9_number_55 rfl hJ611.1.1 zs_386 f652 ?_
                    refine w_lo (ml' := [some (.ref 386), some (.int 0), some (.int 10), some (.int x651)]) dX9_number_58 rfl rfl rfl rfl ?_
                    refine w_lo dX9_number_59 rfl rfl rfl rfl ?_
                    refine w_gf dX9_number_60 rfl hJ611.1.1 zs_386 f625 ?_
                    refine w_ine_f dX9_number_63 (t := 70) rfl (by omega) ?_
                    refine w_lo dX9_number_66 rfl rfl rfl rfl ?_
                    refine w_iv dX9_number_67 rfl rfl (As := []) rfl rfl hJ611.1.1 zs_386 (Nat.le_of_ble_eq_true rfl) ?_
                    refine ZV.imp (k_2310 x612 f613 (by omega) (by omega) x615 f616 (by omega) (by omega) x619 f620 (by omega) (by omega) x624 f625 (by omega) (by omega) hN hJ611.1) ?_
                    rintro _ ⟨M691, rfl, hJ692, hq693⟩
                    have hJ694 := zJ_trans hJ611 hJ692 (zSub_cons (fun _ _ h h' hk => zIR_s (zIR_e (by omega) (by omega) hk)) (zSub_cons (fun _ _ h h' hk => zIR_s (zIR_s (zIR_e (by omega) (by omega) hk))) (zSub_cons (fun _ _ h h' hk => zIR_s (zIR_s (zIR_s (zIR_e (by omega) (by omega) hk)))) (zSub_cons (fun _ _ h h' hk => zIR_s (zIR_s (zIR_s (zIR_s (zIR_e (by omega) (by omega) hk))))) (zSub_cons (fun _ _ h h' hk => zIR_s (zIR_s (zIR_s (zIR_s (zIR_s (zIR_e (by omega) (by omega) hk)))))) (zSub_cons (fun _ _ h h' hk => zIR_s (zIR_s (zIR_s (zIR_s (zIR_s (zIR_s (zIR_e (by omega) (by omega) hk))))))) (zSub_cons (fun _ _ h h' hk => zIR_s (zIR_s (zIR_s (zIR_s (zIR_s (zIR_s (zIR_s (zIR_e (by omega) (by omega) hk)))))))) zSub_nil)))))))
                    obtain ⟨x695, f696, h697, x698, f699, h700, h701, x702, f703, h704, h705, x706, f707, h708, h709, h710, x711, f712, h713, h714, -⟩ := hq693
                    show ZW _ _ _ _ _ _ _ (70, [some (.ref 386), some (.int 0), some (.int 10), some (.int x651)], [], M691)
                    refine w_lo dX9_number_70 rfl rfl rfl rfl ?_
                    refine w_eni dX9_number_71 rfl rfl ?_
                    show ZW _ _ _ _ _ _ _ (31, [some (.ref 386), some (.int x296), none], [.int x651], M691)
                    refine w_lo (ml' := [some (.ref 386), some (.int x296), some (.int x651)]) dX9_slacking_31 rfl rfl rfl rfl ?_
                    refine w_lo dX9_slacking_32 rfl rfl rfl rfl ?_
                    refine w_gf dX9_slacking_33 rfl hJ694.1.1 zs_386 f712 ?_
                    rcases Int.decEq x711.toInt (0 : Int) with h715 | h715
                    · skip
                      refine w_ine_t dX9_slacking_36 (t := 54) rfl (by omega) ?_
                      refine w_en dX9_slacking_54 rfl ?_
                      exact ⟨_, rfl, hJ694, ⟨x695, f696, (by omega), x698, f699, (by omega), (by omega), x706, f707, (by omega), (by omega), (by omega), x711, f712, (by omega), (by omega), (by omega), trivial⟩⟩
                    · skip
                      refine w_ine_f dX9_slacking_36 (t := 54) rfl (by omega) ?_
                      refine w_lo dX9_slacking_39 rfl rfl rfl rfl ?_
                      refine w_gf dX9_slacking_40 rfl hJ694.1.1 zs_386 (zr_386_20 hJ694.1) ?_
                      refine w_bi dX9_slacking_43 (c := 11) (by decide) ?_
                      refine w_lo dX9_slacking_45 rfl rfl rfl rfl ?_
                      refine w_gfi dX9_slacking_46 rfl hJ694.1 zs_386 (Nat.le_of_ble_eq_true rfl) zo_386_35 ?_
                      intro x716 f717 h718 h719
                      refine w_mulc dX9_slacking_49 zt_11 (by have := zt_11; omega) ?_
                      intro x720 h721
                      have := zt_11
                      refine w_lo dX9_slacking_50 rfl rfl rfl rfl ?_
                      refine w_add dX9_slacking_51 (by omega) ?_
                      intro x722 h723
                      refine w_lo dX9_slacking_52 rfl rfl rfl rfl ?_
                      refine w_isi dX9_slacking_53 hJ694 zs_395 (by omega) (by omega) zu_395 (zbot _) (ztop _) (zIR_a (by omega) (by omega)) ?_
                      intro M724 hJ725 f726 hn727
                      refine w_en dX9_slacking_54 rfl ?_
                      have f728 := (hn727 (386) 2 (Or.inl (by omega))).trans (f696)
                      have f729 := (hn727 (386) 3 (Or.inl (by omega))).trans (f699)
                      have f730 := (hn727 (386) 5 (Or.inl (by omega))).trans (f707)
                      have f731 := (hn727 (386) 8 (Or.inl (by omega))).trans (f712)
                      exact ⟨_, rfl, hJ725, ⟨x695, f728, (by omega), x698, f729, (by omega), (by omega), x706, f730, (by omega), (by omega), (by omega), x711, f731, (by omega), (by omega), (by omega), trivial⟩⟩
  · skip
    refine w_ine_f dX9_slacking_5 (t := 9) rfl (by omega) ?_
    refine w_en dX9_slacking_8 rfl ?_
    exact ⟨_, rfl, hJ7, ⟨x8, f9, (by omega), x11, f12, (by omega), (by omega), x15, f16, (by omega), (by omega), (by omega), x20, f21, (by omega), (by omega), (by omega), trivial⟩⟩
set_option maxHeartbeats 20000000 in
set_option maxRecDepth 100000 in
theorem k_2326 {X : List Int32} {d N : Nat} {M0 : zM} (sz : Int32) (hfsz : zvl M0 (386) 2 = some (.int sz)) (hrsz0 : 0 ≤ sz.toInt) (hrsz1 : sz.toInt ≤ 1600) (sg : Int32) (hfsg : zvl M0 (386) 3 = some (.int sg)) (hrsg0 : 0 ≤ sg.toInt) (hrsg1 : sg.toInt ≤ 3) (se : Int32) (hfse : zvl M0 (386) 5 = some (.int se)) (hrse0 : 0 ≤ se.toInt) (hrse1 : se.toInt ≤ sz.toInt) (fk : Int32) (hffk : zvl M0 (386) 8 = some (.int fk)) (hrfk0 : 0 ≤ fk.toInt) (hrfk1 : fk.toInt ≤ 5) (hN : N ≤ 600) (hB0 : zB N M0) : ZV X (d + 4) 2326 [.ref 386] M0 (zRV N [(396, 402, 1000), (386, 387, 3), (386, 387, 4), (386, 387, 5), (386, 387, 6), (386, 387, 7), (386, 387, 8), (386, 387, 9)] M0 (fun M' => (∃ nz : Int32, zvl M' (386) 2 = some (.int nz) ∧ (nz.toInt = sz.toInt) ∧ (∃ ng : Int32, zvl M' (386) 3 = some (.int ng) ∧ (0 ≤ ng.toInt) ∧ (ng.toInt ≤ 3) ∧ (∃ ne : Int32, zvl M' (386) 5 = some (.int ne) ∧ (se.toInt ≤ ne.toInt) ∧ (ne.toInt ≤ sz.toInt) ∧ (4 * (sz.toInt - ne.toInt) + ng.toInt ≤ 4 * (sz.toInt - se.toInt) + sg.toInt) ∧ (∃ nk : Int32, zvl M' (386) 8 = some (.int nk) ∧ (fk.toInt ≤ nk.toInt) ∧ (nk.toInt ≤ 5) ∧ (1 ≤ nk.toInt ∨ sg.toInt = 0 ∨ 4 * (sz.toInt - ne.toInt) + ng.toInt + 1 ≤ 4 * (sz.toInt - se.toInt) + sg.toInt) ∧ True)))))) := by
  have hJ0 : zJ N [(396, 402, 1000), (386, 387, 3), (386, 387, 4), (386, 387, 5), (386, 387, 6), (386, 387, 7), (386, 387, 8), (386, 387, 9)] M0 M0 := zJ_refl hB0
  refine ZV.of (ini := false) rfl (Nat.le_of_ble_eq_true rfl) (by decide +kernel) ?_
  have main : ∀ n : Nat,
      (∀ (M : zM) (v55_1 : Int32) (z_55 : Int32) (g_55 : Int32) (e_55 : Int32) (k_55 : Int32) (i_55 : Int32) (b_55 : Int32), zJ N [(396, 402, 1000), (386, 387, 3), (386, 387, 4), (386, 387, 5), (386, 387, 6), (386, 387, 7), (386, 387, 8), (386, 387, 9)] M0 M → ((0 : Int) ≤ v55_1.toInt) → (v55_1.toInt ≤ 11) → (zvl M (386) 2 = some (.int z_55)) → (z_55.toInt = sz.toInt) → (zvl M (386) 3 = some (.int g_55)) → (0 ≤ g_55.toInt) → (g_55.toInt ≤ 3) → (zvl M (386) 5 = some (.int e_55)) → (se.toInt ≤ e_55.toInt) → (e_55.toInt ≤ sz.toInt) → (4 * (sz.toInt - e_55.toInt) + g_55.toInt ≤ 4 * (sz.toInt - se.toInt) + sg.toInt) → (zvl M (386) 8 = some (.int k_55)) → (fk.toInt ≤ k_55.toInt) → (k_55.toInt ≤ 5) → (1 ≤ k_55.toInt ∨ sg.toInt = 0 ∨ 4 * (sz.toInt - e_55.toInt) + g_55.toInt + 1 ≤ 4 * (sz.toInt - se.toInt) + sg.toInt) → (zvl M (386) 35 = some (.int i_55)) → (0 ≤ i_55.toInt) → (i_55.toInt ≤ 1) → (zvl M (396) (i_55 : Int32).toInt.toNat = some (.int b_55)) → (0 ≤ b_55.toInt) → (b_55.toInt ≤ 5) → 5 < (n : Int) → ZW X (d + 3) 9 false none cX9_dreaming (zRV N [(396, 402, 1000), (386, 387, 3), (386, 387, 4), (386, 387, 5), (386, 387, 6), (386, 387, 7), (386, 387, 8), (386, 387, 9)] M0 (fun M' => (∃ nz : Int32, zvl M' (386) 2 = some (.int nz) ∧ (nz.toInt = sz.toInt) ∧ (∃ ng : Int32, zvl M' (386) 3 = some (.int ng) ∧ (0 ≤ ng.toInt) ∧ (ng.toInt ≤ 3) ∧ (∃ ne : Int32, zvl M' (386) 5 = some (.int ne) ∧ (se.toInt ≤ ne.toInt) ∧ (ne.toInt ≤ sz.toInt) ∧ (4 * (sz.toInt - ne.toInt) + ng.toInt ≤ 4 * (sz.toInt - se.toInt) + sg.toInt) ∧ (∃ nk : Int32, zvl M' (386) 8 = some (.int nk) ∧ (fk.toInt ≤ nk.toInt) ∧ (nk.toInt ≤ 5) ∧ (1 ≤ nk.toInt ∨ sg.toInt = 0 ∨ 4 * (sz.toInt - ne.toInt) + ng.toInt + 1 ≤ 4 * (sz.toInt - se.toInt) + sg.toInt) ∧ True)))))) (55, [some (.ref 386), some (.int v55_1)], [], M)) ∧
      (∀ (M : zM) (v76_1 : Int32) (z_76 : Int32) (g_76 : Int32) (e_76 : Int32) (k_76 : Int32) (i_76 : Int32) (b_76 : Int32), zJ N [(396, 402, 1000), (386, 387, 3), (386, 387, 4), (386, 387, 5), (386, 387, 6), (386, 387, 7), (386, 387, 8), (386, 387, 9)] M0 M → ((0 : Int) ≤ v76_1.toInt) → (v76_1.toInt ≤ 11) → (zvl M (386) 2 = some (.int z_76)) → (z_76.toInt = sz.toInt) → (zvl M (386) 3 = some (.int g_76)) → (0 ≤ g_76.toInt) → (g_76.toInt ≤ 3) → (zvl M (386) 5 = some (.int e_76)) → (se.toInt ≤ e_76.toInt) → (e_76.toInt ≤ sz.toInt) → (4 * (sz.toInt - e_76.toInt) + g_76.toInt ≤ 4 * (sz.toInt - se.toInt) + sg.toInt) → (zvl M (386) 8 = some (.int k_76)) → (fk.toInt ≤ k_76.toInt) → (k_76.toInt ≤ 5) → (1 ≤ k_76.toInt ∨ sg.toInt = 0 ∨ 4 * (sz.toInt - e_76.toInt) + g_76.toInt + 1 ≤ 4 * (sz.toInt - se.toInt) + sg.toInt) → (zvl M (386) 35 = some (.int i_76)) → (0 ≤ i_76.toInt) → (i_76.toInt ≤ 1) → (zvl M (396) (i_76 : Int32).toInt.toNat = some (.int b_76)) → (0 ≤ b_76.toInt) → (b_76.toInt ≤ 5) → 4 < (n : Int) → ZW X (d + 3) 9 false none cX9_dreaming (zRV N [(396, 402, 1000), (386, 387, 3), (386, 387, 4), (386, 387, 5), (386, 387, 6), (386, 387, 7), (386, 387, 8), (386, 387, 9)] M0 (fun M' => (∃ nz : Int32, zvl M' (386) 2 = some (.int nz) ∧ (nz.toInt = sz.toInt) ∧ (∃ ng : Int32, zvl M' (386) 3 = some (.int ng) ∧ (0 ≤ ng.toInt) ∧ (ng.toInt ≤ 3) ∧ (∃ ne : Int32, zvl M' (386) 5 = some (.int ne) ∧ (se.toInt ≤ ne.toInt) ∧ (ne.toInt ≤ sz.toInt) ∧ (4 * (sz.toInt - ne.toInt) + ng.toInt ≤ 4 * (sz.toInt - se.toInt) + sg.toInt) ∧ (∃ nk : Int32, zvl M' (386) 8 = some (.int nk) ∧ (fk.toInt ≤ nk.toInt) ∧ (nk.toInt ≤ 5) ∧ (1 ≤ nk.toInt ∨ sg.toInt = 0 ∨ 4 * (sz.toInt - ne.toInt) + ng.toInt + 1 ≤ 4 * (sz.toInt - se.toInt) + sg.toInt) ∧ True)))))) (76, [some (.ref 386), some (.int v76_1)], [], M)) ∧
      (∀ (M : zM) (v96_1 : Int32) (z_96 : Int32) (g_96 : Int32) (e_96 : Int32) (k_96 : Int32) (i_96 : Int32) (b_96 : Int32), zJ N [(396, 402, 1000), (386, 387, 3), (386, 387, 4), (386, 387, 5), (386, 387, 6), (386, 387, 7), (386, 387, 8), (386, 387, 9)] M0 M → ((0 : Int) ≤ v96_1.toInt) → (v96_1.toInt ≤ 11) → (zvl M (386) 2 = some (.int z_96)) → (z_96.toInt = sz.toInt) → (zvl M (386) 3 = some (.int g_96)) → (0 ≤ g_96.toInt) → (g_96.toInt ≤ 3) → (zvl M (386) 5 = some (.int e_96)) → (se.toInt ≤ e_96.toInt) → (e_96.toInt ≤ sz.toInt) → (4 * (sz.toInt - e_96.toInt) + g_96.toInt ≤ 4 * (sz.toInt - se.toInt) + sg.toInt) → (zvl M (386) 8 = some (.int k_96)) → (fk.toInt ≤ k_96.toInt) → (k_96.toInt ≤ 5) → (1 ≤ k_96.toInt ∨ sg.toInt = 0 ∨ 4 * (sz.toInt - e_96.toInt) + g_96.toInt + 1 ≤ 4 * (sz.toInt - se.toInt) + sg.toInt) → (zvl M (386) 35 = some (.int i_96)) → (0 ≤ i_96.toInt) → (i_96.toInt ≤ 1) → (zvl M (396) (i_96 : Int32).toInt.toNat = some (.int b_96)) → (0 ≤ b_96.toInt) → (b_96.toInt ≤ 5) → 3 < (n : Int) → ZW X (d + 3) 9 false none cX9_dreaming (zRV N [(396, 402, 1000), (386, 387, 3), (386, 387, 4), (386, 387, 5), (386, 387, 6), (386, 387, 7), (386, 387, 8), (386, 387, 9)] M0 (fun M' => (∃ nz : Int32, zvl M' (386) 2 = some (.int nz) ∧ (nz.toInt = sz.toInt) ∧ (∃ ng : Int32, zvl M' (386) 3 = some (.int ng) ∧ (0 ≤ ng.toInt) ∧ (ng.toInt ≤ 3) ∧ (∃ ne : Int32, zvl M' (386) 5 = some (.int ne) ∧ (se.toInt ≤ ne.toInt) ∧ (ne.toInt ≤ sz.toInt) ∧ (4 * (sz.toInt - ne.toInt) + ng.toInt ≤ 4 * (sz.toInt - se.toInt) + sg.toInt) ∧ (∃ nk : Int32, zvl M' (386) 8 = some (.int nk) ∧ (fk.toInt ≤ nk.toInt) ∧ (nk.toInt ≤ 5) ∧ (1 ≤ nk.toInt ∨ sg.toInt = 0 ∨ 4 * (sz.toInt - ne.toInt) + ng.toInt + 1 ≤ 4 * (sz.toInt - se.toInt) + sg.toInt) ∧ True)))))) (96, [some (.ref 386), some (.int v96_1)], [], M)) ∧
      (∀ (M : zM) (v117_1 : Int32) (z_117 : Int32) (g_117 : Int32) (e_117 : Int32) (k_117 : Int32) (i_117 : Int32) (b_117 : Int32), zJ N [(396, 402, 1000), (386, 387, 3), (386, 387, 4), (386, 387, 5), (386, 387, 6), (386, 387, 7), (386, 387, 8), (386, 387, 9)] M0 M → ((0 : Int) ≤ v117_1.toInt) → (v117_1.toInt ≤ 11) → (zvl M (386) 2 = some (.int z_117)) → (z_117.toInt = sz.toInt) → (zvl M (386) 3 = some (.int g_117)) → (0 ≤ g_117.toInt) → (g_117.toInt ≤ 3) → (zvl M (386) 5 = some (.int e_117)) → (se.toInt ≤ e_117.toInt) → (e_117.toInt ≤ sz.toInt) → (4 * (sz.toInt - e_117.toInt) + g_117.toInt ≤ 4 * (sz.toInt - se.toInt) + sg.toInt) → (zvl M (386) 8 = some (.int k_117)) → (fk.toInt ≤ k_117.toInt) → (k_117.toInt ≤ 5) → (1 ≤ k_117.toInt ∨ sg.toInt = 0 ∨ 4 * (sz.toInt - e_117.toInt) + g_117.toInt + 1 ≤ 4 * (sz.toInt - se.toInt) + sg.toInt) → (zvl M (386) 35 = some (.int i_117)) → (0 ≤ i_117.toInt) → (i_117.toInt ≤ 1) → (zvl M (396) (i_117 : Int32).toInt.toNat = some (.int b_117)) → (0 ≤ b_117.toInt) → (b_117.toInt ≤ 5) → 2 < (n : Int) → ZW X (d + 3) 9 false none cX9_dreaming (zRV N [(396, 402, 1000), (386, 387, 3), (386, 387, 4), (386, 387, 5), (386, 387, 6), (386, 387, 7), (386, 387, 8), (386, 387, 9)] M0 (fun M' => (∃ nz : Int32, zvl M' (386) 2 = some (.int nz) ∧ (nz.toInt = sz.toInt) ∧ (∃ ng : Int32, zvl M' (386) 3 = some (.int ng) ∧ (0 ≤ ng.toInt) ∧ (ng.toInt ≤ 3) ∧ (∃ ne : Int32, zvl M' (386) 5 = some (.int ne) ∧ (se.toInt ≤ ne.toInt) ∧ (ne.toInt ≤ sz.toInt) ∧ (4 * (sz.toInt - ne.toInt) + ng.toInt ≤ 4 * (sz.toInt - se.toInt) + sg.toInt) ∧ (∃ nk : Int32, zvl M' (386) 8 = some (.int nk) ∧ (fk.toInt ≤ nk.toInt) ∧ (nk.toInt ≤ 5) ∧ (1 ≤ nk.toInt ∨ sg.toInt = 0 ∨ 4 * (sz.toInt - ne.toInt) + ng.toInt + 1 ≤ 4 * (sz.toInt - se.toInt) + sg.toInt) ∧ True)))))) (117, [some (.ref 386), some (.int v117_1)], [], M)) ∧
      (∀ (M : zM) (u137_1 : Int32) (z_137 : Int32) (g_137 : Int32) (e_137 : Int32) (k_137 : Int32) (i_137 : Int32) (b_137 : Int32), zJ N [(396, 402, 1000), (386, 387, 3), (386, 387, 4), (386, 387, 5), (386, 387, 6), (386, 387, 7), (386, 387, 8), (386, 387, 9)] M0 M → (zvl M (386) 2 = some (.int z_137)) → (z_137.toInt = sz.toInt) → (zvl M (386) 3 = some (.int g_137)) → (0 ≤ g_137.toInt) → (g_137.toInt ≤ 3) → (zvl M (386) 5 = some (.int e_137)) → (se.toInt ≤ e_137.toInt) → (e_137.toInt ≤ sz.toInt) → (4 * (sz.toInt - e_137.toInt) + g_137.toInt ≤ 4 * (sz.toInt - se.toInt) + sg.toInt) → (zvl M (386) 8 = some (.int k_137)) → (fk.toInt ≤ k_137.toInt) → (k_137.toInt ≤ 5) → (1 ≤ k_137.toInt ∨ sg.toInt = 0 ∨ 4 * (sz.toInt - e_137.toInt) + g_137.toInt + 1 ≤ 4 * (sz.toInt - se.toInt) + sg.toInt) → (zvl M (386) 35 = some (.int i_137)) → (0 ≤ i_137.toInt) → (i_137.toInt ≤ 1) → (zvl M (396) (i_137 : Int32).toInt.toNat = some (.int b_137)) → (0 ≤ b_137.toInt) → (b_137.toInt ≤ 5) → 1 < (n : Int) → ZW X (d + 3) 9 false none cX9_dreaming (zRV N [(396, 402, 1000), (386, 387, 3), (386, 387, 4), (386, 387, 5), (386, 387, 6), (386, 387, 7), (386, 387, 8), (386, 387, 9)] M0 (fun M' => (∃ nz : Int32, zvl M' (386) 2 = some (.int nz) ∧ (nz.toInt = sz.toInt) ∧ (∃ ng : Int32, zvl M' (386) 3 = some (.int ng) ∧ (0 ≤ ng.toInt) ∧ (ng.toInt ≤ 3) ∧ (∃ ne : Int32, zvl M' (386) 5 = some (.int ne) ∧ (se.toInt ≤ ne.toInt) ∧ (ne.toInt ≤ sz.toInt) ∧ (4 * (sz.toInt - ne.toInt) + ng.toInt ≤ 4 * (sz.toInt - se.toInt) + sg.toInt) ∧ (∃ nk : Int32, zvl M' (386) 8 = some (.int nk) ∧ (fk.toInt ≤ nk.toInt) ∧ (nk.toInt ≤ 5) ∧ (1 ≤ nk.toInt ∨ sg.toInt = 0 ∨ 4 * (sz.toInt - ne.toInt) + ng.toInt + 1 ≤ 4 * (sz.toInt - se.toInt) + sg.toInt) ∧ True)))))) (137, [some (.ref 386), some (.int u137_1)], [], M)) := by
    intro n
    induction n with
    | zero =>
      exact ⟨(fun M v55_1 z_55 g_55 e_55 k_55 i_55 b_55 hJ v55_10 v55_11 hfz_55 hrz_550 hfg_55 hrg_550 hrg_551 hfe_55 hre_550 hre_551 hre_552 hfk_55 hrk_550 hrk_551 hrk_552 hfi_55 hri_550 hri_551 hfb_55 hrb_550 hrb_551 hn => absurd hn (by omega)), (fun M v76_1 z_76 g_76 e_76 k_76 i_76 b_76 hJ v76_10 v76_11 hfz_76 hrz_760 hfg_76 hrg_760 hrg_761 hfe_76 hre_760 hre_761 hre_762 hfk_76 hrk_760 hrk_761 hrk_762 hfi_76 hri_760 hri_761 hfb_76 hrb_760 hrb_761 hn => absurd hn (by omega)), (fun M v96_1 z_96 g_96 e_96 k_96 i_96 b_96 hJ v96_10 v96_11 hfz_96 hrz_960 hfg_96 hrg_960 hrg_961 hfe_96 hre_960 hre_961 hre_962 hfk_96 hrk_960 hrk_961 hrk_962 hfi_96 hri_960 hri_961 hfb_96 hrb_960 hrb_961 hn => absurd hn (by omega)), (fun M v117_1 z_117 g_117 e_117 k_117 i_117 b_117 hJ v117_10 v117_11 hfz_117 hrz_1170 hfg_117 hrg_1170 hrg_1171 hfe_117 hre_1170 hre_1171 hre_1172 hfk_117 hrk_1170 hrk_1171 hrk_1172 hfi_117 hri_1170 hri_1171 hfb_117 hrb_1170 hrb_1171 hn => absurd hn (by omega)), (fun M u137_1 z_137 g_137 e_137 k_137 i_137 b_137 hJ hfz_137 hrz_1370 hfg_137 hrg_1370 hrg_1371 hfe_137 hre_1370 hre_1371 hre_1372 hfk_137 hrk_1370 hrk_1371 hrk_1372 hfi_137 hri_1370 hri_1371 hfb_137 hrb_1370 hrb_1371 hn => absurd hn (by omega))⟩
    | succ n ih =>
      obtain ⟨ih55, ih76, ih96, ih117, ih137⟩ := ih
      refine ⟨?_, ?_, ?_, ?_, ?_⟩
      · intro M v55_1 z_55 g_55 e_55 k_55 i_55 b_55 hJ v55_10 v55_11 hfz_55 hrz_550 hfg_55 hrg_550 hrg_551 hfe_55 hre_550 hre_551 hre_552 hfk_55 hrk_550 hrk_551 hrk_552 hfi_55 hri_550 hri_551 hfb_55 hrb_550 hrb_551 hn
        refine w_lo dX9_dreaming_55 rfl rfl rfl rfl ?_
        refine w_me (st' := [.long (7632231 : Int64), .ref 386]) dX9_dreaming_56 rfl rfl rfl rfl rfl ?_
        refine w_iv dX9_dreaming_59 rfl rfl (As := [.long (7632231 : Int64)]) rfl rfl hJ.1.1 zs_386 (Nat.le_of_ble_eq_true rfl) ?_
        refine ZV.imp (k_2321 (7632231 : Int64) z_55 hfz_55 (by omega) (by omega) g_55 hfg_55 (by omega) (by omega) e_55 hfe_55 (by omega) (by omega) k_55 hfk_55 (by omega) (by omega) hN hJ.1) ?_
        rintro _ ⟨M1, rfl, hJ2, hq3⟩
        have hJ4 := zJ_trans hJ hJ2 (zSub_cons (fun _ _ h h' hk => zIR_s (zIR_e (by omega) (by omega) hk)) (zSub_cons (fun _ _ h h' hk => zIR_s (zIR_s (zIR_e (by omega) (by omega) hk))) (zSub_cons (fun _ _ h h' hk => zIR_s (zIR_s (zIR_s (zIR_e (by omega) (by omega) hk)))) (zSub_cons (fun _ _ h h' hk => zIR_s (zIR_s (zIR_s (zIR_s (zIR_e (by omega) (by omega) hk))))) (zSub_cons (fun _ _ h h' hk => zIR_s (zIR_s (zIR_s (zIR_s (zIR_s (zIR_e (by omega) (by omega) hk)))))) (zSub_cons (fun _ _ h h' hk => zIR_s (zIR_s (zIR_s (zIR_s (zIR_s (zIR_s (zIR_e (by omega) (by omega) hk))))))) (zSub_cons (fun _ _ h h' hk => zIR_s (zIR_s (zIR_s (zIR_s (zIR_s (zIR_s (zIR_s (zIR_e (by omega) (by omega) hk)))))))) zSub_nil)))))))
        obtain ⟨x5, f6, h7, x8, f9, h10, h11, x12, f13, h14, h15, h16, x17, f18, h19, h20, h21, -⟩ := hq3
        show ZW _ _ _ _ _ _ _ (62, [some (.ref 386), some (.int v55_1)], [], M1)
        refine w_lo dX9_dreaming_62 rfl rfl rfl rfl ?_
        refine w_gf dX9_dreaming_63 rfl hJ4.1.1 zs_386 (zr_386_23 hJ4.1) ?_
        refine w_lo dX9_dreaming_66 rfl rfl rfl rfl ?_
        refine w_lo dX9_dreaming_67 rfl rfl rfl rfl ?_
        refine w_ic dX9_dreaming_68 zi_1 ?_
        refine w_si dX9_dreaming_69 (c := 999) (by decide) ?_
        refine w_iv dX9_dreaming_72 rfl rfl (As := [.int 1, .int 999]) rfl rfl hJ4.1.1 zs_386 (Nat.le_of_ble_eq_true rfl) ?_
        refine ZV.imp (k_2322 1 (by have := zt_1; omega) (by have := zt_1; omega) 999 (by have := zt_999; omega) (by have := zt_999; omega) x5 f6 (by have := zt_1; have := zt_999; omega) (by have := zt_1; have := zt_999; omega) x8 f9 (by have := zt_1; have := zt_999; omega) (by have := zt_1; have := zt_999; omega) x12 f13 (by have := zt_1; have := zt_999; omega) (by have := zt_1; have := zt_999; omega) x17 f18 (by have := zt_1; have := zt_999; omega) (by have := zt_1; have := zt_999; omega) hN hJ4.1) ?_
        rintro _ ⟨x25, M22, rfl, h26, h27, hJ23, hq24⟩
        have hJ28 := zJ_trans hJ4 hJ23 (zSub_cons (fun _ _ h h' hk => zIR_s (zIR_e (by omega) (by omega) hk)) (zSub_cons (fun _ _ h h' hk => zIR_s (zIR_s (zIR_e (by omega) (by omega) hk))) (zSub_cons (fun _ _ h h' hk => zIR_s (zIR_s (zIR_s (zIR_e (by omega) (by omega) hk)))) (zSub_cons (fun _ _ h h' hk => zIR_s (zIR_s (zIR_s (zIR_s (zIR_e (by omega) (by omega) hk))))) (zSub_cons (fun _ _ h h' hk => zIR_s (zIR_s (zIR_s (zIR_s (zIR_s (zIR_e (by omega) (by omega) hk)))))) (zSub_cons (fun _ _ h h' hk => zIR_s (zIR_s (zIR_s (zIR_s (zIR_s (zIR_s (zIR_e (by omega) (by omega) hk))))))) (zSub_cons (fun _ _ h h' hk => zIR_s (zIR_s (zIR_s (zIR_s (zIR_s (zIR_s (zIR_s (zIR_e (by omega) (by omega) hk)))))))) zSub_nil)))))))
        obtain ⟨x29, f30, h31, x32, f33, h34, h35, x36, f37, h38, h39, h40, x41, f42, h43, h44, h45, -⟩ := hq24
        have := zt_1; have := zt_999
        show ZW _ _ _ _ _ _ _ (75, [some (.ref 386), some (.int v55_1)], [.int x25, .int v55_1, .ref 398], M22)
        refine w_isi dX9_dreaming_75 hJ28 zs_398 (by omega) (by omega) zu_398 (zbot _) (ztop _) (zIR_a (by omega) (by omega)) ?_
        intro M46 hJ47 f48 hn49
        have f50 := (hn49 (386) 2 (Or.inl (by omega))).trans (f30)
        have f51 := (hn49 (386) 3 (Or.inl (by omega))).trans (f33)
        have f52 := (hn49 (386) 5 (Or.inl (by omega))).trans (f37)
        have f53 := (hn49 (386) 8 (Or.inl (by omega))).trans (f42)
        have f54 := (hn49 (386) 35 (Or.inl (by omega))).trans ((hJ23.2 (386) 35 (zNI_k (by decide) (by decide) (zNI_k (by decide) (by decide) (zNI_k (by decide) (by decide) (zNI_k (by decide) (by decide) (zNI_k (by decide) (by decide) (zNI_k (by decide) (by decide) (zNI_k (by decide) (by decide) zNI_nil)))))))).trans ((hJ2.2 (386) 35 (zNI_k (by decide) (by decide) (zNI_k (by decide) (by decide) (zNI_k (by decide) (by decide) (zNI_k (by decide) (by decide) (zNI_k (by decide) (by decide) (zNI_k (by decide) (by decide) (zNI_k (by decide) (by decide) zNI_nil)))))))).trans (hfi_55)))
        have f55 := (hn49 (396) (i_55 : Int32).toInt.toNat (Or.inl (by omega))).trans ((hJ23.2 (396) (i_55 : Int32).toInt.toNat (zNI (by omega) (zNI (by omega) (zNI (by omega) (zNI (by omega) (zNI (by omega) (zNI (by omega) (zNI (by omega) zNI_nil)))))))).trans ((hJ2.2 (396) (i_55 : Int32).toInt.toNat (zNI (by omega) (zNI (by omega) (zNI (by omega) (zNI (by omega) (zNI (by omega) (zNI (by omega) (zNI (by omega) zNI_nil)))))))).trans (hfb_55)))
        exact ih76 M46 v55_1 x29 x32 x36 x41 i_55 b_55 hJ47 (by omega) (by omega) f50 (by omega) f51 (by omega) (by omega) f52 (by omega) (by omega) (by omega) f53 (by omega) (by omega) (by omega) f54 (by omega) (by omega) f55 (by omega) (by omega) (by omega)
      · intro M v76_1 z_76 g_76 e_76 k_76 i_76 b_76 hJ v76_10 v76_11 hfz_76 hrz_760 hfg_76 hrg_760 hrg_761 hfe_76 hre_760 hre_761 hre_762 hfk_76 hrk_760 hrk_761 hrk_762 hfi_76 hri_760 hri_761 hfb_76 hrb_760 hrb_761 hn
        refine w_lo dX9_dreaming_76 rfl rfl rfl rfl ?_
        refine w_me (st' := [.long (465491424371 : Int64), .ref 386]) dX9_dreaming_77 rfl rfl rfl rfl rfl ?_
        refine w_iv dX9_dreaming_80 rfl rfl (As := [.long (465491424371 : Int64)]) rfl rfl hJ.1.1 zs_386 (Nat.le_of_ble_eq_true rfl) ?_
        refine ZV.imp (k_2321 (465491424371 : Int64) z_76 hfz_76 (by omega) (by omega) g_76 hfg_76 (by omega) (by omega) e_76 hfe_76 (by omega) (by omega) k_76 hfk_76 (by omega) (by omega) hN hJ.1) ?_
        rintro _ ⟨M56, rfl, hJ57, hq58⟩
        have hJ59 := zJ_trans hJ hJ57 (zSub_cons (fun _ _ h h' hk => zIR_s (zIR_e (by omega) (by omega) hk)) (zSub_cons (fun _ _ h h' hk => zIR_s (zIR_s (zIR_e (by omega) (by omega) hk))) (zSub_cons (fun _ _ h h' hk => zIR_s (zIR_s (zIR_s (zIR_e (by omega) (by omega) hk)))) (zSub_cons (fun _ _ h h' hk => zIR_s (zIR_s (zIR_s (zIR_s (zIR_e (by omega) (by omega) hk))))) (zSub_cons (fun _ _ h h' hk => zIR_s (zIR_s (zIR_s (zIR_s (zIR_s (zIR_e (by omega) (by omega) hk)))))) (zSub_cons (fun _ _ h h' hk => zIR_s (zIR_s (zIR_s (zIR_s (zIR_s (zIR_s (zIR_e (by omega) (by omega) hk))))))) (zSub_cons (fun _ _ h h' hk => zIR_s (zIR_s (zIR_s (zIR_s (zIR_s (zIR_s (zIR_s (zIR_e (by omega) (by omega) hk)))))))) zSub_nil)))))))
        obtain ⟨x60, f61, h62, x63, f64, h65, h66, x67, f68, h69, h70, h71, x72, f73, h74, h75, h76, -⟩ := hq58
        show ZW _ _ _ _ _ _ _ (83, [some (.ref 386), some (.int v76_1)], [], M56)
        refine w_lo dX9_dreaming_83 rfl rfl rfl rfl ?_
        refine w_gf dX9_dreaming_84 rfl hJ59.1.1 zs_386 (zr_386_24 hJ59.1) ?_
        refine w_lo dX9_dreaming_87 rfl rfl rfl rfl ?_
        refine w_lo dX9_dreaming_88 rfl rfl rfl rfl ?_
        refine w_ic dX9_dreaming_89 zi_1 ?_
        refine w_bi dX9_dreaming_90 (c := 60) (by decide) ?_
        refine w_iv dX9_dreaming_92 rfl rfl (As := [.int 1, .int 60]) rfl rfl hJ59.1.1 zs_386 (Nat.le_of_ble_eq_true rfl) ?_
        refine ZV.imp (k_2322 1 (by have := zt_1; omega) (by have := zt_1; omega) 60 (by have := zt_60; omega) (by have := zt_60; omega) x60 f61 (by have := zt_1; have := zt_60; omega) (by have := zt_1; have := zt_60; omega) x63 f64 (by have := zt_1; have := zt_60; omega) (by have := zt_1; have := zt_60; omega) x67 f68 (by have := zt_1; have := zt_60; omega) (by have := zt_1; have := zt_60; omega) x72 f73 (by have := zt_1; have := zt_60; omega) (by have := zt_1; have := zt_60; omega) hN hJ59.1) ?_
        rintro _ ⟨x80, M77, rfl, h81, h82, hJ78, hq79⟩
        have hJ83 := zJ_trans hJ59 hJ78 (zSub_cons (fun _ _ h h' hk => zIR_s (zIR_e (by omega) (by omega) hk)) (zSub_cons (fun _ _ h h' hk => zIR_s (zIR_s (zIR_e (by omega) (by omega) hk))) (zSub_cons (fun _ _ h h' hk => zIR_s (zIR_s (zIR_s (zIR_e (by omega) (by omega) hk)))) (zSub_cons (fun _ _ h h' hk => zIR_s (zIR_s (zIR_s (zIR_s (zIR_e (by omega) (by omega) hk))))) (zSub_cons (fun _ _ h h' hk => zIR_s (zIR_s (zIR_s (zIR_s (zIR_s (zIR_e (by omega) (by omega) hk)))))) (zSub_cons (fun _ _ h h' hk => zIR_s (zIR_s (zIR_s (zIR_s (zIR_s (zIR_s (zIR_e (by omega) (by omega) hk))))))) (zSub_cons (fun _ _ h h' hk => zIR_s (zIR_s (zIR_s (zIR_s (zIR_s (zIR_s (zIR_s (zIR_e (by omega) (by omega) hk)))))))) zSub_nil)))))))
        obtain ⟨x84, f85, h86, x87, f88, h89, h90, x91, f92, h93, h94, h95, x96, f97, h98, h99, h100, -⟩ := hq79
        have := zt_1; have := zt_60
        show ZW _ _ _ _ _ _ _ (95, [some (.ref 386), some (.int v76_1)], [.int x80, .int v76_1, .ref 399], M77)
        refine w_isi dX9_dreaming_95 hJ83 zs_399 (by omega) (by omega) zu_399 (zbot _) (ztop _) (zIR_a (by omega) (by omega)) ?_
        intro M101 hJ102 f103 hn104
        have f105 := (hn104 (386) 2 (Or.inl (by omega))).trans (f85)
        have f106 := (hn104 (386) 3 (Or.inl (by omega))).trans (f88)
        have f107 := (hn104 (386) 5 (Or.inl (by omega))).trans (f92)
        have f108 := (hn104 (386) 8 (Or.inl (by omega))).trans (f97)
        have f109 := (hn104 (386) 35 (Or.inl (by omega))).trans ((hJ78.2 (386) 35 (zNI_k (by decide) (by decide) (zNI_k (by decide) (by decide) (zNI_k (by decide) (by decide) (zNI_k (by decide) (by decide) (zNI_k (by decide) (by decide) (zNI_k (by decide) (by decide) (zNI_k (by decide) (by decide) zNI_nil)))))))).trans ((hJ57.2 (386) 35 (zNI_k (by decide) (by decide) (zNI_k (by decide) (by decide) (zNI_k (by decide) (by decide) (zNI_k (by decide) (by decide) (zNI_k (by decide) (by decide) (zNI_k (by decide) (by decide) (zNI_k (by decide) (by decide) zNI_nil)))))))).trans (hfi_76)))
        have f110 := (hn104 (396) (i_76 : Int32).toInt.toNat (Or.inl (by omega))).trans ((hJ78.2 (396) (i_76 : Int32).toInt.toNat (zNI (by omega) (zNI (by omega) (zNI (by omega) (zNI (by omega) (zNI (by omega) (zNI (by omega) (zNI (by omega) zNI_nil)))))))).trans ((hJ57.2 (396) (i_76 : Int32).toInt.toNat (zNI (by omega) (zNI (by omega) (zNI (by omega) (zNI (by omega) (zNI (by omega) (zNI (by omega) (zNI (by omega) zNI_nil)))))))).trans (hfb_76)))
        exact ih96 M101 v76_1 x84 x87 x91 x96 i_76 b_76 hJ102 (by omega) (by omega) f105 (by omega) f106 (by omega) (by omega) f107 (by omega) (by omega) (by omega) f108 (by omega) (by omega) (by omega) f109 (by omega) (by omega) f110 (by omega) (by omega) (by omega)
      · intro M v96_1 z_96 g_96 e_96 k_96 i_96 b_96 hJ v96_10 v96_11 hfz_96 hrz_960 hfg_96 hrg_960 hrg_961 hfe_96 hre_960 hre_961 hre_962 hfk_96 hrk_960 hrk_961 hrk_962 hfi_96 hri_960 hri_961 hfb_96 hrb_960 hrb_961 hn
        refine w_lo dX9_dreaming_96 rfl rfl rfl rfl ?_
        refine w_me (st' := [.long (123563851081075 : Int64), .ref 386]) dX9_dreaming_97 rfl rfl rfl rfl rfl ?_
        refine w_iv dX9_dreaming_100 rfl rfl (As := [.long (123563851081075 : Int64)]) rfl rfl hJ.1.1 zs_386 (Nat.le_of_ble_eq_true rfl) ?_
        refine ZV.imp (k_2321 (123563851081075 : Int64) z_96 hfz_96 (by omega) (by omega) g_96 hfg_96 (by omega) (by omega) e_96 hfe_96 (by omega) (by omega) k_96 hfk_96 (by omega) (by omega) hN hJ.1) ?_
        rintro _ ⟨M111, rfl, hJ112, hq113⟩
        have hJ114 := zJ_trans hJ hJ112 (zSub_cons (fun _ _ h h' hk => zIR_s (zIR_e (by omega) (by omega) hk)) (zSub_cons (fun _ _ h h' hk => zIR_s (zIR_s (zIR_e (by omega) (by omega) hk))) (zSub_cons (fun _ _ h h' hk => zIR_s (zIR_s (zIR_s (zIR_e (by omega) (by omega) hk)))) (zSub_cons (fun _ _ h h' hk => zIR_s (zIR_s (zIR_s (zIR_s (zIR_e (by omega) (by omega) hk))))) (zSub_cons (fun _ _ h h' hk => zIR_s (zIR_s (zIR_s (zIR_s (zIR_s (zIR_e (by omega) (by omega) hk)))))) (zSub_cons (fun _ _ h h' hk => zIR_s (zIR_s (zIR_s (zIR_s (zIR_s (zIR_s (zIR_e (by omega) (by omega) hk))))))) (zSub_cons (fun _ _ h h' hk => zIR_s (zIR_s (zIR_s (zIR_s (zIR_s (zIR_s (zIR_s (zIR_e (by omega) (by omega) hk)))))))) zSub_nil)))))))
        obtain ⟨x115, f116, h117, x118, f119, h120, h121, x122, f123, h124, h125, h126, x127, f128, h129, h130, h131, -⟩ := hq113
        show ZW _ _ _ _ _ _ _ (103, [some (.ref 386), some (.int v96_1)], [], M111)
        refine w_lo dX9_dreaming_103 rfl rfl rfl rfl ?_
        refine w_gf dX9_dreaming_104 rfl hJ114.1.1 zs_386 (zr_386_25 hJ114.1) ?_
        refine w_lo dX9_dreaming_107 rfl rfl rfl rfl ?_
        refine w_lo dX9_dreaming_108 rfl rfl rfl rfl ?_
        refine w_ic dX9_dreaming_109 zi_1 ?_
        refine w_si dX9_dreaming_110 (c := 999) (by decide) ?_
        refine w_iv dX9_dreaming_113 rfl rfl (As := [.int 1, .int 999]) rfl rfl hJ114.1.1 zs_386 (Nat.le_of_ble_eq_true rfl) ?_
        refine ZV.imp (k_2322 1 (by have := zt_1; omega) (by have := zt_1; omega) 999 (by have := zt_999; omega) (by have := zt_999; omega) x115 f116 (by have := zt_1; have := zt_999; omega) (by have := zt_1; have := zt_999; omega) x118 f119 (by have := zt_1; have := zt_999; omega) (by have := zt_1; have := zt_999; omega) x122 f123 (by have := zt_1; have := zt_999; omega) (by have := zt_1; have := zt_999; omega) x127 f128 (by have := zt_1; have := zt_999; omega) (by have := zt_1; have := zt_999; omega) hN hJ114.1) ?_
        rintro _ ⟨x135, M132, rfl, h136, h137, hJ133, hq134⟩
        have hJ138 := zJ_trans hJ114 hJ133 (zSub_cons (fun _ _ h h' hk => zIR_s (zIR_e (by omega) (by omega) hk)) (zSub_cons (fun _ _ h h' hk => zIR_s (zIR_s (zIR_e (by omega) (by omega) hk))) (zSub_cons (fun _ _ h h' hk => zIR_s (zIR_s (zIR_s (zIR_e (by omega) (by omega) hk)))) (zSub_cons (fun _ _ h h' hk => zIR_s (zIR_s (zIR_s (zIR_s (zIR_e (by omega) (by omega) hk))))) (zSub_cons (fun _ _ h h' hk => zIR_s (zIR_s (zIR_s (zIR_s (zIR_s (zIR_e (by omega) (by omega) hk)))))) (zSub_cons (fun _ _ h h' hk => zIR_s (zIR_s (zIR_s (zIR_s (zIR_s (zIR_s (zIR_e (by omega) (by omega) hk))))))) (zSub_cons (fun _ _ h h' hk => zIR_s (zIR_s (zIR_s (zIR_s (zIR_s (zIR_s (zIR_s (zIR_e (by omega) (by omega) hk)))))))) zSub_nil)))))))
        obtain ⟨x139, f140, h141, x142, f143, h144, h145, x146, f147, h148, h149, h150, x151, f152, h153, h154, h155, -⟩ := hq134
        have := zt_1; have := zt_999
        show ZW _ _ _ _ _ _ _ (116, [some (.ref 386), some (.int v96_1)], [.int x135, .int v96_1, .ref 400], M132)
        refine w_isi dX9_dreaming_116 hJ138 zs_400 (by omega) (by omega) zu_400 (zbot _) (ztop _) (zIR_a (by omega) (by omega)) ?_
        intro M156 hJ157 f158 hn159
        have f160 := (hn159 (386) 2 (Or.inl (by omega))).trans (f140)
        have f161 := (hn159 (386) 3 (Or.inl (by omega))).trans (f143)
        have f162 := (hn159 (386) 5 (Or.inl (by omega))).trans (f147)
        have f163 := (hn159 (386) 8 (Or.inl (by omega))).trans (f152)
        have f164 := (hn159 (386) 35 (Or.inl (by omega))).trans ((hJ133.2 (386) 35 (zNI_k (by decide) (by decide) (zNI_k (by decide) (by decide) (zNI_k (by decide) (by decide) (zNI_k (by decide) (by decide) (zNI_k (by decide) (by decide) (zNI_k (by decide) (by decide) (zNI_k (by decide) (by decide) zNI_nil)))))))).trans ((hJ112.2 (386) 35 (zNI_k (by decide) (by decide) (zNI_k (by decide) (by decide) (zNI_k (by decide) (by decide) (zNI_k (by decide) (by decide) (zNI_k (by decide) (by decide) (zNI_k (by decide) (by decide) (zNI_k (by decide) (by decide) zNI_nil)))))))).trans (hfi_96)))
        have f165 := (hn159 (396) (i_96 : Int32).toInt.toNat (Or.inl (by omega))).trans ((hJ133.2 (396) (i_96 : Int32).toInt.toNat (zNI (by omega) (zNI (by omega) (zNI (by omega) (zNI (by omega) (zNI (by omega) (zNI (by omega) (zNI (by omega) zNI_nil)))))))).trans ((hJ112.2 (396) (i_96 : Int32).toInt.toNat (zNI (by omega) (zNI (by omega) (zNI (by omega) (zNI (by omega) (zNI (by omega) (zNI (by omega) (zNI (by omega) zNI_nil)))))))).trans (hfb_96)))
        exact ih117 M156 v96_1 x139 x142 x146 x151 i_96 b_96 hJ157 (by omega) (by omega) f160 (by omega) f161 (by omega) (by omega) f162 (by omega) (by omega) (by omega) f163 (by omega) (by omega) (by omega) f164 (by omega) (by omega) f165 (by omega) (by omega) (by omega)
      · intro M v117_1 z_117 g_117 e_117 k_117 i_117 b_117 hJ v117_10 v117_11 hfz_117 hrz_1170 hfg_117 hrg_1170 hrg_1171 hfe_117 hre_1170 hre_1171 hre_1172 hfk_117 hrk_1170 hrk_1171 hrk_1172 hfi_117 hri_1170 hri_1171 hfb_117 hrb_1170 hrb_1171 hn
        refine w_lo dX9_dreaming_117 rfl rfl rfl rfl ?_
        refine w_me (st' := [.long (1868850291 : Int64), .ref 386]) dX9_dreaming_118 rfl rfl rfl rfl rfl ?_
        refine w_iv dX9_dreaming_121 rfl rfl (As := [.long (1868850291 : Int64)]) rfl rfl hJ.1.1 zs_386 (Nat.le_of_ble_eq_true rfl) ?_
        refine ZV.imp (k_2321 (1868850291 : Int64) z_117 hfz_117 (by omega) (by omega) g_117 hfg_117 (by omega) (by omega) e_117 hfe_117 (by omega) (by omega) k_117 hfk_117 (by omega) (by omega) hN hJ.1) ?_
        rintro _ ⟨M166, rfl, hJ167, hq168⟩
        have hJ169 := zJ_trans hJ hJ167 (zSub_cons (fun _ _ h h' hk => zIR_s (zIR_e (by omega) (by omega) hk)) (zSub_cons (fun _ _ h h' hk => zIR_s (zIR_s (zIR_e (by omega) (by omega) hk))) (zSub_cons (fun _ _ h h' hk => zIR_s (zIR_s (zIR_s (zIR_e (by omega) (by omega) hk)))) (zSub_cons (fun _ _ h h' hk => zIR_s (zIR_s (zIR_s (zIR_s (zIR_e (by omega) (by omega) hk))))) (zSub_cons (fun _ _ h h' hk => zIR_s (zIR_s (zIR_s (zIR_s (zIR_s (zIR_e (by omega) (by omega) hk)))))) (zSub_cons (fun _ _ h h' hk => zIR_s (zIR_s (zIR_s (zIR_s (zIR_s (zIR_s (zIR_e (by omega) (by omega) hk))))))) (zSub_cons (fun _ _ h h' hk => zIR_s (zIR_s (zIR_s (zIR_s (zIR_s (zIR_s (zIR_s (zIR_e (by omega) (by omega) hk)))))))) zSub_nil)))))))
        obtain ⟨x170, f171, h172, x173, f174, h175, h176, x177, f178, h179, h180, h181, x182, f183, h184, h185, h186, -⟩ := hq168
        show ZW _ _ _ _ _ _ _ (124, [some (.ref 386), some (.int v117_1)], [], M166)
        refine w_lo dX9_dreaming_124 rfl rfl rfl rfl ?_
        refine w_gf dX9_dreaming_125 rfl hJ169.1.1 zs_386 (zr_386_26 hJ169.1) ?_
        refine w_lo dX9_dreaming_128 rfl rfl rfl rfl ?_
        refine w_lo dX9_dreaming_129 rfl rfl rfl rfl ?_
        refine w_ic dX9_dreaming_130 zi_1 ?_
        refine w_bi dX9_dreaming_131 (c := 99) (by decide) ?_
        refine w_iv dX9_dreaming_133 rfl rfl (As := [.int 1, .int 99]) rfl rfl hJ169.1.1 zs_386 (Nat.le_of_ble_eq_true rfl) ?_
        refine ZV.imp (k_2322 1 (by have := zt_1; omega) (by have := zt_1; omega) 99 (by have := zt_99; omega) (by have := zt_99; omega) x170 f171 (by have := zt_1; have := zt_99; omega) (by have := zt_1; have := zt_99; omega) x173 f174 (by have := zt_1; have := zt_99; omega) (by have := zt_1; have := zt_99; omega) x177 f178 (by have := zt_1; have := zt_99; omega) (by have := zt_1; have := zt_99; omega) x182 f183 (by have := zt_1; have := zt_99; omega) (by have := zt_1; have := zt_99; omega) hN hJ169.1) ?_
        rintro _ ⟨x190, M187, rfl, h191, h192, hJ188, hq189⟩
        have hJ193 := zJ_trans hJ169 hJ188 (zSub_cons (fun _ _ h h' hk => zIR_s (zIR_e (by omega) (by omega) hk)) (zSub_cons (fun _ _ h h' hk => zIR_s (zIR_s (zIR_e (by omega) (by omega) hk))) (zSub_cons (fun _ _ h h' hk => zIR_s (zIR_s (zIR_s (zIR_e (by omega) (by omega) hk)))) (zSub_cons (fun _ _ h h' hk => zIR_s (zIR_s (zIR_s (zIR_s (zIR_e (by omega) (by omega) hk))))) (zSub_cons (fun _ _ h h' hk => zIR_s (zIR_s (zIR_s (zIR_s (zIR_s (zIR_e (by omega) (by omega) hk)))))) (zSub_cons (fun _ _ h h' hk => zIR_s (zIR_s (zIR_s (zIR_s (zIR_s (zIR_s (zIR_e (by omega) (by omega) hk))))))) (zSub_cons (fun _ _ h h' hk => zIR_s (zIR_s (zIR_s (zIR_s (zIR_s (zIR_s (zIR_s (zIR_e (by omega) (by omega) hk)))))))) zSub_nil)))))))
        obtain ⟨x194, f195, h196, x197, f198, h199, h200, x201, f202, h203, h204, h205, x206, f207, h208, h209, h210, -⟩ := hq189
        have := zt_1; have := zt_99
        show ZW _ _ _ _ _ _ _ (136, [some (.ref 386), some (.int v117_1)], [.int x190, .int v117_1, .ref 401], M187)
        refine w_isi dX9_dreaming_136 hJ193 zs_401 (by omega) (by omega) zu_401 (zbot _) (ztop _) (zIR_a (by omega) (by omega)) ?_
        intro M211 hJ212 f213 hn214
        have f215 := (hn214 (386) 2 (Or.inl (by omega))).trans (f195)
        have f216 := (hn214 (386) 3 (Or.inl (by omega))).trans (f198)
        have f217 := (hn214 (386) 5 (Or.inl (by omega))).trans (f202)
        have f218 := (hn214 (386) 8 (Or.inl (by omega))).trans (f207)
        have f219 := (hn214 (386) 35 (Or.inl (by omega))).trans ((hJ188.2 (386) 35 (zNI_k (by decide) (by decide) (zNI_k (by decide) (by decide) (zNI_k (by decide) (by decide) (zNI_k (by decide) (by decide) (zNI_k (by decide) (by decide) (zNI_k (by decide) (by decide) (zNI_k (by decide) (by decide) zNI_nil)))))))).trans ((hJ167.2 (386) 35 (zNI_k (by decide) (by decide) (zNI_k (by decide) (by decide) (zNI_k (by decide) (by decide) (zNI_k (by decide) (by decide) (zNI_k (by decide) (by decide) (zNI_k (by decide) (by decide) (zNI_k (by decide) (by decide) zNI_nil)))))))).trans (hfi_117)))
        have f220 := (hn214 (396) (i_117 : Int32).toInt.toNat (Or.inl (by omega))).trans ((hJ188.2 (396) (i_117 : Int32).toInt.toNat (zNI (by omega) (zNI (by omega) (zNI (by omega) (zNI (by omega) (zNI (by omega) (zNI (by omega) (zNI (by omega) zNI_nil)))))))).trans ((hJ167.2 (396) (i_117 : Int32).toInt.toNat (zNI (by omega) (zNI (by omega) (zNI (by omega) (zNI (by omega) (zNI (by omega) (zNI (by omega) (zNI (by omega) zNI_nil)))))))).trans (hfb_117)))
        exact ih137 M211 v117_1 x194 x197 x201 x206 i_117 b_117 hJ212 f215 (by omega) f216 (by omega) (by omega) f217 (by omega) (by omega) (by omega) f218 (by omega) (by omega) (by omega) f219 (by omega) (by omega) f220 (by omega) (by omega) (by omega)
      · intro M u137_1 z_137 g_137 e_137 k_137 i_137 b_137 hJ hfz_137 hrz_1370 hfg_137 hrg_1370 hrg_1371 hfe_137 hre_1370 hre_1371 hre_1372 hfk_137 hrk_1370 hrk_1371 hrk_1372 hfi_137 hri_1370 hri_1371 hfb_137 hrb_1370 hrb_1371 hn
        refine w_lo dX9_dreaming_137 rfl rfl rfl rfl ?_
        refine w_gf dX9_dreaming_138 rfl hJ.1.1 zs_386 hfk_137 ?_
        rcases Int.decEq k_137.toInt (0 : Int) with h221 | h221
        · skip
          refine w_ine_t dX9_dreaming_141 (t := 157) rfl (by omega) ?_
          refine w_en dX9_dreaming_157 rfl ?_
          exact ⟨_, rfl, hJ, ⟨z_137, hfz_137, (by omega), g_137, hfg_137, (by omega), (by omega), e_137, hfe_137, (by omega), (by omega), (by omega), k_137, hfk_137, (by omega), (by omega), (by omega), trivial⟩⟩
        · skip
          refine w_ine_f dX9_dreaming_141 (t := 157) rfl (by omega) ?_
          refine w_lo dX9_dreaming_144 rfl rfl rfl rfl ?_
          refine w_gf dX9_dreaming_145 rfl hJ.1.1 zs_386 (zr_386_21 hJ.1) ?_
          refine w_lo dX9_dreaming_148 rfl rfl rfl rfl ?_
          refine w_gf dX9_dreaming_149 rfl hJ.1.1 zs_386 hfi_137 ?_
          refine w_pu dX9_dreaming_152 rfl rfl ?_
          refine w_ia dX9_dreaming_153 hJ.1.1 zs_396 (znat (by omega)) hfb_137 ?_
          refine w_ic dX9_dreaming_154 zi_1 ?_
          refine w_add dX9_dreaming_155 (by have := zt_1; omega) ?_
          intro x225 h226
          have := zt_1
          refine w_isi dX9_dreaming_156 hJ zs_396 (by omega) (by omega) zu_396 (by omega) (by omega) (zIR_a (by omega) (by omega)) ?_
          intro M227 hJ228 f229 hn230
          refine w_en dX9_dreaming_157 rfl ?_
          have f231 := (hn230 (386) 2 (Or.inl (by omega))).trans (hfz_137)
          have f232 := (hn230 (386) 3 (Or.inl (by omega))).trans (hfg_137)
          have f233 := (hn230 (386) 5 (Or.inl (by omega))).trans (hfe_137)
          have f234 := (hn230 (386) 8 (Or.inl (by omega))).trans (hfk_137)
          exact ⟨_, rfl, hJ228, ⟨z_137, f231, (by omega), g_137, f232, (by omega), (by omega), e_137, f233, (by omega), (by omega), (by omega), k_137, f234, (by omega), (by omega), (by omega), trivial⟩⟩
  obtain ⟨ih55, ih76, ih96, ih117, ih137⟩ := main 10
  show ZW _ _ _ _ _ _ _ (0, [some (.ref 386), none], [], M0)
  refine w_lo dX9_dreaming_0 rfl rfl rfl rfl ?_
  refine w_lo dX9_dreaming_1 rfl rfl rfl rfl ?_
  refine w_gf dX9_dreaming_2 rfl hJ0.1.1 zs_386 (zr_386_21 hJ0.1) ?_
  refine w_lo dX9_dreaming_5 rfl rfl rfl rfl ?_
  refine w_gfi dX9_dreaming_6 rfl hJ0.1 zs_386 (Nat.le_of_ble_eq_true rfl) zo_386_35 ?_
  intro x235 f236 h237 h238
  refine w_iai dX9_dreaming_9 hJ0.1 zs_396 (by omega) (by omega) zu_396 ?_
  intro x242 f239 h240 h241
  refine w_bi dX9_dreaming_10 (c := 6) (by decide) ?_
  rcases Int.decEq x242.toInt (6 : Int) with h243 | h243
  · skip
    refine w_cne_t dX9_dreaming_12 (t := 19) rfl (by have := zt_6; omega) ?_
    refine w_ic dX9_dreaming_19 zi_0 ?_
    refine w_iv dX9_dreaming_20 rfl rfl (As := [.int 0]) rfl rfl hJ0.1.1 zs_386 (Nat.le_of_ble_eq_true rfl) ?_
    refine ZV.of (ini := false) rfl (Nat.le_of_ble_eq_true rfl) (by decide +kernel) ?_
    show ZW _ _ _ _ _ _ _ (0, [some (.ref 386), some (.int 0)], [], M0)
    refine w_lo dX9_counts_0 rfl rfl rfl rfl ?_
    refine w_gf dX9_counts_1 rfl hJ0.1.1 zs_386 hffk ?_
    rcases Int.decEq fk.toInt (0 : Int) with h244 | h244
    · skip
      refine w_ine_t dX9_counts_4 (t := 20) rfl (by omega) ?_
      refine w_lo dX9_counts_20 rfl rfl rfl rfl ?_
      refine w_gf dX9_counts_21 rfl hJ0.1.1 zs_386 hffk ?_
      refine w_ine_t dX9_counts_24 (t := 31) rfl (by omega) ?_
      refine w_lo dX9_counts_31 rfl rfl rfl rfl ?_
      refine w_gf dX9_counts_32 rfl hJ0.1.1 zs_386 hffk ?_
      refine w_ine_t dX9_counts_35 (t := 42) rfl (by omega) ?_
      refine w_ic dX9_counts_42 zi_0 ?_
      refine w_en dX9_counts_43 rfl ?_
      show ZW _ _ _ _ _ _ _ (23, [some (.ref 386), none], [.int 0], M0)
      refine w_ine_f dX9_dreaming_23 (t := 27) rfl (by have := zt_0; omega) ?_
      refine w_en dX9_dreaming_26 rfl ?_
      exact ⟨_, rfl, hJ0, ⟨sz, hfsz, (by omega), sg, hfsg, (by omega), (by omega), se, hfse, (by omega), (by omega), (by omega), fk, hffk, (by omega), (by omega), (by omega), trivial⟩⟩
    · skip
      refine w_ine_f dX9_counts_4 (t := 20) rfl (by omega) ?_
      refine w_lo dX9_counts_7 rfl rfl rfl rfl ?_
      refine w_ieq_t dX9_counts_8 (t := 20) rfl (by have := zt_0; omega) ?_
      refine w_lo dX9_counts_20 rfl rfl rfl rfl ?_
      refine w_gf dX9_counts_21 rfl hJ0.1.1 zs_386 hffk ?_
      refine w_ine_f dX9_counts_24 (t := 31) rfl (by omega) ?_
      refine w_lo dX9_counts_27 rfl rfl rfl rfl ?_
      refine w_iv dX9_counts_28 rfl rfl (As := []) rfl rfl hJ0.1.1 zs_386 (Nat.le_of_ble_eq_true rfl) ?_
      refine ZV.imp (k_2310 sz hfsz (by omega) (by omega) sg hfsg (by omega) (by omega) se hfse (by omega) (by omega) fk hffk (by omega) (by omega) hN hJ0.1) ?_
      rintro _ ⟨M245, rfl, hJ246, hq247⟩
      have hJ248 := zJ_trans hJ0 hJ246 (zSub_cons (fun _ _ h h' hk => zIR_s (zIR_e (by omega) (by omega) hk)) (zSub_cons (fun _ _ h h' hk => zIR_s (zIR_s (zIR_e (by omega) (by omega) hk))) (zSub_cons (fun _ _ h h' hk => zIR_s (zIR_s (zIR_s (zIR_e (by omega) (by omega) hk)))) (zSub_cons (fun _ _ h h' hk => zIR_s (zIR_s (zIR_s (zIR_s (zIR_e (by omega) (by omega) hk))))) (zSub_cons (fun _ _ h h' hk => zIR_s (zIR_s (zIR_s (zIR_s (zIR_s (zIR_e (by omega) (by omega) hk)))))) (zSub_cons (fun _ _ h h' hk => zIR_s (zIR_s (zIR_s (zIR_s (zIR_s (zIR_s (zIR_e (by omega) (by omega) hk))))))) (zSub_cons (fun _ _ h h' hk => zIR_s (zIR_s (zIR_s (zIR_s (zIR_s (zIR_s (zIR_s (zIR_e (by omega) (by omega) hk)))))))) zSub_nil)))))))
      obtain ⟨x249, f250, h251, x252, f253, h254, h255, x256, f257, h258, h259, x260, f261, h262, h263, h264, x265, f266, h267, h268, -⟩ := hq247
      show ZW _ _ _ _ _ _ _ (31, [some (.ref 386), some (.int 0)], [], M245)
      refine w_lo dX9_counts_31 rfl rfl rfl rfl ?_
      refine w_gf dX9_counts_32 rfl hJ248.1.1 zs_386 f266 ?_
      rcases Int.decEq x265.toInt (0 : Int) with h269 | h269
      · skip
        refine w_ine_t dX9_counts_35 (t := 42) rfl (by omega) ?_
        refine w_ic dX9_counts_42 zi_0 ?_
        refine w_en dX9_counts_43 rfl ?_
        show ZW _ _ _ _ _ _ _ (23, [some (.ref 386), none], [.int 0], M245)
        refine w_ine_f dX9_dreaming_23 (t := 27) rfl (by have := zt_0; omega) ?_
        refine w_en dX9_dreaming_26 rfl ?_
        exact ⟨_, rfl, hJ248, ⟨x249, f250, (by omega), x252, f253, (by omega), (by omega), x260, f261, (by omega), (by omega), (by omega), x265, f266, (by omega), (by omega), (by omega), trivial⟩⟩
      · skip
        refine w_ine_f dX9_counts_35 (t := 42) rfl (by omega) ?_
        refine w_ic dX9_counts_38 zi_1 ?_
        refine w_gt dX9_counts_39 (t := 43) rfl ?_
        refine w_en dX9_counts_43 rfl ?_
        show ZW _ _ _ _ _ _ _ (23, [some (.ref 386), none], [.int 1], M245)
        refine w_ine_t dX9_dreaming_23 (t := 27) rfl (by have := zt_1; omega) ?_
        refine w_bi dX9_dreaming_27 (c := 6) (by decide) ?_
        refine w_lo dX9_dreaming_29 rfl rfl rfl rfl ?_
        have f270 := (hJ246.2 (386) 35 (zNI_k (by decide) (by decide) (zNI_k (by decide) (by decide) (zNI_k (by decide) (by decide) (zNI_k (by decide) (by decide) (zNI_k (by decide) (by decide) (zNI_k (by decide) (by decide) (zNI_k (by decide) (by decide) zNI_nil)))))))).trans (f236)
        refine w_gf dX9_dreaming_30 rfl hJ248.1.1 zs_386 f270 ?_
        refine w_mulc dX9_dreaming_33 zt_6 (by have := zt_6; omega) ?_
        intro x271 h272
        have := zt_6
        refine w_lo dX9_dreaming_34 rfl rfl rfl rfl ?_
        refine w_gf dX9_dreaming_35 rfl hJ248.1.1 zs_386 (zr_386_21 hJ248.1) ?_
        refine w_lo dX9_dreaming_38 rfl rfl rfl rfl ?_
        refine w_gf dX9_dreaming_39 rfl hJ248.1.1 zs_386 f270 ?_
        have f276 := (hJ246.2 (396) (x235 : Int32).toInt.toNat (zNI (by omega) (zNI (by omega) (zNI (by omega) (zNI (by omega) (zNI (by omega) (zNI (by omega) (zNI (by omega) zNI_nil)))))))).trans (f239)
        refine w_ia dX9_dreaming_42 hJ248.1.1 zs_396 (znat (by omega)) f276 ?_
        refine w_add dX9_dreaming_43 (by omega) ?_
        intro x277 h278
        refine w_lo (ml' := [some (.ref 386), some (.int x277)]) dX9_dreaming_44 rfl rfl rfl rfl ?_
        refine w_lo dX9_dreaming_45 rfl rfl rfl rfl ?_
        refine w_gf dX9_dreaming_46 rfl hJ248.1.1 zs_386 (zr_386_22 hJ248.1) ?_
        refine w_lo dX9_dreaming_49 rfl rfl rfl rfl ?_
        refine w_lo dX9_dreaming_50 rfl rfl rfl rfl ?_
        refine w_iv dX9_dreaming_51 rfl rfl (As := []) rfl rfl hJ248.1.1 zs_386 (Nat.le_of_ble_eq_true rfl) ?_
        refine ZV.imp (k_2318 x249 f250 (by omega) (by omega) x252 f253 (by omega) (by omega) x260 f261 (by omega) (by omega) x265 f266 (by omega) (by omega) hN hJ248.1) ?_
        rintro _ ⟨y282, M279, rfl, hJ280, hq281⟩
        have hJ283 := zJ_trans hJ248 hJ280 (zSub_cons (fun _ _ h h' hk => zIR_s (zIR_e (by omega) (by omega) hk)) (zSub_cons (fun _ _ h h' hk => zIR_s (zIR_s (zIR_e (by omega) (by omega) hk))) (zSub_cons (fun _ _ h h' hk => zIR_s (zIR_s (zIR_s (zIR_e (by omega) (by omega) hk)))) (zSub_cons (fun _ _ h h' hk => zIR_s (zIR_s (zIR_s (zIR_s (zIR_e (by omega) (by omega) hk))))) (zSub_cons (fun _ _ h h' hk => zIR_s (zIR_s (zIR_s (zIR_s (zIR_s (zIR_e (by omega) (by omega) hk)))))) (zSub_cons (fun _ _ h h' hk => zIR_s (zIR_s (zIR_s (zIR_s (zIR_s (zIR_s (zIR_e (by omega) (by omega) hk))))))) (zSub_cons (fun _ _ h h' hk => zIR_s (zIR_s (zIR_s (zIR_s (zIR_s (zIR_s (zIR_s (zIR_e (by omega) (by omega) hk)))))))) zSub_nil)))))))
        obtain ⟨x284, f285, h286, x287, f288, h289, h290, x291, f292, h293, h294, h295, x296, f297, h298, h299, h300, -⟩ := hq281
        show ZW _ _ _ _ _ _ _ (54, [some (.ref 386), some (.int x277)], [.long y282, .int x277, .ref 397], M279)
        refine w_lsi dX9_dreaming_54 hJ283 zs_397 (by omega) (by omega) zu_397 (zIR_a (by omega) (by omega)) ?_
        intro M301 hJ302 f303 hn304
        have f305 := (hn304 (386) 2 (Or.inl (by omega))).trans (f285)
        have f306 := (hn304 (386) 3 (Or.inl (by omega))).trans (f288)
        have f307 := (hn304 (386) 5 (Or.inl (by omega))).trans (f292)
        have f308 := (hn304 (386) 8 (Or.inl (by omega))).trans (f297)
        have f309 := (hn304 (386) 35 (Or.inl (by omega))).trans ((hJ280.2 (386) 35 (zNI_k (by decide) (by decide) (zNI_k (by decide) (by decide) (zNI_k (by decide) (by decide) (zNI_k (by decide) (by decide) (zNI_k (by decide) (by decide) (zNI_k (by decide) (by decide) (zNI_k (by decide) (by decide) zNI_nil)))))))).trans (f270))
        have f310 := (hn304 (396) (x235 : Int32).toInt.toNat (Or.inl (by omega))).trans ((hJ280.2 (396) (x235 : Int32).toInt.toNat (zNI (by omega) (zNI (by omega) (zNI (by omega) (zNI (by omega) (zNI (by omega) (zNI (by omega) (zNI (by omega) zNI_nil)))))))).trans (f276))
        exact ih55 M301 x277 x284 x287 x291 x296 x235 x242 hJ302 (by omega) (by omega) f305 (by omega) f306 (by omega) (by omega) f307 (by omega) (by omega) (by omega) f308 (by omega) (by omega) (by omega) f309 (by omega) (by omega) f310 (by omega) (by omega) (by omega)
  · skip
    refine w_cne_f dX9_dreaming_12 (t := 19) rfl (by have := zt_6; omega) ?_
    refine w_ic dX9_dreaming_15 zi_1 ?_
    refine w_gt dX9_dreaming_16 (t := 20) rfl ?_
    refine w_iv dX9_dreaming_20 rfl rfl (As := [.int 1]) rfl rfl hJ0.1.1 zs_386 (Nat.le_of_ble_eq_true rfl) ?_
    refine ZV.of (ini := false) rfl (Nat.le_of_ble_eq_true rfl) (by decide +kernel) ?_
    show ZW _ _ _ _ _ _ _ (0, [some (.ref 386), some (.int 1)], [], M0)
    refine w_lo dX9_counts_0 rfl rfl rfl rfl ?_
    refine w_gf dX9_counts_1 rfl hJ0.1.1 zs_386 hffk ?_
    rcases Int.decEq fk.toInt (0 : Int) with h311 | h311
    · skip
      refine w_ine_t dX9_counts_4 (t := 20) rfl (by omega) ?_
      refine w_lo dX9_counts_20 rfl rfl rfl rfl ?_
      refine w_gf dX9_counts_21 rfl hJ0.1.1 zs_386 hffk ?_
      refine w_ine_t dX9_counts_24 (t := 31) rfl (by omega) ?_
      refine w_lo dX9_counts_31 rfl rfl rfl rfl ?_
      refine w_gf dX9_counts_32 rfl hJ0.1.1 zs_386 hffk ?_
      refine w_ine_t dX9_counts_35 (t := 42) rfl (by omega) ?_
      refine w_ic dX9_counts_42 zi_0 ?_
      refine w_en dX9_counts_43 rfl ?_
      show ZW _ _ _ _ _ _ _ (23, [some (.ref 386), none], [.int 0], M0)
      refine w_ine_f dX9_dreaming_23 (t := 27) rfl (by have := zt_0; omega) ?_
      refine w_en dX9_dreaming_26 rfl ?_
      exact ⟨_, rfl, hJ0, ⟨sz, hfsz, (by omega), sg, hfsg, (by omega), (by omega), se, hfse, (by omega), (by omega), (by omega), fk, hffk, (by omega), (by omega), (by omega), trivial⟩⟩
    · skip
      refine w_ine_f dX9_counts_4 (t := 20) rfl (by omega) ?_
      refine w_lo dX9_counts_7 rfl rfl rfl rfl ?_
      refine w_ieq_f dX9_counts_8 (t := 20) rfl (by have := zt_1; omega) ?_
      refine w_lo dX9_counts_11 rfl rfl rfl rfl ?_
      refine w_ic dX9_counts_12 zi_5 ?_
      refine w_lo dX9_counts_13 rfl rfl rfl rfl ?_
      refine w_gfi dX9_counts_14 rfl hJ0.1 zs_386 (Nat.le_of_ble_eq_true rfl) zo_386_4 ?_
      intro x312 f313 h314 h315
      refine w_iv dX9_counts_17 rfl rfl (As := [.int 5, .int x312]) rfl rfl hJ0.1.1 zs_386 (Nat.le_of_ble_eq_true rfl) ?_
      refine ZV.of (ini := false) rfl (Nat.le_of_ble_eq_true rfl) (by decide +kernel) ?_
      show ZW _ _ _ _ _ _ _ (0, [some (.ref 386), some (.int 5), some (.int x312)], [], M0)
      refine w_lo dX9_blame_0 rfl rfl rfl rfl ?_
      refine w_gf dX9_blame_1 rfl hJ0.1.1 zs_386 hffk ?_
      refine w_ile_t dX9_blame_4 (t := 8) rfl (by omega) ?_
      refine w_lo dX9_blame_8 rfl rfl rfl rfl ?_
      refine w_lo dX9_blame_9 rfl rfl rfl rfl ?_
      refine w_pfi dX9_blame_10 rfl hJ0 zs_386 (Nat.le_of_ble_eq_true rfl) zo_386_8 (by have := zt_5; omega) (by have := zt_5; omega) (zIR_s (zIR_s (zIR_s (zIR_s (zIR_s (zIR_s (zIR_k (by omega) (by omega)))))))) rfl rfl rfl ?_
      intro M316 hJ317 f318 hn319
      refine w_lo dX9_blame_13 rfl rfl rfl rfl ?_
      refine w_lo dX9_blame_14 rfl rfl rfl rfl ?_
      refine w_pfi dX9_blame_15 rfl hJ317 zs_386 (Nat.le_of_ble_eq_true rfl) zo_386_9 (by omega) (by omega) (zIR_s (zIR_s (zIR_s (zIR_s (zIR_s (zIR_s (zIR_s (zIR_k (by omega) (by omega))))))))) rfl rfl rfl ?_
      intro M320 hJ321 f322 hn323
      refine w_en dX9_blame_18 rfl ?_
      show ZW _ _ _ _ _ _ _ (20, [some (.ref 386), some (.int 1)], [], M320)
      refine w_lo dX9_counts_20 rfl rfl rfl rfl ?_
      have f324 := (hn323 (386) 8 (Or.inr (by decide))).trans (f318)
      refine w_gf dX9_counts_21 rfl hJ321.1.1 zs_386 f324 ?_
      refine w_ine_t dX9_counts_24 (t := 31) rfl (by have := zt_5; omega) ?_
      refine w_lo dX9_counts_31 rfl rfl rfl rfl ?_
      refine w_gf dX9_counts_32 rfl hJ321.1.1 zs_386 f324 ?_
      refine w_ine_t dX9_counts_35 (t := 42) rfl (by have := zt_5; omega) ?_
      refine w_ic dX9_counts_42 zi_0 ?_
      refine w_en dX9_counts_43 rfl ?_
      show ZW _ _ _ _ _ _ _ (23, [some (.ref 386), none], [.int 0], M320)
      refine w_ine_f dX9_dreaming_23 (t := 27) rfl (by have := zt_0; omega) ?_
      refine w_en dX9_dreaming_26 rfl ?_
      have f325 := (hn323 (386) 2 (Or.inr (by decide))).trans ((hn319 (386) 2 (Or.inr (by decide))).trans (hfsz))
      have f326 := (hn323 (386) 3 (Or.inr (by decide))).trans ((hn319 (386) 3 (Or.inr (by decide))).trans (hfsg))
      have f327 := (hn323 (386) 5 (Or.inr (by decide))).trans ((hn319 (386) 5 (Or.inr (by decide))).trans (hfse))
      exact ⟨_, rfl, hJ321, ⟨sz, f325, (by omega), sg, f326, (by omega), (by omega), se, f327, (by omega), (by omega), (by omega), 5, f324, (by have := zt_5; omega), (by have := zt_5; omega), (by have := zt_5; omega), trivial⟩⟩
set_option maxRecDepth 100000 in
theorem k_2338 {X : List Int32} {d N : Nat} {M0 : zM} (a0 : Int32) (ha00 : (0 : Int) ≤ a0.toInt) (ha01 : a0.toInt ≤ 22) (hN : N ≤ 600) (hB0 : zB N M0) : ZV X (d + 1) 2338 [.int a0] M0 (zRI N [] M0 (1) (6) (fun _ _ => True)) := by
  have hJ0 : zJ N [] M0 M0 := zJ_refl hB0
  refine ZV.of (ini := false) rfl (Nat.le_of_ble_eq_true rfl) (by decide +kernel) ?_
  show ZW _ _ _ _ _ _ _ (0, [some (.int a0)], [], M0)
  refine w_lo dX9_rank_0 rfl rfl rfl rfl ?_
  refine w_bi dX9_rank_1 (c := 21) (by decide) ?_
  rcases Int.decEq a0.toInt (21 : Int) with h1 | h1
  · skip
    refine w_cne_t dX9_rank_3 (t := 10) rfl (by have := zt_21; omega) ?_
    refine w_lo dX9_rank_10 rfl rfl rfl rfl ?_
    refine w_bi dX9_rank_11 (c := 20) (by decide) ?_
    rcases Int.decEq a0.toInt (20 : Int) with h2 | h2
    · skip
      refine w_cne_t dX9_rank_13 (t := 20) rfl (by have := zt_20; omega) ?_
      refine w_lo dX9_rank_20 rfl rfl rfl rfl ?_
      refine w_bi dX9_rank_21 (c := 22) (by decide) ?_
      rcases Int.decEq a0.toInt (22 : Int) with h3 | h3
      · skip
        refine w_cne_t dX9_rank_23 (t := 30) rfl (by have := zt_22; omega) ?_
        refine w_lo dX9_rank_30 rfl rfl rfl rfl ?_
        refine w_bi dX9_rank_31 (c := 17) (by decide) ?_
        rcases Int.decEq a0.toInt (17 : Int) with h4 | h4
        · skip
          refine w_ceq_f dX9_rank_33 (t := 48) rfl (by have := zt_17; omega) ?_
          refine w_lo dX9_rank_36 rfl rfl rfl rfl ?_
          refine w_bi dX9_rank_37 (c := 18) (by decide) ?_
          rcases Int.decEq a0.toInt (18 : Int) with h5 | h5
          · skip
            refine w_ceq_f dX9_rank_39 (t := 48) rfl (by have := zt_18; omega) ?_
            refine w_lo dX9_rank_42 rfl rfl rfl rfl ?_
            refine w_bi dX9_rank_43 (c := 19) (by decide) ?_
            rcases Int.decEq a0.toInt (19 : Int) with h6 | h6
            · skip
              refine w_cne_t dX9_rank_45 (t := 52) rfl (by have := zt_19; omega) ?_
              refine w_lo dX9_rank_52 rfl rfl rfl rfl ?_
              refine w_bi dX9_rank_53 (c := 10) (by decide) ?_
              rcases Int.decEq a0.toInt (10 : Int) with h7 | h7
              · skip
                refine w_ceq_f dX9_rank_55 (t := 64) rfl (by have := zt_10; omega) ?_
                refine w_lo dX9_rank_58 rfl rfl rfl rfl ?_
                refine w_bi dX9_rank_59 (c := 11) (by decide) ?_
                rcases Int.decEq a0.toInt (11 : Int) with h8 | h8
                · skip
                  refine w_cne_t dX9_rank_61 (t := 68) rfl (by have := zt_11; omega) ?_
                  refine w_bi dX9_rank_68 (c := 6) (by decide) ?_
                  refine w_en dX9_rank_70 rfl ?_
                  exact ⟨_, _, rfl, (by have := zt_6; omega), (by have := zt_6; omega), hJ0, trivial⟩
                · skip
                  refine w_cne_f dX9_rank_61 (t := 68) rfl (by have := zt_11; omega) ?_
                  refine w_ic dX9_rank_64 zi_5 ?_
                  refine w_gt dX9_rank_65 (t := 70) rfl ?_
                  refine w_en dX9_rank_70 rfl ?_
                  exact ⟨_, _, rfl, (by have := zt_5; omega), (by have := zt_5; omega), hJ0, trivial⟩
              · skip
                refine w_ceq_t dX9_rank_55 (t := 64) rfl (by have := zt_10; omega) ?_
                refine w_ic dX9_rank_64 zi_5 ?_
                refine w_gt dX9_rank_65 (t := 70) rfl ?_
                refine w_en dX9_rank_70 rfl ?_
                exact ⟨_, _, rfl, (by have := zt_5; omega), (by have := zt_5; omega), hJ0, trivial⟩
            · skip
              refine w_cne_f dX9_rank_45 (t := 52) rfl (by have := zt_19; omega) ?_
              refine w_ic dX9_rank_48 zi_4 ?_
              refine w_gt dX9_rank_49 (t := 70) rfl ?_
              refine w_en dX9_rank_70 rfl ?_
              exact ⟨_, _, rfl, (by have := zt_4; omega), (by have := zt_4; omega), hJ0, trivial⟩
          · skip
            refine w_ceq_t dX9_rank_39 (t := 48) rfl (by have := zt_18; omega) ?_
            refine w_ic dX9_rank_48 zi_4 ?_
            refine w_gt dX9_rank_49 (t := 70) rfl ?_
            refine w_en dX9_rank_70 rfl ?_
            exact ⟨_, _, rfl, (by have := zt_4; omega), (by have := zt_4; omega), hJ0, trivial⟩
        · skip
          refine w_ceq_t dX9_rank_33 (t := 48) rfl (by have := zt_17; omega) ?_
          refine w_ic dX9_rank_48 zi_4 ?_
          refine w_gt dX9_rank_49 (t := 70) rfl ?_
          refine w_en dX9_rank_70 rfl ?_
          exact ⟨_, _, rfl, (by have := zt_4; omega), (by have := zt_4; omega), hJ0, trivial⟩
      · skip
        refine w_cne_f dX9_rank_23 (t := 30) rfl (by have := zt_22; omega) ?_
        refine w_ic dX9_rank_26 zi_3 ?_
        refine w_gt dX9_rank_27 (t := 70) rfl ?_
        refine w_en dX9_rank_70 rfl ?_
        exact ⟨_, _, rfl, (by have := zt_3; omega), (by have := zt_3; omega), hJ0, trivial⟩
    · skip
      refine w_cne_f dX9_rank_13 (t := 20) rfl (by have := zt_20; omega) ?_
      refine w_ic dX9_rank_16 zi_2 ?_
      refine w_gt dX9_rank_17 (t := 70) rfl ?_
      refine w_en dX9_rank_70 rfl ?_
      exact ⟨_, _, rfl, (by have := zt_2; omega), (by have := zt_2; omega), hJ0, trivial⟩
  · skip
    refine w_cne_f dX9_rank_3 (t := 10) rfl (by have := zt_21; omega) ?_
    refine w_ic dX9_rank_6 zi_1 ?_
    refine w_gt dX9_rank_7 (t := 70) rfl ?_
    refine w_en dX9_rank_70 rfl ?_
    exact ⟨_, _, rfl, (by have := zt_1; omega), (by have := zt_1; omega), hJ0, trivial⟩
set_option maxRecDepth 100000 in
theorem k_2340 {X : List Int32} {d N : Nat} {M0 : zM} (a0 : Int32) (ha00 : (59 : Int) ≤ a0.toInt) (ha01 : a0.toInt ≤ 59) (sz : Int32) (hfsz : zvl M0 (386) 2 = some (.int sz)) (hrsz0 : 0 ≤ sz.toInt) (hrsz1 : sz.toInt ≤ 1600) (sg : Int32) (hfsg : zvl M0 (386) 3 = some (.int sg)) (hrsg0 : 0 ≤ sg.toInt) (hrsg1 : sg.toInt ≤ 3) (se : Int32) (hfse : zvl M0 (386) 5 = some (.int se)) (hrse0 : 0 ≤ se.toInt) (hrse1 : se.toInt ≤ sz.toInt) (fk : Int32) (hffk : zvl M0 (386) 8 = some (.int fk)) (hrfk0 : 0 ≤ fk.toInt) (hrfk1 : fk.toInt ≤ 5) (hN : N ≤ 600) (hB0 : zB N M0) : ZV X (d + 3) 2340 [.ref 386, .int a0] M0 (zRV N [(386, 387, 3), (386, 387, 4), (386, 387, 5), (386, 387, 6), (386, 387, 7), (386, 387, 8), (386, 387, 9)] M0 (fun M' => (∃ nz : Int32, zvl M' (386) 2 = some (.int nz) ∧ (nz.toInt = sz.toInt) ∧ (∃ ng : Int32, zvl M' (386) 3 = some (.int ng) ∧ (0 ≤ ng.toInt) ∧ (ng.toInt ≤ 3) ∧ (∃ ne : Int32, zvl M' (386) 5 = some (.int ne) ∧ (se.toInt ≤ ne.toInt) ∧ (ne.toInt ≤ sz.toInt) ∧ (4 * (sz.toInt - ne.toInt) + ng.toInt ≤ 4 * (sz.toInt - se.toInt) + sg.toInt) ∧ (∃ nk : Int32, zvl M' (386) 8 = some (.int nk) ∧ (fk.toInt ≤ nk.toInt) ∧ (nk.toInt ≤ 5) ∧ (1 ≤ nk.toInt ∨ 4 * (sz.toInt - ne.toInt) + ng.toInt + 1 ≤ 4 * (sz.toInt - se.toInt) + sg.toInt) ∧ True)))))) := by
  have hJ0 : zJ N [(386, 387, 3), (386, 387, 4), (386, 387, 5), (386, 387, 6), (386, 387, 7), (386, 387, 8), (386, 387, 9)] M0 M0 := zJ_refl hB0
  refine ZV.of (ini := false) rfl (Nat.le_of_ble_eq_true rfl) (by decide +kernel) ?_
  show ZW _ _ _ _ _ _ _ (0, [some (.ref 386), some (.int a0)], [], M0)
  refine w_lo dX9_must_0 rfl rfl rfl rfl ?_
  refine w_lo dX9_must_1 rfl rfl rfl rfl ?_
  refine w_iv dX9_must_2 rfl rfl (As := [.int a0]) rfl rfl hJ0.1.1 zs_386 (Nat.le_of_ble_eq_true rfl) ?_
  refine ZV.of (ini := false) rfl (Nat.le_of_ble_eq_true rfl) (by decide +kernel) ?_
  show ZW _ _ _ _ _ _ _ (0, [some (.ref 386), some (.int a0)], [], M0)
  refine w_lo dX9_isSign_0 rfl rfl rfl rfl ?_
  refine w_gf dX9_isSign_1 rfl hJ0.1.1 zs_386 hfsg ?_
  refine w_ic dX9_isSign_4 zi_3 ?_
  rcases Int.decEq sg.toInt (3 : Int) with h1 | h1
  · skip
    refine w_cne_t dX9_isSign_5 (t := 20) rfl (by have := zt_3; omega) ?_
    refine w_ic dX9_isSign_20 zi_0 ?_
    refine w_en dX9_isSign_21 rfl ?_
    show ZW _ _ _ _ _ _ _ (5, [some (.ref 386), some (.int a0)], [.int 0], M0)
    refine w_ine_f dX9_must_5 (t := 17) rfl (by have := zt_0; omega) ?_
    refine w_lo dX9_must_8 rfl rfl rfl rfl ?_
    refine w_ic dX9_must_9 zi_1 ?_
    refine w_lo dX9_must_10 rfl rfl rfl rfl ?_
    refine w_gfi dX9_must_11 rfl hJ0.1 zs_386 (Nat.le_of_ble_eq_true rfl) zo_386_4 ?_
    intro x2 f3 h4 h5
    refine w_iv dX9_must_14 rfl rfl (As := [.int 1, .int x2]) rfl rfl hJ0.1.1 zs_386 (Nat.le_of_ble_eq_true rfl) ?_
    refine ZV.of (ini := false) rfl (Nat.le_of_ble_eq_true rfl) (by decide +kernel) ?_
    show ZW _ _ _ _ _ _ _ (0, [some (.ref 386), some (.int 1), some (.int x2)], [], M0)
    refine w_lo dX9_blame_0 rfl rfl rfl rfl ?_
    refine w_gf dX9_blame_1 rfl hJ0.1.1 zs_386 hffk ?_
    rcases zcut (0 : Int) fk.toInt with h6 | h6
    · skip
      refine w_ile_f dX9_blame_4 (t := 8) rfl (by omega) ?_
      refine w_en dX9_blame_7 rfl ?_
      show ZW _ _ _ _ _ _ _ (17, [some (.ref 386), some (.int a0)], [], M0)
      refine w_lo dX9_must_17 rfl rfl rfl rfl ?_
      refine w_gf dX9_must_18 rfl hJ0.1.1 zs_386 hffk ?_
      refine w_ine_t dX9_must_21 (t := 28) rfl (by omega) ?_
      refine w_en dX9_must_28 rfl ?_
      exact ⟨_, rfl, hJ0, ⟨sz, hfsz, (by omega), sg, hfsg, (by omega), (by omega), se, hfse, (by omega), (by omega), (by omega), fk, hffk, (by omega), (by omega), (by omega), trivial⟩⟩
    · skip
      refine w_ile_t dX9_blame_4 (t := 8) rfl (by omega) ?_
      refine w_lo dX9_blame_8 rfl rfl rfl rfl ?_
      refine w_lo dX9_blame_9 rfl rfl rfl rfl ?_
      refine w_pfi dX9_blame_10 rfl hJ0 zs_386 (Nat.le_of_ble_eq_true rfl) zo_386_8 (by have := zt_1; omega) (by have := zt_1; omega) (zIR_s (zIR_s (zIR_s (zIR_s (zIR_s (zIR_k (by omega) (by omega))))))) rfl rfl rfl ?_
      intro M7 hJ8 f9 hn10
      refine w_lo dX9_blame_13 rfl rfl rfl rfl ?_
      refine w_lo dX9_blame_14 rfl rfl rfl rfl ?_
      refine w_pfi dX9_blame_15 rfl hJ8 zs_386 (Nat.le_of_ble_eq_true rfl) zo_386_9 (by omega) (by omega) (zIR_s (zIR_s (zIR_s (zIR_s (zIR_s (zIR_s (zIR_k (by omega) (by omega)))))))) rfl rfl rfl ?_
      intro M11 hJ12 f13 hn14
      refine w_en dX9_blame_18 rfl ?_
      show ZW _ _ _ _ _ _ _ (17, [some (.ref 386), some (.int a0)], [], M11)
      refine w_lo dX9_must_17 rfl rfl rfl rfl ?_
      have f15 := (hn14 (386) 8 (Or.inr (by decide))).trans (f9)
      refine w_gf dX9_must_18 rfl hJ12.1.1 zs_386 f15 ?_
      refine w_ine_t dX9_must_21 (t := 28) rfl (by have := zt_1; omega) ?_
      refine w_en dX9_must_28 rfl ?_
      have f16 := (hn14 (386) 2 (Or.inr (by decide))).trans ((hn10 (386) 2 (Or.inr (by decide))).trans (hfsz))
      have f17 := (hn14 (386) 3 (Or.inr (by decide))).trans ((hn10 (386) 3 (Or.inr (by decide))).trans (hfsg))
      have f18 := (hn14 (386) 5 (Or.inr (by decide))).trans ((hn10 (386) 5 (Or.inr (by decide))).trans (hfse))
      exact ⟨_, rfl, hJ12, ⟨sz, f16, (by omega), sg, f17, (by omega), (by omega), se, f18, (by omega), (by omega), (by omega), 1, f15, (by have := zt_1; omega), (by have := zt_1; omega), (by have := zt_1; omega), trivial⟩⟩
  · skip
    refine w_cne_f dX9_isSign_5 (t := 20) rfl (by have := zt_3; omega) ?_
    refine w_lo dX9_isSign_8 rfl rfl rfl rfl ?_
    refine w_gfi dX9_isSign_9 rfl hJ0.1 zs_386 (Nat.le_of_ble_eq_true rfl) zo_386_6 ?_
    intro x19 f20 h21 h22
    refine w_lo dX9_isSign_12 rfl rfl rfl rfl ?_
    rcases Int.decEq x19.toInt a0.toInt with h23 | h23
    · skip
      refine w_cne_t dX9_isSign_13 (t := 20) rfl (by omega) ?_
      refine w_ic dX9_isSign_20 zi_0 ?_
      refine w_en dX9_isSign_21 rfl ?_
      show ZW _ _ _ _ _ _ _ (5, [some (.ref 386), some (.int a0)], [.int 0], M0)
      refine w_ine_f dX9_must_5 (t := 17) rfl (by have := zt_0; omega) ?_
      refine w_lo dX9_must_8 rfl rfl rfl rfl ?_
      refine w_ic dX9_must_9 zi_1 ?_
      refine w_lo dX9_must_10 rfl rfl rfl rfl ?_
      refine w_gfi dX9_must_11 rfl hJ0.1 zs_386 (Nat.le_of_ble_eq_true rfl) zo_386_4 ?_
      intro x24 f25 h26 h27
      refine w_iv dX9_must_14 rfl rfl (As := [.int 1, .int x24]) rfl rfl hJ0.1.1 zs_386 (Nat.le_of_ble_eq_true rfl) ?_
      refine ZV.of (ini := false) rfl (Nat.le_of_ble_eq_true rfl) (by decide +kernel) ?_
      show ZW _ _ _ _ _ _ _ (0, [some (.ref 386), some (.int 1), some (.int x24)], [], M0)
      refine w_lo dX9_blame_0 rfl rfl rfl rfl ?_
      refine w_gf dX9_blame_1 rfl hJ0.1.1 zs_386 hffk ?_
      rcases zcut (0 : Int) fk.toInt with h28 | h28
      · skip
        refine w_ile_f dX9_blame_4 (t := 8) rfl (by omega) ?_
        refine w_en dX9_blame_7 rfl ?_
        show ZW _ _ _ _ _ _ _ (17, [some (.ref 386), some (.int a0)], [], M0)
        refine w_lo dX9_must_17 rfl rfl rfl rfl ?_
        refine w_gf dX9_must_18 rfl hJ0.1.1 zs_386 hffk ?_
        refine w_ine_t dX9_must_21 (t := 28) rfl (by omega) ?_
        refine w_en dX9_must_28 rfl ?_
        exact ⟨_, rfl, hJ0, ⟨sz, hfsz, (by omega), sg, hfsg, (by omega), (by omega), se, hfse, (by omega), (by omega), (by omega), fk, hffk, (by omega), (by omega), (by omega), trivial⟩⟩
      · skip
        refine w_ile_t dX9_blame_4 (t := 8) rfl (by omega) ?_
        refine w_lo dX9_blame_8 rfl rfl rfl rfl ?_
        refine w_lo dX9_blame_9 rfl rfl rfl rfl ?_
        refine w_pfi dX9_blame_10 rfl hJ0 zs_386 (Nat.le_of_ble_eq_true rfl) zo_386_8 (by have := zt_1; omega) (by have := zt_1; omega) (zIR_s (zIR_s (zIR_s (zIR_s (zIR_s (zIR_k (by omega) (by omega))))))) rfl rfl rfl ?_
        intro M29 hJ30 f31 hn32
        refine w_lo dX9_blame_13 rfl rfl rfl rfl ?_
        refine w_lo dX9_blame_14 rfl rfl rfl rfl ?_
        refine w_pfi dX9_blame_15 rfl hJ30 zs_386 (Nat.le_of_ble_eq_true rfl) zo_386_9 (by omega) (by omega) (zIR_s (zIR_s (zIR_s (zIR_s (zIR_s (zIR_s (zIR_k (by omega) (by omega)))))))) rfl rfl rfl ?_
        intro M33 hJ34 f35 hn36
        refine w_en dX9_blame_18 rfl ?_
        show ZW _ _ _ _ _ _ _ (17, [some (.ref 386), some (.int a0)], [], M33)
        refine w_lo dX9_must_17 rfl rfl rfl rfl ?_
        have f37 := (hn36 (386) 8 (Or.inr (by decide))).trans (f31)
        refine w_gf dX9_must_18 rfl hJ34.1.1 zs_386 f37 ?_
        refine w_ine_t dX9_must_21 (t := 28) rfl (by have := zt_1; omega) ?_
        refine w_en dX9_must_28 rfl ?_
        have f38 := (hn36 (386) 2 (Or.inr (by decide))).trans ((hn32 (386) 2 (Or.inr (by decide))).trans (hfsz))
        have f39 := (hn36 (386) 3 (Or.inr (by decide))).trans ((hn32 (386) 3 (Or.inr (by decide))).trans (hfsg))
        have f40 := (hn36 (386) 5 (Or.inr (by decide))).trans ((hn32 (386) 5 (Or.inr (by decide))).trans (hfse))
        exact ⟨_, rfl, hJ34, ⟨sz, f38, (by omega), sg, f39, (by omega), (by omega), se, f40, (by omega), (by omega), (by omega), 1, f37, (by have := zt_1; omega), (by have := zt_1; omega), (by have := zt_1; omega), trivial⟩⟩
    · skip
      refine w_cne_f dX9_isSign_13 (t := 20) rfl (by omega) ?_
      refine w_ic dX9_isSign_16 zi_1 ?_
      refine w_gt dX9_isSign_17 (t := 21) rfl ?_
      refine w_en dX9_isSign_21 rfl ?_
      show ZW _ _ _ _ _ _ _ (5, [some (.ref 386), some (.int a0)], [.int 1], M0)
      refine w_ine_t dX9_must_5 (t := 17) rfl (by have := zt_1; omega) ?_
      refine w_lo dX9_must_17 rfl rfl rfl rfl ?_
      refine w_gf dX9_must_18 rfl hJ0.1.1 zs_386 hffk ?_
      rcases Int.decEq fk.toInt (0 : Int) with h41 | h41
      · skip
        refine w_ine_t dX9_must_21 (t := 28) rfl (by omega) ?_
        refine w_en dX9_must_28 rfl ?_
        exact ⟨_, rfl, hJ0, ⟨sz, hfsz, (by omega), sg, hfsg, (by omega), (by omega), se, hfse, (by omega), (by omega), (by omega), fk, hffk, (by omega), (by omega), (by omega), trivial⟩⟩
      · skip
        refine w_ine_f dX9_must_21 (t := 28) rfl (by omega) ?_
        refine w_lo dX9_must_24 rfl rfl rfl rfl ?_
        refine w_iv dX9_must_25 rfl rfl (As := []) rfl rfl hJ0.1.1 zs_386 (Nat.le_of_ble_eq_true rfl) ?_
        refine ZV.imp (k_2310 sz hfsz (by omega) (by omega) sg hfsg (by omega) (by omega) se hfse (by omega) (by omega) fk hffk (by omega) (by omega) hN hJ0.1) ?_
        rintro _ ⟨M42, rfl, hJ43, hq44⟩
        have hJ45 := zJ_trans hJ0 hJ43 (zSub_cons (fun _ _ h h' hk => zIR_e (by omega) (by omega) hk) (zSub_cons (fun _ _ h h' hk => zIR_s (zIR_e (by omega) (by omega) hk)) (zSub_cons (fun _ _ h h' hk => zIR_s (zIR_s (zIR_e (by omega) (by omega) hk))) (zSub_cons (fun _ _ h h' hk => zIR_s (zIR_s (zIR_s (zIR_e (by omega) (by omega) hk)))) (zSub_cons (fun _ _ h h' hk => zIR_s (zIR_s (zIR_s (zIR_s (zIR_e (by omega) (by omega) hk))))) (zSub_cons (fun _ _ h h' hk => zIR_s (zIR_s (zIR_s (zIR_s (zIR_s (zIR_e (by omega) (by omega) hk)))))) (zSub_cons (fun _ _ h h' hk => zIR_s (zIR_s (zIR_s (zIR_s (zIR_s (zIR_s (zIR_e (by omega) (by omega) hk))))))) zSub_nil)))))))
        obtain ⟨x46, f47, h48, x49, f50, h51, h52, x53, f54, h55, h56, x57, f58, h59, h60, h61, x62, f63, h64, h65, -⟩ := hq44
        show ZW _ _ _ _ _ _ _ (28, [some (.ref 386), some (.int a0)], [], M42)
        refine w_en dX9_must_28 rfl ?_
        exact ⟨_, rfl, hJ45, ⟨x46, f47, (by omega), x49, f50, (by omega), (by omega), x57, f58, (by omega), (by omega), (by omega), x62, f63, (by omega), (by omega), (by omega), trivial⟩⟩
set_option maxRecDepth 100000 in
theorem k_2339 {X : List Int32} {d N : Nat} {M0 : zM} (a0 : Int32) (sz : Int32) (hfsz : zvl M0 (386) 2 = some (.int sz)) (hrsz0 : 0 ≤ sz.toInt) (hrsz1 : sz.toInt ≤ 1600) (sg : Int32) (hfsg : zvl M0 (386) 3 = some (.int sg)) (hrsg0 : 0 ≤ sg.toInt) (hrsg1 : sg.toInt ≤ 3) (se : Int32) (hfse : zvl M0 (386) 5 = some (.int se)) (hrse0 : 0 ≤ se.toInt) (hrse1 : se.toInt ≤ sz.toInt) (fk : Int32) (hffk : zvl M0 (386) 8 = some (.int fk)) (hrfk0 : 0 ≤ fk.toInt) (hrfk1 : fk.toInt ≤ 5) (hN : N ≤ 600) (hB0 : zB N M0) : ZV X (d + 4) 2339 [.ref 386, .int a0] M0 (zRV N [(386, 387, 3), (386, 387, 4), (386, 387, 5), (386, 387, 6), (386, 387, 7), (386, 387, 8), (386, 387, 9)] M0 (fun M' => (∃ nz : Int32, zvl M' (386) 2 = some (.int nz) ∧ (nz.toInt = sz.toInt) ∧ (∃ ng : Int32, zvl M' (386) 3 = some (.int ng) ∧ (0 ≤ ng.toInt) ∧ (ng.toInt ≤ 3) ∧ (∃ ne : Int32, zvl M' (386) 5 = some (.int ne) ∧ (se.toInt ≤ ne.toInt) ∧ (ne.toInt ≤ sz.toInt) ∧ (4 * (sz.toInt - ne.toInt) + ng.toInt ≤ 4 * (sz.toInt - se.toInt) + sg.toInt) ∧ (∃ nk : Int32, zvl M' (386) 8 = some (.int nk) ∧ (fk.toInt ≤ nk.toInt) ∧ (nk.toInt ≤ 5) ∧ True)))))) := by
  have hJ0 : zJ N [(386, 387, 3), (386, 387, 4), (386, 387, 5), (386, 387, 6), (386, 387, 7), (386, 387, 8), (386, 387, 9)] M0 M0 := zJ_refl hB0
  refine ZV.of (ini := false) rfl (Nat.le_of_ble_eq_true rfl) (by decide +kernel) ?_
  have main : ∀ n : Nat,
      (∀ (M : zM) (v13_1 : Int32) (v13_2 : Int32) (z_13 : Int32) (g_13 : Int32) (e_13 : Int32) (k_13 : Int32), zJ N [(386, 387, 3), (386, 387, 4), (386, 387, 5), (386, 387, 6), (386, 387, 7), (386, 387, 8), (386, 387, 9)] M0 M → ((-2147483648 : Int) ≤ v13_1.toInt) → (v13_1.toInt ≤ 2147483647) → ((0 : Int) ≤ v13_2.toInt) → (v13_2.toInt ≤ 1600) → (zvl M (386) 2 = some (.int z_13)) → (z_13.toInt = sz.toInt) → (zvl M (386) 3 = some (.int g_13)) → (0 ≤ g_13.toInt) → (g_13.toInt ≤ 3) → (zvl M (386) 5 = some (.int e_13)) → (se.toInt ≤ e_13.toInt) → (e_13.toInt ≤ sz.toInt) → (4 * (sz.toInt - e_13.toInt) + g_13.toInt ≤ 4 * (sz.toInt - se.toInt) + sg.toInt) → (zvl M (386) 8 = some (.int k_13)) → (fk.toInt ≤ k_13.toInt) → (k_13.toInt ≤ 5) → 4 * (1600 - v13_2.toInt) + 2 < (n : Int) → ZW X (d + 3) 9 false none cX9_ends (zRV N [(386, 387, 3), (386, 387, 4), (386, 387, 5), (386, 387, 6), (386, 387, 7), (386, 387, 8), (386, 387, 9)] M0 (fun M' => (∃ nz : Int32, zvl M' (386) 2 = some (.int nz) ∧ (nz.toInt = sz.toInt) ∧ (∃ ng : Int32, zvl M' (386) 3 = some (.int ng) ∧ (0 ≤ ng.toInt) ∧ (ng.toInt ≤ 3) ∧ (∃ ne : Int32, zvl M' (386) 5 = some (.int ne) ∧ (se.toInt ≤ ne.toInt) ∧ (ne.toInt ≤ sz.toInt) ∧ (4 * (sz.toInt - ne.toInt) + ng.toInt ≤ 4 * (sz.toInt - se.toInt) + sg.toInt) ∧ (∃ nk : Int32, zvl M' (386) 8 = some (.int nk) ∧ (fk.toInt ≤ nk.toInt) ∧ (nk.toInt ≤ 5) ∧ True)))))) (13, [some (.ref 386), some (.int v13_1), some (.int v13_2)], [], M)) ∧
      (∀ (M : zM) (v49_1 : Int32) (v49_2 : Int32) (z_49 : Int32) (g_49 : Int32) (e_49 : Int32) (k_49 : Int32), zJ N [(386, 387, 3), (386, 387, 4), (386, 387, 5), (386, 387, 6), (386, 387, 7), (386, 387, 8), (386, 387, 9)] M0 M → ((-2147483648 : Int) ≤ v49_1.toInt) → (v49_1.toInt ≤ 2147483647) → ((0 : Int) ≤ v49_2.toInt) → (v49_2.toInt ≤ 1600) → (zvl M (386) 2 = some (.int z_49)) → (z_49.toInt = sz.toInt) → (zvl M (386) 3 = some (.int g_49)) → (0 ≤ g_49.toInt) → (g_49.toInt ≤ 3) → (zvl M (386) 5 = some (.int e_49)) → (se.toInt ≤ e_49.toInt) → (e_49.toInt ≤ sz.toInt) → (4 * (sz.toInt - e_49.toInt) + g_49.toInt ≤ 4 * (sz.toInt - se.toInt) + sg.toInt) → (zvl M (386) 8 = some (.int k_49)) → (fk.toInt ≤ k_49.toInt) → (k_49.toInt ≤ 5) → 1 < (n : Int) → ZW X (d + 3) 9 false none cX9_ends (zRV N [(386, 387, 3), (386, 387, 4), (386, 387, 5), (386, 387, 6), (386, 387, 7), (386, 387, 8), (386, 387, 9)] M0 (fun M' => (∃ nz : Int32, zvl M' (386) 2 = some (.int nz) ∧ (nz.toInt = sz.toInt) ∧ (∃ ng : Int32, zvl M' (386) 3 = some (.int ng) ∧ (0 ≤ ng.toInt) ∧ (ng.toInt ≤ 3) ∧ (∃ ne : Int32, zvl M' (386) 5 = some (.int ne) ∧ (se.toInt ≤ ne.toInt) ∧ (ne.toInt ≤ sz.toInt) ∧ (4 * (sz.toInt - ne.toInt) + ng.toInt ≤ 4 * (sz.toInt - se.toInt) + sg.toInt) ∧ (∃ nk : Int32, zvl M' (386) 8 = some (.int nk) ∧ (fk.toInt ≤ nk.toInt) ∧ (nk.toInt ≤ 5) ∧ True)))))) (49, [some (.ref 386), some (.int v49_1), some (.int v49_2)], [], M)) := by
    intro n
    induction n with
    | zero =>
      exact ⟨(fun M v13_1 v13_2 z_13 g_13 e_13 k_13 hJ v13_10 v13_11 v13_20 v13_21 hfz_13 hrz_130 hfg_13 hrg_130 hrg_131 hfe_13 hre_130 hre_131 hre_132 hfk_13 hrk_130 hrk_131 hn => absurd hn (by omega)), (fun M v49_1 v49_2 z_49 g_49 e_49 k_49 hJ v49_10 v49_11 v49_20 v49_21 hfz_49 hrz_490 hfg_49 hrg_490 hrg_491 hfe_49 hre_490 hre_491 hre_492 hfk_49 hrk_490 hrk_491 hn => absurd hn (by omega))⟩
    | succ n ih =>
      obtain ⟨ih13, ih49⟩ := ih
      refine ⟨?_, ?_⟩
      · intro M v13_1 v13_2 z_13 g_13 e_13 k_13 hJ v13_10 v13_11 v13_20 v13_21 hfz_13 hrz_130 hfg_13 hrg_130 hrg_131 hfe_13 hre_130 hre_131 hre_132 hfk_13 hrk_130 hrk_131 hn
        refine w_lo dX9_ends_13 rfl rfl rfl rfl ?_
        refine w_lo dX9_ends_14 rfl rfl rfl rfl ?_
        refine w_gf dX9_ends_15 rfl hJ.1.1 zs_386 hfz_13 ?_
        rcases zcut v13_2.toInt z_13.toInt with h1 | h1
        · skip
          refine w_cge_f dX9_ends_18 (t := 49) rfl (by omega) ?_
          refine w_lo dX9_ends_21 rfl rfl rfl rfl ?_
          refine w_gf dX9_ends_22 rfl hJ.1.1 zs_386 (zr_386_0 hJ.1) ?_
          refine w_lo dX9_ends_25 rfl rfl rfl rfl ?_
          refine w_iai dX9_ends_26 hJ.1 zs_387 (by omega) (by omega) zu_387 ?_
          intro x5 f2 h3 h4
          refine w_bi dX9_ends_27 (c := 32) (by decide) ?_
          rcases Int.decEq x5.toInt (32 : Int) with h6 | h6
          · skip
            refine w_ceq_f dX9_ends_29 (t := 43) rfl (by have := zt_32; omega) ?_
            refine w_lo dX9_ends_32 rfl rfl rfl rfl ?_
            refine w_gf dX9_ends_33 rfl hJ.1.1 zs_386 (zr_386_0 hJ.1) ?_
            refine w_lo dX9_ends_36 rfl rfl rfl rfl ?_
            refine w_ia dX9_ends_37 hJ.1.1 zs_387 (znat (by omega)) f2 ?_
            refine w_bi dX9_ends_38 (c := 10) (by decide) ?_
            rcases Int.decEq x5.toInt (10 : Int) with h10 | h10
            · skip
              refine w_cne_t dX9_ends_40 (t := 49) rfl (by have := zt_10; omega) ?_
              exact ih49 M v13_1 v13_2 z_13 g_13 e_13 k_13 hJ (zbot _) (ztop _) (by omega) (by omega) hfz_13 (by omega) hfg_13 (by omega) (by omega) hfe_13 (by omega) (by omega) (by omega) hfk_13 (by omega) (by omega) (by omega)
            · skip
              refine w_cne_f dX9_ends_40 (t := 49) rfl (by have := zt_10; omega) ?_
              refine w_inc (kk := 2) dX9_ends_43 rfl (m := 1) (by decide) (by omega) ?_
              intro x11 h12
              refine ⟨_, rfl, ?_⟩
              show ZW _ _ _ _ _ _ _ (46, [some (.ref 386), some (.int v13_1), some (.int x11)], [], M)
              refine w_gt dX9_ends_46 (t := 13) rfl ?_
              exact ih13 M v13_1 x11 z_13 g_13 e_13 k_13 hJ (zbot _) (ztop _) (by omega) (by omega) hfz_13 (by omega) hfg_13 (by omega) (by omega) hfe_13 (by omega) (by omega) (by omega) hfk_13 (by omega) (by omega) (by omega)
          · skip
            refine w_ceq_t dX9_ends_29 (t := 43) rfl (by have := zt_32; omega) ?_
            refine w_inc (kk := 2) dX9_ends_43 rfl (m := 1) (by decide) (by omega) ?_
            intro x13 h14
            refine ⟨_, rfl, ?_⟩
            show ZW _ _ _ _ _ _ _ (46, [some (.ref 386), some (.int v13_1), some (.int x13)], [], M)
            refine w_gt dX9_ends_46 (t := 13) rfl ?_
            exact ih13 M v13_1 x13 z_13 g_13 e_13 k_13 hJ (zbot _) (ztop _) (by omega) (by omega) hfz_13 (by omega) hfg_13 (by omega) (by omega) hfe_13 (by omega) (by omega) (by omega) hfk_13 (by omega) (by omega) (by omega)
        · skip
          refine w_cge_t dX9_ends_18 (t := 49) rfl (by omega) ?_
          exact ih49 M v13_1 v13_2 z_13 g_13 e_13 k_13 hJ (zbot _) (ztop _) (by omega) (by omega) hfz_13 (by omega) hfg_13 (by omega) (by omega) hfe_13 (by omega) (by omega) (by omega) hfk_13 (by omega) (by omega) (by omega)
      · intro M v49_1 v49_2 z_49 g_49 e_49 k_49 hJ v49_10 v49_11 v49_20 v49_21 hfz_49 hrz_490 hfg_49 hrg_490 hrg_491 hfe_49 hre_490 hre_491 hre_492 hfk_49 hrk_490 hrk_491 hn
        refine w_lo dX9_ends_49 rfl rfl rfl rfl ?_
        refine w_bi dX9_ends_50 (c := 59) (by decide) ?_
        refine w_iv dX9_ends_52 rfl rfl (As := [.int 59]) rfl rfl hJ.1.1 zs_386 (Nat.le_of_ble_eq_true rfl) ?_
        refine ZV.of (ini := false) rfl (Nat.le_of_ble_eq_true rfl) (by decide +kernel) ?_
        show ZW _ _ _ _ _ _ _ (0, [some (.ref 386), some (.int 59)], [], M)
        refine w_lo dX9_isSign_0 rfl rfl rfl rfl ?_
        refine w_gf dX9_isSign_1 rfl hJ.1.1 zs_386 hfg_49 ?_
        refine w_ic dX9_isSign_4 zi_3 ?_
        rcases Int.decEq g_49.toInt (3 : Int) with h15 | h15
        · skip
          refine w_cne_t dX9_isSign_5 (t := 20) rfl (by have := zt_3; omega) ?_
          refine w_ic dX9_isSign_20 zi_0 ?_
          refine w_en dX9_isSign_21 rfl ?_
          show ZW _ _ _ _ _ _ _ (55, [some (.ref 386), some (.int v49_1), some (.int v49_2)], [.int 0], M)
          refine w_ieq_t dX9_ends_55 (t := 78) rfl (by have := zt_0; omega) ?_
          refine w_lo dX9_ends_78 rfl rfl rfl rfl ?_
          refine w_bi dX9_ends_79 (c := 59) (by decide) ?_
          refine w_iv dX9_ends_81 rfl rfl (As := [.int 59]) rfl rfl hJ.1.1 zs_386 (Nat.le_of_ble_eq_true rfl) ?_
          refine ZV.imp (k_2340 59 (by have := zt_59; omega) (by have := zt_59; omega) z_49 hfz_49 (by have := zt_59; omega) (by have := zt_59; omega) g_49 hfg_49 (by have := zt_59; omega) (by have := zt_59; omega) e_49 hfe_49 (by have := zt_59; omega) (by have := zt_59; omega) k_49 hfk_49 (by have := zt_59; omega) (by have := zt_59; omega) hN hJ.1) ?_
          rintro _ ⟨M16, rfl, hJ17, hq18⟩
          have hJ19 := zJ_trans hJ hJ17 (zSub_cons (fun _ _ h h' hk => zIR_e (by omega) (by omega) hk) (zSub_cons (fun _ _ h h' hk => zIR_s (zIR_e (by omega) (by omega) hk)) (zSub_cons (fun _ _ h h' hk => zIR_s (zIR_s (zIR_e (by omega) (by omega) hk))) (zSub_cons (fun _ _ h h' hk => zIR_s (zIR_s (zIR_s (zIR_e (by omega) (by omega) hk)))) (zSub_cons (fun _ _ h h' hk => zIR_s (zIR_s (zIR_s (zIR_s (zIR_e (by omega) (by omega) hk))))) (zSub_cons (fun _ _ h h' hk => zIR_s (zIR_s (zIR_s (zIR_s (zIR_s (zIR_e (by omega) (by omega) hk)))))) (zSub_cons (fun _ _ h h' hk => zIR_s (zIR_s (zIR_s (zIR_s (zIR_s (zIR_s (zIR_e (by omega) (by omega) hk))))))) zSub_nil)))))))
          obtain ⟨x20, f21, h22, x23, f24, h25, h26, x27, f28, h29, h30, h31, x32, f33, h34, h35, h36, -⟩ := hq18
          have := zt_59
          show ZW _ _ _ _ _ _ _ (84, [some (.ref 386), some (.int v49_1), some (.int v49_2)], [], M16)
          refine w_en dX9_ends_84 rfl ?_
          exact ⟨_, rfl, hJ19, ⟨x20, f21, (by omega), x23, f24, (by omega), (by omega), x27, f28, (by omega), (by omega), (by omega), x32, f33, (by omega), (by omega), trivial⟩⟩
        · skip
          refine w_cne_f dX9_isSign_5 (t := 20) rfl (by have := zt_3; omega) ?_
          refine w_lo dX9_isSign_8 rfl rfl rfl rfl ?_
          refine w_gfi dX9_isSign_9 rfl hJ.1 zs_386 (Nat.le_of_ble_eq_true rfl) zo_386_6 ?_
          intro x37 f38 h39 h40
          refine w_lo dX9_isSign_12 rfl rfl rfl rfl ?_
          rcases Int.decEq x37.toInt (59 : Int) with h41 | h41
          · skip
            refine w_cne_t dX9_isSign_13 (t := 20) rfl (by have := zt_59; omega) ?_
            refine w_ic dX9_isSign_20 zi_0 ?_
            refine w_en dX9_isSign_21 rfl ?_
            show ZW _ _ _ _ _ _ _ (55, [some (.ref 386), some (.int v49_1), some (.int v49_2)], [.int 0], M)
            refine w_ieq_t dX9_ends_55 (t := 78) rfl (by have := zt_0; omega) ?_
            refine w_lo dX9_ends_78 rfl rfl rfl rfl ?_
            refine w_bi dX9_ends_79 (c := 59) (by decide) ?_
            refine w_iv dX9_ends_81 rfl rfl (As := [.int 59]) rfl rfl hJ.1.1 zs_386 (Nat.le_of_ble_eq_true rfl) ?_
            refine ZV.imp (k_2340 59 (by have := zt_59; omega) (by have := zt_59; omega) z_49 hfz_49 (by have := zt_59; omega) (by have := zt_59; omega) g_49 hfg_49 (by have := zt_59; omega) (by have := zt_59; omega) e_49 hfe_49 (by have := zt_59; omega) (by have := zt_59; omega) k_49 hfk_49 (by have := zt_59; omega) (by have := zt_59; omega) hN hJ.1) ?_
            rintro _ ⟨M42, rfl, hJ43, hq44⟩
            have hJ45 := zJ_trans hJ hJ43 (zSub_cons (fun _ _ h h' hk => zIR_e (by omega) (by omega) hk) (zSub_cons (fun _ _ h h' hk => zIR_s (zIR_e (by omega) (by omega) hk)) (zSub_cons (fun _ _ h h' hk => zIR_s (zIR_s (zIR_e (by omega) (by omega) hk))) (zSub_cons (fun _ _ h h' hk => zIR_s (zIR_s (zIR_s (zIR_e (by omega) (by omega) hk)))) (zSub_cons (fun _ _ h h' hk => zIR_s (zIR_s (zIR_s (zIR_s (zIR_e (by omega) (by omega) hk))))) (zSub_cons (fun _ _ h h' hk => zIR_s (zIR_s (zIR_s (zIR_s (zIR_s (zIR_e (by omega) (by omega) hk)))))) (zSub_cons (fun _ _ h h' hk => zIR_s (zIR_s (zIR_s (zIR_s (zIR_s (zIR_s (zIR_e (by omega) (by omega) hk))))))) zSub_nil)))))))
            obtain ⟨x46, f47, h48, x49, f50, h51, h52, x53, f54, h55, h56, h57, x58, f59, h60, h61, h62, -⟩ := hq44
            have := zt_59
            show ZW _ _ _ _ _ _ _ (84, [some (.ref 386), some (.int v49_1), some (.int v49_2)], [], M42)
            refine w_en dX9_ends_84 rfl ?_
            exact ⟨_, rfl, hJ45, ⟨x46, f47, (by omega), x49, f50, (by omega), (by omega), x53, f54, (by omega), (by omega), (by omega), x58, f59, (by omega), (by omega), trivial⟩⟩
          · skip
            refine w_cne_f dX9_isSign_13 (t := 20) rfl (by have := zt_59; omega) ?_
            refine w_ic dX9_isSign_16 zi_1 ?_
            refine w_gt dX9_isSign_17 (t := 21) rfl ?_
            refine w_en dX9_isSign_21 rfl ?_
            show ZW _ _ _ _ _ _ _ (55, [some (.ref 386), some (.int v49_1), some (.int v49_2)], [.int 1], M)
            refine w_ieq_f dX9_ends_55 (t := 78) rfl (by have := zt_1; omega) ?_
            refine w_lo dX9_ends_58 rfl rfl rfl rfl ?_
            refine w_bi dX9_ends_59 (c := 90) (by decide) ?_
            rcases Int.decEq v49_1.toInt (90 : Int) with h63 | h63
            · skip
              refine w_cne_t dX9_ends_61 (t := 78) rfl (by have := zt_90; omega) ?_
              refine w_lo dX9_ends_78 rfl rfl rfl rfl ?_
              refine w_bi dX9_ends_79 (c := 59) (by decide) ?_
              refine w_iv dX9_ends_81 rfl rfl (As := [.int 59]) rfl rfl hJ.1.1 zs_386 (Nat.le_of_ble_eq_true rfl) ?_
              refine ZV.imp (k_2340 59 (by have := zt_59; omega) (by have := zt_59; omega) z_49 hfz_49 (by have := zt_59; omega) (by have := zt_59; omega) g_49 hfg_49 (by have := zt_59; omega) (by have := zt_59; omega) e_49 hfe_49 (by have := zt_59; omega) (by have := zt_59; omega) k_49 hfk_49 (by have := zt_59; omega) (by have := zt_59; omega) hN hJ.1) ?_
              rintro _ ⟨M64, rfl, hJ65, hq66⟩
              have hJ67 := zJ_trans hJ hJ65 (zSub_cons (fun _ _ h h' hk => zIR_e (by omega) (by omega) hk) (zSub_cons (fun _ _ h h' hk => zIR_s (zIR_e (by omega) (by omega) hk)) (zSub_cons (fun _ _ h h' hk => zIR_s (zIR_s (zIR_e (by omega) (by omega) hk))) (zSub_cons (fun _ _ h h' hk => zIR_s (zIR_s (zIR_s (zIR_e (by omega) (by omega) hk)))) (zSub_cons (fun _ _ h h' hk => zIR_s (zIR_s (zIR_s (zIR_s (zIR_e (by omega) (by omega) hk))))) (zSub_cons (fun _ _ h h' hk => zIR_s (zIR_s (zIR_s (zIR_s (zIR_s (zIR_e (by omega) (by omega) hk)))))) (zSub_cons (fun _ _ h h' hk => zIR_s (zIR_s (zIR_s (zIR_s (zIR_s (zIR_s (zIR_e (by omega) (by omega) hk))))))) zSub_nil)))))))
              obtain ⟨x68, f69, h70, x71, f72, h73, h74, x75, f76, h77, h78, h79, x80, f81, h82, h83, h84, -⟩ := hq66
              have := zt_59
              show ZW _ _ _ _ _ _ _ (84, [some (.ref 386), some (.int v49_1), some (.int v49_2)], [], M64)
              refine w_en dX9_ends_84 rfl ?_
              exact ⟨_, rfl, hJ67, ⟨x68, f69, (by omega), x71, f72, (by omega), (by omega), x75, f76, (by omega), (by omega), (by omega), x80, f81, (by omega), (by omega), trivial⟩⟩
            · skip
              refine w_cne_f dX9_ends_61 (t := 78) rfl (by have := zt_90; omega) ?_
              refine w_lo dX9_ends_64 rfl rfl rfl rfl ?_
              refine w_lo dX9_ends_65 rfl rfl rfl rfl ?_
              refine w_gf dX9_ends_66 rfl hJ.1.1 zs_386 hfz_49 ?_
              rcases zcut v49_2.toInt z_49.toInt with h85 | h85
              · skip
                refine w_cge_f dX9_ends_69 (t := 78) rfl (by omega) ?_
                refine w_lo dX9_ends_72 rfl rfl rfl rfl ?_
                refine w_ic dX9_ends_73 zi_5 ?_
                refine w_lo dX9_ends_74 rfl rfl rfl rfl ?_
                refine w_iv dX9_ends_75 rfl rfl (As := [.int 5, .int v49_2]) rfl rfl hJ.1.1 zs_386 (Nat.le_of_ble_eq_true rfl) ?_
                refine ZV.of (ini := false) rfl (Nat.le_of_ble_eq_true rfl) (by decide +kernel) ?_
                show ZW _ _ _ _ _ _ _ (0, [some (.ref 386), some (.int 5), some (.int v49_2)], [], M)
                refine w_lo dX9_blame_0 rfl rfl rfl rfl ?_
                refine w_gf dX9_blame_1 rfl hJ.1.1 zs_386 hfk_49 ?_
                rcases zcut (0 : Int) k_49.toInt with h86 | h86
                · skip
                  refine w_ile_f dX9_blame_4 (t := 8) rfl (by omega) ?_
                  refine w_en dX9_blame_7 rfl ?_
                  show ZW _ _ _ _ _ _ _ (78, [some (.ref 386), some (.int v49_1), some (.int v49_2)], [], M)
                  refine w_lo dX9_ends_78 rfl rfl rfl rfl ?_
                  refine w_bi dX9_ends_79 (c := 59) (by decide) ?_
                  refine w_iv dX9_ends_81 rfl rfl (As := [.int 59]) rfl rfl hJ.1.1 zs_386 (Nat.le_of_ble_eq_true rfl) ?_
                  refine ZV.imp (k_2340 59 (by have := zt_59; omega) (by have := zt_59; omega) z_49 hfz_49 (by have := zt_59; omega) (by have := zt_59; omega) g_49 hfg_49 (by have := zt_59; omega) (by have := zt_59; omega) e_49 hfe_49 (by have := zt_59; omega) (by have := zt_59; omega) k_49 hfk_49 (by have := zt_59; omega) (by have := zt_59; omega) hN hJ.1) ?_
                  rintro _ ⟨M87, rfl, hJ88, hq89⟩
                  have hJ90 := zJ_trans hJ hJ88 (zSub_cons (fun _ _ h h' hk => zIR_e (by omega) (by omega) hk) (zSub_cons (fun _ _ h h' hk => zIR_s (zIR_e (by omega) (by omega) hk)) (zSub_cons (fun _ _ h h' hk => zIR_s (zIR_s (zIR_e (by omega) (by omega) hk))) (zSub_cons (fun _ _ h h' hk => zIR_s (zIR_s (zIR_s (zIR_e (by omega) (by omega) hk)))) (zSub_cons (fun _ _ h h' hk => zIR_s (zIR_s (zIR_s (zIR_s (zIR_e (by omega) (by omega) hk))))) (zSub_cons (fun _ _ h h' hk => zIR_s (zIR_s (zIR_s (zIR_s (zIR_s (zIR_e (by omega) (by omega) hk)))))) (zSub_cons (fun _ _ h h' hk => zIR_s (zIR_s (zIR_s (zIR_s (zIR_s (zIR_s (zIR_e (by omega) (by omega) hk))))))) zSub_nil)))))))
                  obtain ⟨x91, f92, h93, x94, f95, h96, h97, x98, f99, h100, h101, h102, x103, f104, h105, h106, h107, -⟩ := hq89
                  have := zt_59
                  show ZW _ _ _ _ _ _ _ (84, [some (.ref 386), some (.int v49_1), some (.int v49_2)], [], M87)
                  refine w_en dX9_ends_84 rfl ?_
                  exact ⟨_, rfl, hJ90, ⟨x91, f92, (by omega), x94, f95, (by omega), (by omega), x98, f99, (by omega), (by omega), (by omega), x103, f104, (by omega), (by omega), trivial⟩⟩
                · skip
                  refine w_ile_t dX9_blame_4 (t := 8) rfl (by omega) ?_
                  refine w_lo dX9_blame_8 rfl rfl rfl rfl ?_
                  refine w_lo dX9_blame_9 rfl rfl rfl rfl ?_
                  refine w_pfi dX9_blame_10 rfl hJ zs_386 (Nat.le_of_ble_eq_true rfl) zo_386_8 (by have := zt_5; omega) (by have := zt_5; omega) (zIR_s (zIR_s (zIR_s (zIR_s (zIR_s (zIR_k (by omega) (by omega))))))) rfl rfl rfl ?_
                  intro M108 hJ109 f110 hn111
                  refine w_lo dX9_blame_13 rfl rfl rfl rfl ?_
                  refine w_lo dX9_blame_14 rfl rfl rfl rfl ?_
                  refine w_pfi dX9_blame_15 rfl hJ109 zs_386 (Nat.le_of_ble_eq_true rfl) zo_386_9 (by omega) (by omega) (zIR_s (zIR_s (zIR_s (zIR_s (zIR_s (zIR_s (zIR_k (by omega) (by omega)))))))) rfl rfl rfl ?_
                  intro M112 hJ113 f114 hn115
                  refine w_en dX9_blame_18 rfl ?_
                  show ZW _ _ _ _ _ _ _ (78, [some (.ref 386), some (.int v49_1), some (.int v49_2)], [], M112)
                  refine w_lo dX9_ends_78 rfl rfl rfl rfl ?_
                  refine w_bi dX9_ends_79 (c := 59) (by decide) ?_
                  have f118 := (hn115 (386) 2 (Or.inr (by decide))).trans ((hn111 (386) 2 (Or.inr (by decide))).trans (hfz_49))
                  have f119 := (hn115 (386) 3 (Or.inr (by decide))).trans ((hn111 (386) 3 (Or.inr (by decide))).trans (hfg_49))
                  have f120 := (hn115 (386) 5 (Or.inr (by decide))).trans ((hn111 (386) 5 (Or.inr (by decide))).trans (hfe_49))
                  have f121 := (hn115 (386) 8 (Or.inr (by decide))).trans (f110)
                  refine w_iv dX9_ends_81 rfl rfl (As := [.int 59]) rfl rfl hJ113.1.1 zs_386 (Nat.le_of_ble_eq_true rfl) ?_
                  refine ZV.imp (k_2340 59 (by have := zt_59; omega) (by have := zt_59; omega) z_49 f118 (by have := zt_59; have := zt_5; omega) (by have := zt_59; have := zt_5; omega) g_49 f119 (by have := zt_59; have := zt_5; omega) (by have := zt_59; have := zt_5; omega) e_49 f120 (by have := zt_59; have := zt_5; omega) (by have := zt_59; have := zt_5; omega) 5 f121 (by have := zt_59; have := zt_5; omega) (by have := zt_59; have := zt_5; omega) hN hJ113.1) ?_
                  rintro _ ⟨M116, rfl, hJ117, hq122⟩
                  have hJ123 := zJ_trans hJ113 hJ117 (zSub_cons (fun _ _ h h' hk => zIR_e (by omega) (by omega) hk) (zSub_cons (fun _ _ h h' hk => zIR_s (zIR_e (by omega) (by omega) hk)) (zSub_cons (fun _ _ h h' hk => zIR_s (zIR_s (zIR_e (by omega) (by omega) hk))) (zSub_cons (fun _ _ h h' hk => zIR_s (zIR_s (zIR_s (zIR_e (by omega) (by omega) hk)))) (zSub_cons (fun _ _ h h' hk => zIR_s (zIR_s (zIR_s (zIR_s (zIR_e (by omega) (by omega) hk))))) (zSub_cons (fun _ _ h h' hk => zIR_s (zIR_s (zIR_s (zIR_s (zIR_s (zIR_e (by omega) (by omega) hk)))))) (zSub_cons (fun _ _ h h' hk => zIR_s (zIR_s (zIR_s (zIR_s (zIR_s (zIR_s (zIR_e (by omega) (by omega) hk))))))) zSub_nil)))))))
                  obtain ⟨x124, f125, h126, x127, f128, h129, h130, x131, f132, h133, h134, h135, x136, f137, h138, h139, h140, -⟩ := hq122
                  have := zt_59; have := zt_5
                  show ZW _ _ _ _ _ _ _ (84, [some (.ref 386), some (.int v49_1), some (.int v49_2)], [], M116)
                  refine w_en dX9_ends_84 rfl ?_
                  exact ⟨_, rfl, hJ123, ⟨x124, f125, (by omega), x127, f128, (by omega), (by omega), x131, f132, (by omega), (by omega), (by omega), x136, f137, (by omega), (by omega), trivial⟩⟩
              · skip
                refine w_cge_t dX9_ends_69 (t := 78) rfl (by omega) ?_
                refine w_lo dX9_ends_78 rfl rfl rfl rfl ?_
                refine w_bi dX9_ends_79 (c := 59) (by decide) ?_
                refine w_iv dX9_ends_81 rfl rfl (As := [.int 59]) rfl rfl hJ.1.1 zs_386 (Nat.le_of_ble_eq_true rfl) ?_
                refine ZV.imp (k_2340 59 (by have := zt_59; omega) (by have := zt_59; omega) z_49 hfz_49 (by have := zt_59; omega) (by have := zt_59; omega) g_49 hfg_49 (by have := zt_59; omega) (by have := zt_59; omega) e_49 hfe_49 (by have := zt_59; omega) (by have := zt_59; omega) k_49 hfk_49 (by have := zt_59; omega) (by have := zt_59; omega) hN hJ.1) ?_
                rintro _ ⟨M141, rfl, hJ142, hq143⟩
                have hJ144 := zJ_trans hJ hJ142 (zSub_cons (fun _ _ h h' hk => zIR_e (by omega) (by omega) hk) (zSub_cons (fun _ _ h h' hk => zIR_s (zIR_e (by omega) (by omega) hk)) (zSub_cons (fun _ _ h h' hk => zIR_s (zIR_s (zIR_e (by omega) (by omega) hk))) (zSub_cons (fun _ _ h h' hk => zIR_s (zIR_s (zIR_s (zIR_e (by omega) (by omega) hk)))) (zSub_cons (fun _ _ h h' hk => zIR_s (zIR_s (zIR_s (zIR_s (zIR_e (by omega) (by omega) hk))))) (zSub_cons (fun _ _ h h' hk => zIR_s (zIR_s (zIR_s (zIR_s (zIR_s (zIR_e (by omega) (by omega) hk)))))) (zSub_cons (fun _ _ h h' hk => zIR_s (zIR_s (zIR_s (zIR_s (zIR_s (zIR_s (zIR_e (by omega) (by omega) hk))))))) zSub_nil)))))))
                obtain ⟨x145, f146, h147, x148, f149, h150, h151, x152, f153, h154, h155, h156, x157, f158, h159, h160, h161, -⟩ := hq143
                have := zt_59
                show ZW _ _ _ _ _ _ _ (84, [some (.ref 386), some (.int v49_1), some (.int v49_2)], [], M141)
                refine w_en dX9_ends_84 rfl ?_
                exact ⟨_, rfl, hJ144, ⟨x145, f146, (by omega), x148, f149, (by omega), (by omega), x152, f153, (by omega), (by omega), (by omega), x157, f158, (by omega), (by omega), trivial⟩⟩
  obtain ⟨ih13, ih49⟩ := main 6415
  show ZW _ _ _ _ _ _ _ (0, [some (.ref 386), some (.int a0), none], [], M0)
  refine w_lo dX9_ends_0 rfl rfl rfl rfl ?_
  refine w_gf dX9_ends_1 rfl hJ0.1.1 zs_386 hffk ?_
  rcases zcut (0 : Int) fk.toInt with h162 | h162
  · skip
    refine w_ile_f dX9_ends_4 (t := 8) rfl (by omega) ?_
    refine w_en dX9_ends_7 rfl ?_
    exact ⟨_, rfl, hJ0, ⟨sz, hfsz, (by omega), sg, hfsg, (by omega), (by omega), se, hfse, (by omega), (by omega), (by omega), fk, hffk, (by omega), (by omega), trivial⟩⟩
  · skip
    refine w_ile_t dX9_ends_4 (t := 8) rfl (by omega) ?_
    refine w_lo dX9_ends_8 rfl rfl rfl rfl ?_
    refine w_gf dX9_ends_9 rfl hJ0.1.1 zs_386 hfse ?_
    refine w_lo (ml' := [some (.ref 386), some (.int a0), some (.int se)]) dX9_ends_12 rfl rfl rfl rfl ?_
    exact ih13 M0 a0 se sz sg se fk hJ0 (zbot _) (ztop _) (by omega) (by omega) hfsz (by omega) hfsg (by omega) (by omega) hfse (by omega) (by omega) (by omega) hffk (by omega) (by omega) (by omega)
set_option maxRecDepth 100000 in
theorem k_2342 {X : List Int32} {d N : Nat} {M0 : zM} (a0 : Int32) (ha00 : (0 : Int) ≤ a0.toInt) (ha01 : a0.toInt ≤ 255) (hN : N ≤ 600) (hB0 : zB N M0) : ZV X (d + 1) 2342 [.ref 386, .int a0] M0 (zRV N [(421, 426, 1000), (427, 429, 1000)] M0 (fun _ => True)) := by
  have hJ0 : zJ N [(421, 426, 1000), (427, 429, 1000)] M0 M0 := zJ_refl hB0
  refine ZV.of (ini := false) rfl (Nat.le_of_ble_eq_true rfl) (by decide +kernel) ?_
  show ZW _ _ _ _ _ _ _ (0, [some (.ref 386), some (.int a0)], [], M0)
  refine w_lo dX9_clears_0 rfl rfl rfl rfl ?_
  refine w_gf dX9_clears_1 rfl hJ0.1.1 zs_386 (zr_386_52 hJ0.1) ?_
  refine w_lo dX9_clears_4 rfl rfl rfl rfl ?_
  refine w_ic dX9_clears_5 zi_m1 ?_
  refine w_isi dX9_clears_6 hJ0 zs_421 (by omega) (by omega) zu_421 (by have := zt_m1; omega) (by have := zt_m1; omega) (zIR_a (by omega) (by omega)) ?_
  intro M1 hJ2 f3 hn4
  refine w_lo dX9_clears_7 rfl rfl rfl rfl ?_
  refine w_gf dX9_clears_8 rfl hJ2.1.1 zs_386 (zr_386_53 hJ2.1) ?_
  refine w_lo dX9_clears_11 rfl rfl rfl rfl ?_
  refine w_ic dX9_clears_12 zi_0 ?_
  refine w_isi dX9_clears_13 hJ2 zs_422 (by omega) (by omega) zu_422 (zbot _) (ztop _) (zIR_a (by omega) (by omega)) ?_
  intro M5 hJ6 f7 hn8
  refine w_lo dX9_clears_14 rfl rfl rfl rfl ?_
  refine w_gf dX9_clears_15 rfl hJ6.1.1 zs_386 (zr_386_54 hJ6.1) ?_
  refine w_lo dX9_clears_18 rfl rfl rfl rfl ?_
  refine w_ic dX9_clears_19 zi_m1 ?_
  refine w_isi dX9_clears_20 hJ6 zs_423 (by omega) (by omega) zu_423 (by have := zt_m1; omega) (by have := zt_m1; omega) (zIR_a (by omega) (by omega)) ?_
  intro M9 hJ10 f11 hn12
  refine w_lo dX9_clears_21 rfl rfl rfl rfl ?_
  refine w_gf dX9_clears_22 rfl hJ10.1.1 zs_386 (zr_386_55 hJ10.1) ?_
  refine w_lo dX9_clears_25 rfl rfl rfl rfl ?_
  refine w_ic dX9_clears_26 zi_0 ?_
  refine w_isi dX9_clears_27 hJ10 zs_424 (by omega) (by omega) zu_424 (zbot _) (ztop _) (zIR_a (by omega) (by omega)) ?_
  intro M13 hJ14 f15 hn16
  refine w_lo dX9_clears_28 rfl rfl rfl rfl ?_
  refine w_gf dX9_clears_29 rfl hJ14.1.1 zs_386 (zr_386_56 hJ14.1) ?_
  refine w_lo dX9_clears_32 rfl rfl rfl rfl ?_
  refine w_ic dX9_clears_33 zi_0 ?_
  refine w_isi dX9_clears_34 hJ14 zs_425 (by omega) (by omega) zu_425 (by have := zt_0; omega) (by have := zt_0; omega) (zIR_a (by omega) (by omega)) ?_
  intro M17 hJ18 f19 hn20
  refine w_lo dX9_clears_35 rfl rfl rfl rfl ?_
  refine w_gf dX9_clears_36 rfl hJ18.1.1 zs_386 (zr_386_58 hJ18.1) ?_
  refine w_lo dX9_clears_39 rfl rfl rfl rfl ?_
  refine w_ic dX9_clears_40 zi_0 ?_
  refine w_isi dX9_clears_41 hJ18 zs_427 (by omega) (by omega) zu_427 (by have := zt_0; omega) (ztop _) (zIR_s (zIR_a (by omega) (by omega))) ?_
  intro M21 hJ22 f23 hn24
  refine w_lo dX9_clears_42 rfl rfl rfl rfl ?_
  refine w_gf dX9_clears_43 rfl hJ22.1.1 zs_386 (zr_386_59 hJ22.1) ?_
  refine w_lo dX9_clears_46 rfl rfl rfl rfl ?_
  refine w_ic dX9_clears_47 zi_0 ?_
  refine w_isi dX9_clears_48 hJ22 zs_428 (by omega) (by omega) zu_428 (zbot _) (ztop _) (zIR_s (zIR_a (by omega) (by omega))) ?_
  intro M25 hJ26 f27 hn28
  refine w_en dX9_clears_49 rfl ?_
  exact ⟨_, rfl, hJ26, trivial⟩
set_option maxRecDepth 100000 in
theorem k_2341 {X : List Int32} {d N : Nat} {M0 : zM}  (hN : N ≤ 600) (hB0 : zB N M0) : ZV X (d + 2) 2341 [.ref 386] M0 (zRV N [(418, 432, 1000), (386, 387, 65), (386, 387, 68)] M0 (fun _ => True)) := by
  have hJ0 : zJ N [(418, 432, 1000), (386, 387, 65), (386, 387, 68)] M0 M0 := zJ_refl hB0
  refine ZV.of (ini := false) rfl (Nat.le_of_ble_eq_true rfl) (by decide +kernel) ?_
  have main : ∀ n : Nat,
      (∀ (M : zM) (v26_1 : Int32), zJ N [(418, 432, 1000), (386, 387, 65), (386, 387, 68)] M0 M → ((0 : Int) ≤ v26_1.toInt) → (v26_1.toInt ≤ 12) → 4 * (12 - v26_1.toInt) + 54 < (n : Int) → ZW X (d + 1) 9 false none cX9_begins (zRV N [(418, 432, 1000), (386, 387, 65), (386, 387, 68)] M0 (fun _ => True)) (26, [some (.ref 386), some (.int v26_1)], [], M)) ∧
      (∀ (M : zM) (v66_1 : Int32), zJ N [(418, 432, 1000), (386, 387, 65), (386, 387, 68)] M0 M → ((0 : Int) ≤ v66_1.toInt) → (v66_1.toInt ≤ 11) → 4 * (11 - v66_1.toInt) + 1 < (n : Int) → ZW X (d + 1) 9 false none cX9_begins (zRV N [(418, 432, 1000), (386, 387, 65), (386, 387, 68)] M0 (fun _ => True)) (66, [some (.ref 386), some (.int v66_1)], [], M)) := by
    intro n
    induction n with
    | zero =>
      exact ⟨(fun M v26_1 hJ v26_10 v26_11 hn => absurd hn (by omega)), (fun M v66_1 hJ v66_10 v66_11 hn => absurd hn (by omega))⟩
    | succ n ih =>
      obtain ⟨ih26, ih66⟩ := ih
      refine ⟨?_, ?_⟩
      · intro M v26_1 hJ v26_10 v26_11 hn
        refine w_lo dX9_begins_26 rfl rfl rfl rfl ?_
        refine w_bi dX9_begins_27 (c := 12) (by decide) ?_
        rcases zcut v26_1.toInt (12 : Int) with h1 | h1
        · skip
          refine w_cge_f dX9_begins_29 (t := 64) rfl (by have := zt_12; omega) ?_
          refine w_lo dX9_begins_32 rfl rfl rfl rfl ?_
          refine w_gf dX9_begins_33 rfl hJ.1.1 zs_386 (zr_386_50 hJ.1) ?_
          refine w_lo dX9_begins_36 rfl rfl rfl rfl ?_
          refine w_lo dX9_begins_37 rfl rfl rfl rfl ?_
          refine w_isi dX9_begins_38 hJ zs_419 (by omega) (by omega) zu_419 (by omega) (by omega) (zIR_a (by omega) (by omega)) ?_
          intro M2 hJ3 f4 hn5
          refine w_lo dX9_begins_39 rfl rfl rfl rfl ?_
          refine w_gf dX9_begins_40 rfl hJ3.1.1 zs_386 (zr_386_51 hJ3.1) ?_
          refine w_lo dX9_begins_43 rfl rfl rfl rfl ?_
          refine w_ic dX9_begins_44 zi_1 ?_
          refine w_isi dX9_begins_45 hJ3 zs_420 (by omega) (by omega) zu_420 (by have := zt_1; omega) (by have := zt_1; omega) (zIR_a (by omega) (by omega)) ?_
          intro M6 hJ7 f8 hn9
          refine w_lo dX9_begins_46 rfl rfl rfl rfl ?_
          refine w_gf dX9_begins_47 rfl hJ7.1.1 zs_386 (zr_386_57 hJ7.1) ?_
          refine w_lo dX9_begins_50 rfl rfl rfl rfl ?_
          refine w_ic dX9_begins_51 zi_0 ?_
          refine w_isi dX9_begins_52 hJ7 zs_426 (by omega) (by omega) zu_426 (zbot _) (ztop _) (zIR_a (by omega) (by omega)) ?_
          intro M10 hJ11 f12 hn13
          refine w_lo dX9_begins_53 rfl rfl rfl rfl ?_
          refine w_lo dX9_begins_54 rfl rfl rfl rfl ?_
          refine w_iv dX9_begins_55 rfl rfl (As := [.int v26_1]) rfl rfl hJ11.1.1 zs_386 (Nat.le_of_ble_eq_true rfl) ?_
          refine ZV.imp (k_2342 v26_1 (by omega) (by omega) hN hJ11.1) ?_
          rintro _ ⟨M14, rfl, hJ15, hq16⟩
          have hJ17 := zJ_trans hJ11 hJ15 (zSub_cons (fun _ _ h h' hk => zIR_a (by omega) (by omega)) (zSub_cons (fun _ _ h h' hk => zIR_a (by omega) (by omega)) zSub_nil))
          show ZW _ _ _ _ _ _ _ (58, [some (.ref 386), some (.int v26_1)], [], M14)
          refine w_inc (kk := 1) dX9_begins_58 rfl (m := 1) (by decide) (by omega) ?_
          intro x18 h19
          refine ⟨_, rfl, ?_⟩
          show ZW _ _ _ _ _ _ _ (61, [some (.ref 386), some (.int x18)], [], M14)
          refine w_gt dX9_begins_61 (t := 26) rfl ?_
          exact ih26 M14 x18 hJ17 (by omega) (by omega) (by omega)
        · skip
          refine w_cge_t dX9_begins_29 (t := 64) rfl (by have := zt_12; omega) ?_
          refine w_ic dX9_begins_64 zi_0 ?_
          refine w_lo (ml' := [some (.ref 386), some (.int 0)]) dX9_begins_65 rfl rfl rfl rfl ?_
          exact ih66 M 0 hJ (by have := zt_0; omega) (by have := zt_0; omega) (by have := zt_0; omega)
      · intro M v66_1 hJ v66_10 v66_11 hn
        refine w_lo dX9_begins_66 rfl rfl rfl rfl ?_
        refine w_bi dX9_begins_67 (c := 11) (by decide) ?_
        rcases zcut v66_1.toInt (11 : Int) with h20 | h20
        · skip
          refine w_cge_f dX9_begins_69 (t := 105) rfl (by have := zt_11; omega) ?_
          refine w_lo dX9_begins_72 rfl rfl rfl rfl ?_
          refine w_gf dX9_begins_73 rfl hJ.1.1 zs_386 (zr_386_60 hJ.1) ?_
          refine w_lo dX9_begins_76 rfl rfl rfl rfl ?_
          refine w_ic dX9_begins_77 zi_1 ?_
          refine w_isi dX9_begins_78 hJ zs_429 (by omega) (by omega) zu_429 (by have := zt_1; omega) (by have := zt_1; omega) (zIR_a (by omega) (by omega)) ?_
          intro M21 hJ22 f23 hn24
          refine w_lo dX9_begins_79 rfl rfl rfl rfl ?_
          refine w_gf dX9_begins_80 rfl hJ22.1.1 zs_386 (zr_386_61 hJ22.1) ?_
          refine w_lo dX9_begins_83 rfl rfl rfl rfl ?_
          refine w_lo dX9_begins_84 rfl rfl rfl rfl ?_
          refine w_gf dX9_begins_85 rfl hJ22.1.1 zs_386 (zr_386_20 hJ22.1) ?_
          refine w_bi dX9_begins_88 (c := 11) (by decide) ?_
          refine w_lo dX9_begins_90 rfl rfl rfl rfl ?_
          refine w_gfi dX9_begins_91 rfl hJ22.1 zs_386 (Nat.le_of_ble_eq_true rfl) zo_386_12 ?_
          intro x25 f26 h27 h28
          refine w_mulc dX9_begins_94 zt_11 (by have := zt_11; omega) ?_
          intro x29 h30
          have := zt_11
          refine w_lo dX9_begins_95 rfl rfl rfl rfl ?_
          refine w_add dX9_begins_96 (by omega) ?_
          intro x31 h32
          refine w_iai dX9_begins_97 hJ22.1 zs_395 (by omega) (by omega) zu_395 ?_
          intro x36 f33 h34 h35
          refine w_isi dX9_begins_98 hJ22 zs_430 (by omega) (by omega) zu_430 (zbot _) (ztop _) (zIR_a (by omega) (by omega)) ?_
          intro M37 hJ38 f39 hn40
          refine w_inc (kk := 1) dX9_begins_99 rfl (m := 1) (by decide) (by omega) ?_
          intro x41 h42
          refine ⟨_, rfl, ?_⟩
          show ZW _ _ _ _ _ _ _ (102, [some (.ref 386), some (.int x41)], [], M37)
          refine w_gt dX9_begins_102 (t := 66) rfl ?_
          exact ih66 M37 x41 hJ38 (by omega) (by omega) (by omega)
        · skip
          refine w_cge_t dX9_begins_69 (t := 105) rfl (by have := zt_11; omega) ?_
          refine w_en dX9_begins_105 rfl ?_
          exact ⟨_, rfl, hJ, trivial⟩
  obtain ⟨ih26, ih66⟩ := main 115
  show ZW _ _ _ _ _ _ _ (0, [some (.ref 386), none], [], M0)
  refine w_lo dX9_begins_0 rfl rfl rfl rfl ?_
  refine w_gf dX9_begins_1 rfl hJ0.1.1 zs_386 (zr_386_49 hJ0.1) ?_
  refine w_ic dX9_begins_4 zi_0 ?_
  refine w_ic dX9_begins_5 zi_0 ?_
  refine w_isi dX9_begins_6 hJ0 zs_418 (by have := zt_0; omega) (by have := zt_0; omega) zu_418 (zbot _) (ztop _) (zIR_a (by omega) (by omega)) ?_
  intro M43 hJ44 f45 hn46
  refine w_lo dX9_begins_7 rfl rfl rfl rfl ?_
  refine w_gf dX9_begins_8 rfl hJ44.1.1 zs_386 (zr_386_62 hJ44.1) ?_
  refine w_ic dX9_begins_11 zi_0 ?_
  refine w_ic dX9_begins_12 zi_0 ?_
  refine w_isi dX9_begins_13 hJ44 zs_431 (by have := zt_0; omega) (by have := zt_0; omega) zu_431 (by have := zt_0; omega) (by have := zt_0; omega) (zIR_a (by omega) (by omega)) ?_
  intro M47 hJ48 f49 hn50
  refine w_lo dX9_begins_14 rfl rfl rfl rfl ?_
  refine w_ic dX9_begins_15 zi_0 ?_
  refine w_pfi dX9_begins_16 rfl hJ48 zs_386 (Nat.le_of_ble_eq_true rfl) zo_386_65 (by have := zt_0; omega) (by have := zt_0; omega) (zIR_s (zIR_k (by omega) (by omega))) rfl rfl rfl ?_
  intro M51 hJ52 f53 hn54
  refine w_lo dX9_begins_19 rfl rfl rfl rfl ?_
  refine w_ic dX9_begins_20 zi_0 ?_
  refine w_pfi dX9_begins_21 rfl hJ52 zs_386 (Nat.le_of_ble_eq_true rfl) zo_386_68 (by have := zt_0; omega) (by have := zt_0; omega) (zIR_s (zIR_s (zIR_k (by omega) (by omega)))) rfl rfl rfl ?_
  intro M55 hJ56 f57 hn58
  refine w_ic dX9_begins_24 zi_0 ?_
  refine w_lo (ml' := [some (.ref 386), some (.int 0)]) dX9_begins_25 rfl rfl rfl rfl ?_
  exact ih26 M55 0 hJ56 (by have := zt_0; omega) (by have := zt_0; omega) (by have := zt_0; omega)
set_option maxRecDepth 100000 in
theorem k_2343 {X : List Int32} {d N : Nat} {M0 : zM} (a0 : Int32) (hN : N ≤ 600) (hB0 : zB N M0) : ZV X (d + 1) 2343 [.ref 386, .int a0] M0 (zRI N [] M0 (-1) (1600) (fun _ _ => True)) := by
  have hJ0 : zJ N [] M0 M0 := zJ_refl hB0
  refine ZV.of (ini := false) rfl (Nat.le_of_ble_eq_true rfl) (by decide +kernel) ?_
  show ZW _ _ _ _ _ _ _ (0, [some (.ref 386), some (.int a0)], [], M0)
  refine w_lo dX9_fault_0 rfl rfl rfl rfl ?_
  rcases Int.decEq a0.toInt (0 : Int) with h1 | h1
  · skip
    refine w_ine_t dX9_fault_1 (t := 11) rfl (by omega) ?_
    refine w_lo dX9_fault_11 rfl rfl rfl rfl ?_
    refine w_ic dX9_fault_12 zi_1 ?_
    rcases Int.decEq a0.toInt (1 : Int) with h2 | h2
    · skip
      refine w_cne_t dX9_fault_13 (t := 23) rfl (by have := zt_1; omega) ?_
      refine w_ic dX9_fault_23 zi_m1 ?_
      refine w_en dX9_fault_24 rfl ?_
      exact ⟨_, _, rfl, (by have := zt_m1; omega), (by have := zt_m1; omega), hJ0, trivial⟩
    · skip
      refine w_cne_f dX9_fault_13 (t := 23) rfl (by have := zt_1; omega) ?_
      refine w_lo dX9_fault_16 rfl rfl rfl rfl ?_
      refine w_gfi dX9_fault_17 rfl hJ0.1 zs_386 (Nat.le_of_ble_eq_true rfl) zo_386_11 ?_
      intro x3 f4 h5 h6
      refine w_gt dX9_fault_20 (t := 24) rfl ?_
      refine w_eni dX9_fault_24 rfl rfl ?_
      exact ⟨_, _, rfl, (by omega), (by omega), hJ0, trivial⟩
  · skip
    refine w_ine_f dX9_fault_1 (t := 11) rfl (by omega) ?_
    refine w_lo dX9_fault_4 rfl rfl rfl rfl ?_
    refine w_gfi dX9_fault_5 rfl hJ0.1 zs_386 (Nat.le_of_ble_eq_true rfl) zo_386_10 ?_
    intro x7 f8 h9 h10
    refine w_gt dX9_fault_8 (t := 24) rfl ?_
    refine w_eni dX9_fault_24 rfl rfl ?_
    exact ⟨_, _, rfl, (by omega), (by omega), hJ0, trivial⟩
set_option maxRecDepth 100000 in
theorem k_2344 {X : List Int32} {d N : Nat} {M0 : zM} (a0 : Int32) (hN : N ≤ 600) (hB0 : zB N M0) : ZV X (d + 2) 2344 [.ref 386, .int a0] M0 (zRI N [] M0 (-2147483648) (2147483647) (fun _ _ => True)) := by
  have hJ0 : zJ N [] M0 M0 := zJ_refl hB0
  refine ZV.of (ini := false) rfl (Nat.le_of_ble_eq_true rfl) (by decide +kernel) ?_
  show ZW _ _ _ _ _ _ _ (0, [some (.ref 386), some (.int a0)], [], M0)
  refine w_lo dX9_status_0 rfl rfl rfl rfl ?_
  refine w_ic dX9_status_1 zi_0 ?_
  refine w_ic dX9_status_2 zi_5 ?_
  refine w_ss dX9_status_3 rfl rfl (As := [.int a0, .int 0, .int 5]) rfl rfl (Nat.le_of_ble_eq_true rfl) ?_
  refine ZV.of (ini := false) rfl (Nat.le_of_ble_eq_true rfl) (by decide +kernel) ?_
  show ZW _ _ _ _ _ _ _ (0, [some (.int a0), some (.int 0), some (.int 5)], [], M0)
  refine w_lo dX9_is_0 rfl rfl rfl rfl ?_
  refine w_lo dX9_is_1 rfl rfl rfl rfl ?_
  rcases zcut a0.toInt (0 : Int) with h1 | h1
  · skip
    refine w_clt_t dX9_is_2 (t := 14) rfl (by have := zt_0; omega) ?_
    refine w_ic dX9_is_14 zi_0 ?_
    refine w_en dX9_is_15 rfl ?_
    show ZW _ _ _ _ _ _ _ (6, [some (.ref 386), some (.int a0)], [.int 0], M0)
    refine w_ieq_t dX9_status_6 (t := 18) rfl (by have := zt_0; omega) ?_
    refine w_ic dX9_status_18 zi_m1 ?_
    refine w_en dX9_status_19 rfl ?_
    exact ⟨_, _, rfl, (zbot _), (ztop _), hJ0, trivial⟩
  · skip
    refine w_clt_f dX9_is_2 (t := 14) rfl (by have := zt_0; omega) ?_
    refine w_lo dX9_is_5 rfl rfl rfl rfl ?_
    refine w_lo dX9_is_6 rfl rfl rfl rfl ?_
    rcases zcut (5 : Int) a0.toInt with h2 | h2
    · skip
      refine w_cgt_t dX9_is_7 (t := 14) rfl (by have := zt_5; omega) ?_
      refine w_ic dX9_is_14 zi_0 ?_
      refine w_en dX9_is_15 rfl ?_
      show ZW _ _ _ _ _ _ _ (6, [some (.ref 386), some (.int a0)], [.int 0], M0)
      refine w_ieq_t dX9_status_6 (t := 18) rfl (by have := zt_0; omega) ?_
      refine w_ic dX9_status_18 zi_m1 ?_
      refine w_en dX9_status_19 rfl ?_
      exact ⟨_, _, rfl, (zbot _), (ztop _), hJ0, trivial⟩
    · skip
      refine w_cgt_f dX9_is_7 (t := 14) rfl (by have := zt_5; omega) ?_
      refine w_ic dX9_is_10 zi_1 ?_
      refine w_gt dX9_is_11 (t := 15) rfl ?_
      refine w_en dX9_is_15 rfl ?_
      show ZW _ _ _ _ _ _ _ (6, [some (.ref 386), some (.int a0)], [.int 1], M0)
      refine w_ieq_f dX9_status_6 (t := 18) rfl (by have := zt_1; omega) ?_
      refine w_lo dX9_status_9 rfl rfl rfl rfl ?_
      refine w_gf dX9_status_10 rfl hJ0.1.1 zs_386 (zr_386_46 hJ0.1) ?_
      refine w_lo dX9_status_13 rfl rfl rfl rfl ?_
      refine w_iai dX9_status_14 hJ0.1 zs_415 (by omega) (by omega) zu_415 ?_
      intro x6 f3 h4 h5
      refine w_gt dX9_status_15 (t := 19) rfl ?_
      refine w_eni dX9_status_19 rfl rfl ?_
      exact ⟨_, _, rfl, (zbot _), (ztop _), hJ0, trivial⟩
set_option maxRecDepth 100000 in
theorem k_2347 {X : List Int32} {d N : Nat} {M0 : zM} (a0 : Int32) (ha00 : (0 : Int) ≤ a0.toInt) (ha01 : a0.toInt ≤ 21) (a1 : Int32) (ha10 : (0 : Int) ≤ a1.toInt) (ha11 : a1.toInt ≤ 21) (hN : N ≤ 600) (hB0 : zB N M0) : ZV X (d + 1) 2347 [.ref 386, .int a0, .int a1] M0 (zRV N [(418, 433, 1000)] M0 (fun _ => True)) := by
  have hJ0 : zJ N [(418, 433, 1000)] M0 M0 := zJ_refl hB0
  refine ZV.of (ini := false) rfl (Nat.le_of_ble_eq_true rfl) (by decide +kernel) ?_
  have main : ∀ n : Nat,
      (∀ (M : zM) (v14_1 : Int32) (v14_2 : Int32) (v14_3 : Int32) (o14_4 : Option Value) (o14_5 : Option Value), zJ N [(418, 433, 1000)] M0 M → ((0 : Int) ≤ v14_1.toInt) → (v14_1.toInt ≤ 21) → ((0 : Int) ≤ v14_2.toInt) → (v14_2.toInt ≤ 21) → ((0 : Int) ≤ v14_3.toInt) → (v14_3.toInt ≤ 12) → 5 * (12 - v14_3.toInt) + 5078 < (n : Int) → ZW X (d + 0) 9 false none cX9_copies (zRV N [(418, 433, 1000)] M0 (fun _ => True)) (14, [some (.ref 386), some (.int v14_1), some (.int v14_2), some (.int v14_3), o14_4, o14_5], [], M)) ∧
      (∀ (M : zM) (v184_1 : Int32) (v184_2 : Int32) (v184_3 : Int32) (o184_4 : Option Value) (o184_5 : Option Value), zJ N [(418, 433, 1000)] M0 M → ((0 : Int) ≤ v184_1.toInt) → (v184_1.toInt ≤ 21) → ((0 : Int) ≤ v184_2.toInt) → (v184_2.toInt ≤ 21) → ((0 : Int) ≤ v184_3.toInt) → (v184_3.toInt ≤ 11) → 5 * (11 - v184_3.toInt) + 5012 < (n : Int) → ZW X (d + 0) 9 false none cX9_copies (zRV N [(418, 433, 1000)] M0 (fun _ => True)) (184, [some (.ref 386), some (.int v184_1), some (.int v184_2), some (.int v184_3), o184_4, o184_5], [], M)) ∧
      (∀ (M : zM) (v254_1 : Int32) (v254_2 : Int32) (v254_3 : Int32) (o254_4 : Option Value) (o254_5 : Option Value), zJ N [(418, 433, 1000)] M0 M → ((0 : Int) ≤ v254_1.toInt) → (v254_1.toInt ≤ 21) → ((0 : Int) ≤ v254_2.toInt) → (v254_2.toInt ≤ 21) → ((0 : Int) ≤ v254_3.toInt) → (v254_3.toInt ≤ 1000) → 5 * (1000 - v254_3.toInt) + 1 < (n : Int) → ZW X (d + 0) 9 false none cX9_copies (zRV N [(418, 433, 1000)] M0 (fun _ => True)) (254, [some (.ref 386), some (.int v254_1), some (.int v254_2), some (.int v254_3), o254_4, o254_5], [], M)) := by
    intro n
    induction n with
    | zero =>
      exact ⟨(fun M v14_1 v14_2 v14_3 o14_4 o14_5 hJ v14_10 v14_11 v14_20 v14_21 v14_30 v14_31 hn => absurd hn (by omega)), (fun M v184_1 v184_2 v184_3 o184_4 o184_5 hJ v184_10 v184_11 v184_20 v184_21 v184_30 v184_31 hn => absurd hn (by omega)), (fun M v254_1 v254_2 v254_3 o254_4 o254_5 hJ v254_10 v254_11 v254_20 v254_21 v254_30 v254_31 hn => absurd hn (by omega))⟩
    | succ n ih =>
      obtain ⟨ih14, ih184, ih254⟩ := ih
      refine ⟨?_, ?_, ?_⟩
      · intro M v14_1 v14_2 v14_3 o14_4 o14_5 hJ v14_10 v14_11 v14_20 v14_21 v14_30 v14_31 hn
        refine w_lo dX9_copies_14 rfl rfl rfl rfl ?_
        refine w_bi dX9_copies_15 (c := 12) (by decide) ?_
        rcases zcut v14_3.toInt (12 : Int) with h1 | h1
        · skip
          refine w_cge_f dX9_copies_17 (t := 182) rfl (by have := zt_12; omega) ?_
          refine w_bi dX9_copies_20 (c := 12) (by decide) ?_
          refine w_lo dX9_copies_22 rfl rfl rfl rfl ?_
          refine w_mulc dX9_copies_23 zt_12 (by have := zt_12; omega) ?_
          intro x2 h3
          have := zt_12
          refine w_lo dX9_copies_24 rfl rfl rfl rfl ?_
          refine w_add dX9_copies_25 (by omega) ?_
          intro x4 h5
          refine w_lo (ml' := [some (.ref 386), some (.int v14_1), some (.int v14_2), some (.int v14_3), some (.int x4), o14_5]) dX9_copies_26 rfl rfl rfl rfl ?_
          refine w_bi dX9_copies_28 (c := 12) (by decide) ?_
          refine w_lo dX9_copies_30 rfl rfl rfl rfl ?_
          refine w_mulc dX9_copies_31 zt_12 (by have := zt_12; omega) ?_
          intro x6 h7
          have := zt_12
          refine w_lo dX9_copies_32 rfl rfl rfl rfl ?_
          refine w_add dX9_copies_33 (by omega) ?_
          intro x8 h9
          refine w_lo (ml' := [some (.ref 386), some (.int v14_1), some (.int v14_2), some (.int v14_3), some (.int x4), some (.int x8)]) dX9_copies_34 rfl rfl rfl rfl ?_
          refine w_lo dX9_copies_36 rfl rfl rfl rfl ?_
          refine w_gf dX9_copies_37 rfl hJ.1.1 zs_386 (zr_386_50 hJ.1) ?_
          refine w_lo dX9_copies_40 rfl rfl rfl rfl ?_
          refine w_lo dX9_copies_42 rfl rfl rfl rfl ?_
          refine w_gf dX9_copies_43 rfl hJ.1.1 zs_386 (zr_386_50 hJ.1) ?_
          refine w_lo dX9_copies_46 rfl rfl rfl rfl ?_
          refine w_iai dX9_copies_48 hJ.1 zs_419 (by omega) (by omega) zu_419 ?_
          intro x13 f10 h11 h12
          refine w_isi dX9_copies_49 hJ zs_419 (by omega) (by omega) zu_419 (by omega) (by omega) (zIR_a (by omega) (by omega)) ?_
          intro M14 hJ15 f16 hn17
          refine w_lo dX9_copies_50 rfl rfl rfl rfl ?_
          refine w_gf dX9_copies_51 rfl hJ15.1.1 zs_386 (zr_386_51 hJ15.1) ?_
          refine w_lo dX9_copies_54 rfl rfl rfl rfl ?_
          refine w_lo dX9_copies_56 rfl rfl rfl rfl ?_
          refine w_gf dX9_copies_57 rfl hJ15.1.1 zs_386 (zr_386_51 hJ15.1) ?_
          refine w_lo dX9_copies_60 rfl rfl rfl rfl ?_
          refine w_iai dX9_copies_62 hJ15.1 zs_420 (by omega) (by omega) zu_420 ?_
          intro x21 f18 h19 h20
          refine w_isi dX9_copies_63 hJ15 zs_420 (by omega) (by omega) zu_420 (by omega) (by omega) (zIR_a (by omega) (by omega)) ?_
          intro M22 hJ23 f24 hn25
          refine w_lo dX9_copies_64 rfl rfl rfl rfl ?_
          refine w_gf dX9_copies_65 rfl hJ23.1.1 zs_386 (zr_386_52 hJ23.1) ?_
          refine w_lo dX9_copies_68 rfl rfl rfl rfl ?_
          refine w_lo dX9_copies_70 rfl rfl rfl rfl ?_
          refine w_gf dX9_copies_71 rfl hJ23.1.1 zs_386 (zr_386_52 hJ23.1) ?_
          refine w_lo dX9_copies_74 rfl rfl rfl rfl ?_
          refine w_iai dX9_copies_76 hJ23.1 zs_421 (by omega) (by omega) zu_421 ?_
          intro x29 f26 h27 h28
          refine w_isi dX9_copies_77 hJ23 zs_421 (by omega) (by omega) zu_421 (by omega) (by omega) (zIR_a (by omega) (by omega)) ?_
          intro M30 hJ31 f32 hn33
          refine w_lo dX9_copies_78 rfl rfl rfl rfl ?_
          refine w_gf dX9_copies_79 rfl hJ31.1.1 zs_386 (zr_386_53 hJ31.1) ?_
          refine w_lo dX9_copies_82 rfl rfl rfl rfl ?_
          refine w_lo dX9_copies_84 rfl rfl rfl rfl ?_
          refine w_gf dX9_copies_85 rfl hJ31.1.1 zs_386 (zr_386_53 hJ31.1) ?_
          refine w_lo dX9_copies_88 rfl rfl rfl rfl ?_
          refine w_iai dX9_copies_90 hJ31.1 zs_422 (by omega) (by omega) zu_422 ?_
          intro x37 f34 h35 h36
          refine w_isi dX9_copies_91 hJ31 zs_422 (by omega) (by omega) zu_422 (zbot _) (ztop _) (zIR_a (by omega) (by omega)) ?_
          intro M38 hJ39 f40 hn41
          refine w_lo dX9_copies_92 rfl rfl rfl rfl ?_
          refine w_gf dX9_copies_93 rfl hJ39.1.1 zs_386 (zr_386_54 hJ39.1) ?_
          refine w_lo dX9_copies_96 rfl rfl rfl rfl ?_
          refine w_lo dX9_copies_98 rfl rfl rfl rfl ?_
          refine w_gf dX9_copies_99 rfl hJ39.1.1 zs_386 (zr_386_54 hJ39.1) ?_
          refine w_lo dX9_copies_102 rfl rfl rfl rfl ?_
          refine w_iai dX9_copies_104 hJ39.1 zs_423 (by omega) (by omega) zu_423 ?_
          intro x45 f42 h43 h44
          refine w_isi dX9_copies_105 hJ39 zs_423 (by omega) (by omega) zu_423 (by omega) (by omega) (zIR_a (by omega) (by omega)) ?_
          intro M46 hJ47 f48 hn49
          refine w_lo dX9_copies_106 rfl rfl rfl rfl ?_
          refine w_gf dX9_copies_107 rfl hJ47.1.1 zs_386 (zr_386_55 hJ47.1) ?_
          refine w_lo dX9_copies_110 rfl rfl rfl rfl ?_
          refine w_lo dX9_copies_112 rfl rfl rfl rfl ?_
          refine w_gf dX9_copies_113 rfl hJ47.1.1 zs_386 (zr_386_55 hJ47.1) ?_
          refine w_lo dX9_copies_116 rfl rfl rfl rfl ?_
          refine w_iai dX9_copies_118 hJ47.1 zs_424 (by omega) (by omega) zu_424 ?_
          intro x53 f50 h51 h52
          refine w_isi dX9_copies_119 hJ47 zs_424 (by omega) (by omega) zu_424 (zbot _) (ztop _) (zIR_a (by omega) (by omega)) ?_
          intro M54 hJ55 f56 hn57
          refine w_lo dX9_copies_120 rfl rfl rfl rfl ?_
          refine w_gf dX9_copies_121 rfl hJ55.1.1 zs_386 (zr_386_56 hJ55.1) ?_
          refine w_lo dX9_copies_124 rfl rfl rfl rfl ?_
          refine w_lo dX9_copies_126 rfl rfl rfl rfl ?_
          refine w_gf dX9_copies_127 rfl hJ55.1.1 zs_386 (zr_386_56 hJ55.1) ?_
          refine w_lo dX9_copies_130 rfl rfl rfl rfl ?_
          refine w_iai dX9_copies_132 hJ55.1 zs_425 (by omega) (by omega) zu_425 ?_
          intro x61 f58 h59 h60
          refine w_isi dX9_copies_133 hJ55 zs_425 (by omega) (by omega) zu_425 (by omega) (by omega) (zIR_a (by omega) (by omega)) ?_
          intro M62 hJ63 f64 hn65
          refine w_lo dX9_copies_134 rfl rfl rfl rfl ?_
          refine w_gf dX9_copies_135 rfl hJ63.1.1 zs_386 (zr_386_57 hJ63.1) ?_
          refine w_lo dX9_copies_138 rfl rfl rfl rfl ?_
          refine w_lo dX9_copies_140 rfl rfl rfl rfl ?_
          refine w_gf dX9_copies_141 rfl hJ63.1.1 zs_386 (zr_386_57 hJ63.1) ?_
          refine w_lo dX9_copies_144 rfl rfl rfl rfl ?_
          refine w_iai dX9_copies_146 hJ63.1 zs_426 (by omega) (by omega) zu_426 ?_
          intro x69 f66 h67 h68
          refine w_isi dX9_copies_147 hJ63 zs_426 (by omega) (by omega) zu_426 (zbot _) (ztop _) (zIR_a (by omega) (by omega)) ?_
          intro M70 hJ71 f72 hn73
          refine w_lo dX9_copies_148 rfl rfl rfl rfl ?_
          refine w_gf dX9_copies_149 rfl hJ71.1.1 zs_386 (zr_386_58 hJ71.1) ?_
          refine w_lo dX9_copies_152 rfl rfl rfl rfl ?_
          refine w_lo dX9_copies_154 rfl rfl rfl rfl ?_
          refine w_gf dX9_copies_155 rfl hJ71.1.1 zs_386 (zr_386_58 hJ71.1) ?_
          refine w_lo dX9_copies_158 rfl rfl rfl rfl ?_
          refine w_iai dX9_copies_160 hJ71.1 zs_427 (by omega) (by omega) zu_427 ?_
          intro x77 f74 h75 h76
          refine w_isi dX9_copies_161 hJ71 zs_427 (by omega) (by omega) zu_427 (by omega) (ztop _) (zIR_a (by omega) (by omega)) ?_
          intro M78 hJ79 f80 hn81
          refine w_lo dX9_copies_162 rfl rfl rfl rfl ?_
          refine w_gf dX9_copies_163 rfl hJ79.1.1 zs_386 (zr_386_59 hJ79.1) ?_
          refine w_lo dX9_copies_166 rfl rfl rfl rfl ?_
          refine w_lo dX9_copies_168 rfl rfl rfl rfl ?_
          refine w_gf dX9_copies_169 rfl hJ79.1.1 zs_386 (zr_386_59 hJ79.1) ?_
          refine w_lo dX9_copies_172 rfl rfl rfl rfl ?_
          refine w_iai dX9_copies_174 hJ79.1 zs_428 (by omega) (by omega) zu_428 ?_
          intro x85 f82 h83 h84
          refine w_isi dX9_copies_175 hJ79 zs_428 (by omega) (by omega) zu_428 (zbot _) (ztop _) (zIR_a (by omega) (by omega)) ?_
          intro M86 hJ87 f88 hn89
          refine w_inc (kk := 3) dX9_copies_176 rfl (m := 1) (by decide) (by omega) ?_
          intro x90 h91
          refine ⟨_, rfl, ?_⟩
          show ZW _ _ _ _ _ _ _ (179, [some (.ref 386), some (.int v14_1), some (.int v14_2), some (.int x90), some (.int x4), some (.int x8)], [], M86)
          refine w_gt dX9_copies_179 (t := 14) rfl ?_
          exact ih14 M86 v14_1 v14_2 x90 (some (.int x4)) (some (.int x8)) hJ87 (by omega) (by omega) (by omega) (by omega) (by omega) (by omega) (by omega)
        · skip
          refine w_cge_t dX9_copies_17 (t := 182) rfl (by have := zt_12; omega) ?_
          refine w_ic dX9_copies_182 zi_0 ?_
          refine w_lo (ml' := [some (.ref 386), some (.int v14_1), some (.int v14_2), some (.int 0), o14_4, o14_5]) dX9_copies_183 rfl rfl rfl rfl ?_
          exact ih184 M v14_1 v14_2 0 o14_4 o14_5 hJ (by omega) (by omega) (by omega) (by omega) (by have := zt_0; omega) (by have := zt_0; omega) (by have := zt_0; omega)
      · intro M v184_1 v184_2 v184_3 o184_4 o184_5 hJ v184_10 v184_11 v184_20 v184_21 v184_30 v184_31 hn
        refine w_lo dX9_copies_184 rfl rfl rfl rfl ?_
        refine w_bi dX9_copies_185 (c := 11) (by decide) ?_
        rcases zcut v184_3.toInt (11 : Int) with h92 | h92
        · skip
          refine w_cge_f dX9_copies_187 (t := 240) rfl (by have := zt_11; omega) ?_
          refine w_lo dX9_copies_190 rfl rfl rfl rfl ?_
          refine w_gf dX9_copies_191 rfl hJ.1.1 zs_386 (zr_386_60 hJ.1) ?_
          refine w_bi dX9_copies_194 (c := 11) (by decide) ?_
          refine w_lo dX9_copies_196 rfl rfl rfl rfl ?_
          refine w_mulc dX9_copies_197 zt_11 (by have := zt_11; omega) ?_
          intro x93 h94
          have := zt_11
          refine w_lo dX9_copies_198 rfl rfl rfl rfl ?_
          refine w_add dX9_copies_199 (by omega) ?_
          intro x95 h96
          refine w_lo dX9_copies_200 rfl rfl rfl rfl ?_
          refine w_gf dX9_copies_201 rfl hJ.1.1 zs_386 (zr_386_60 hJ.1) ?_
          refine w_bi dX9_copies_204 (c := 11) (by decide) ?_
          refine w_lo dX9_copies_206 rfl rfl rfl rfl ?_
          refine w_mulc dX9_copies_207 zt_11 (by have := zt_11; omega) ?_
          intro x97 h98
          have := zt_11
          refine w_lo dX9_copies_208 rfl rfl rfl rfl ?_
          refine w_add dX9_copies_209 (by omega) ?_
          intro x99 h100
          refine w_iai dX9_copies_210 hJ.1 zs_429 (by omega) (by omega) zu_429 ?_
          intro x104 f101 h102 h103
          refine w_isi dX9_copies_211 hJ zs_429 (by omega) (by omega) zu_429 (by omega) (by omega) (zIR_a (by omega) (by omega)) ?_
          intro M105 hJ106 f107 hn108
          refine w_lo dX9_copies_212 rfl rfl rfl rfl ?_
          refine w_gf dX9_copies_213 rfl hJ106.1.1 zs_386 (zr_386_61 hJ106.1) ?_
          refine w_bi dX9_copies_216 (c := 11) (by decide) ?_
          refine w_lo dX9_copies_218 rfl rfl rfl rfl ?_
          refine w_mulc dX9_copies_219 zt_11 (by have := zt_11; omega) ?_
          intro x109 h110
          have := zt_11
          refine w_lo dX9_copies_220 rfl rfl rfl rfl ?_
          refine w_add dX9_copies_221 (by omega) ?_
          intro x111 h112
          refine w_lo dX9_copies_222 rfl rfl rfl rfl ?_
          refine w_gf dX9_copies_223 rfl hJ106.1.1 zs_386 (zr_386_61 hJ106.1) ?_
          refine w_bi dX9_copies_226 (c := 11) (by decide) ?_
          refine w_lo dX9_copies_228 rfl rfl rfl rfl ?_
          refine w_mulc dX9_copies_229 zt_11 (by have := zt_11; omega) ?_
          intro x113 h114
          have := zt_11
          refine w_lo dX9_copies_230 rfl rfl rfl rfl ?_
          refine w_add dX9_copies_231 (by omega) ?_
          intro x115 h116
          refine w_iai dX9_copies_232 hJ106.1 zs_430 (by omega) (by omega) zu_430 ?_
          intro x120 f117 h118 h119
          refine w_isi dX9_copies_233 hJ106 zs_430 (by omega) (by omega) zu_430 (zbot _) (ztop _) (zIR_a (by omega) (by omega)) ?_
          intro M121 hJ122 f123 hn124
          refine w_inc (kk := 3) dX9_copies_234 rfl (m := 1) (by decide) (by omega) ?_
          intro x125 h126
          refine ⟨_, rfl, ?_⟩
          show ZW _ _ _ _ _ _ _ (237, [some (.ref 386), some (.int v184_1), some (.int v184_2), some (.int x125), o184_4, o184_5], [], M121)
          refine w_gt dX9_copies_237 (t := 184) rfl ?_
          exact ih184 M121 v184_1 v184_2 x125 o184_4 o184_5 hJ122 (by omega) (by omega) (by omega) (by omega) (by omega) (by omega) (by omega)
        · skip
          refine w_cge_t dX9_copies_187 (t := 240) rfl (by have := zt_11; omega) ?_
          refine w_lo dX9_copies_240 rfl rfl rfl rfl ?_
          refine w_gf dX9_copies_241 rfl hJ.1.1 zs_386 (zr_386_62 hJ.1) ?_
          refine w_lo dX9_copies_244 rfl rfl rfl rfl ?_
          refine w_lo dX9_copies_245 rfl rfl rfl rfl ?_
          refine w_gf dX9_copies_246 rfl hJ.1.1 zs_386 (zr_386_62 hJ.1) ?_
          refine w_lo dX9_copies_249 rfl rfl rfl rfl ?_
          refine w_iai dX9_copies_250 hJ.1 zs_431 (by omega) (by omega) zu_431 ?_
          intro x130 f127 h128 h129
          refine w_isi dX9_copies_251 hJ zs_431 (by omega) (by omega) zu_431 (by omega) (by omega) (zIR_a (by omega) (by omega)) ?_
          intro M131 hJ132 f133 hn134
          refine w_ic dX9_copies_252 zi_0 ?_
          refine w_lo (ml' := [some (.ref 386), some (.int v184_1), some (.int v184_2), some (.int 0), o184_4, o184_5]) dX9_copies_253 rfl rfl rfl rfl ?_
          exact ih254 M131 v184_1 v184_2 0 o184_4 o184_5 hJ132 (by omega) (by omega) (by omega) (by omega) (by have := zt_0; omega) (by have := zt_0; omega) (by have := zt_0; omega)
      · intro M v254_1 v254_2 v254_3 o254_4 o254_5 hJ v254_10 v254_11 v254_20 v254_21 v254_30 v254_31 hn
        refine w_lo dX9_copies_254 rfl rfl rfl rfl ?_
        refine w_ic dX9_copies_255 zi_5 ?_
        refine w_lo dX9_copies_256 rfl rfl rfl rfl ?_
        refine w_gf dX9_copies_257 rfl hJ.1.1 zs_386 (zr_386_62 hJ.1) ?_
        refine w_lo dX9_copies_260 rfl rfl rfl rfl ?_
        refine w_iai dX9_copies_261 hJ.1 zs_431 (by omega) (by omega) zu_431 ?_
        intro x138 f135 h136 h137
        refine w_mulc dX9_copies_262 zt_5 (by have := zt_5; omega) ?_
        intro x139 h140
        have := zt_5
        rcases zcut v254_3.toInt x139.toInt with h141 | h141
        · skip
          refine w_cge_f dX9_copies_263 (t := 296) rfl (by omega) ?_
          refine w_lo dX9_copies_266 rfl rfl rfl rfl ?_
          refine w_gf dX9_copies_267 rfl hJ.1.1 zs_386 (zr_386_63 hJ.1) ?_
          refine w_si dX9_copies_270 (c := 1000) (by decide) ?_
          refine w_lo dX9_copies_273 rfl rfl rfl rfl ?_
          refine w_mulc dX9_copies_274 zt_1000 (by have := zt_1000; omega) ?_
          intro x142 h143
          have := zt_1000
          refine w_lo dX9_copies_275 rfl rfl rfl rfl ?_
          refine w_add dX9_copies_276 (by omega) ?_
          intro x144 h145
          refine w_lo dX9_copies_277 rfl rfl rfl rfl ?_
          refine w_gf dX9_copies_278 rfl hJ.1.1 zs_386 (zr_386_63 hJ.1) ?_
          refine w_si dX9_copies_281 (c := 1000) (by decide) ?_
          refine w_lo dX9_copies_284 rfl rfl rfl rfl ?_
          refine w_mulc dX9_copies_285 zt_1000 (by have := zt_1000; omega) ?_
          intro x146 h147
          have := zt_1000
          refine w_lo dX9_copies_286 rfl rfl rfl rfl ?_
          refine w_add dX9_copies_287 (by omega) ?_
          intro x148 h149
          refine w_iai dX9_copies_288 hJ.1 zs_432 (by omega) (by omega) zu_432 ?_
          intro x153 f150 h151 h152
          refine w_isi dX9_copies_289 hJ zs_432 (by omega) (by omega) zu_432 (zbot _) (ztop _) (zIR_a (by omega) (by omega)) ?_
          intro M154 hJ155 f156 hn157
          refine w_inc (kk := 3) dX9_copies_290 rfl (m := 1) (by decide) (by omega) ?_
          intro x158 h159
          refine ⟨_, rfl, ?_⟩
          show ZW _ _ _ _ _ _ _ (293, [some (.ref 386), some (.int v254_1), some (.int v254_2), some (.int x158), o254_4, o254_5], [], M154)
          refine w_gt dX9_copies_293 (t := 254) rfl ?_
          exact ih254 M154 v254_1 v254_2 x158 o254_4 o254_5 hJ155 (by omega) (by omega) (by omega) (by omega) (by omega) (by omega) (by omega)
        · skip
          refine w_cge_t dX9_copies_263 (t := 296) rfl (by omega) ?_
          refine w_en dX9_copies_296 rfl ?_
          exact ⟨_, rfl, hJ, trivial⟩
  obtain ⟨ih14, ih184, ih254⟩ := main 5153
  show ZW _ _ _ _ _ _ _ (0, [some (.ref 386), some (.int a0), some (.int a1), none, none, none], [], M0)
  refine w_lo dX9_copies_0 rfl rfl rfl rfl ?_
  refine w_gf dX9_copies_1 rfl hJ0.1.1 zs_386 (zr_386_49 hJ0.1) ?_
  refine w_lo dX9_copies_4 rfl rfl rfl rfl ?_
  refine w_lo dX9_copies_5 rfl rfl rfl rfl ?_
  refine w_gf dX9_copies_6 rfl hJ0.1.1 zs_386 (zr_386_49 hJ0.1) ?_
  refine w_lo dX9_copies_9 rfl rfl rfl rfl ?_
  refine w_iai dX9_copies_10 hJ0.1 zs_418 (by omega) (by omega) zu_418 ?_
  intro x163 f160 h161 h162
  refine w_isi dX9_copies_11 hJ0 zs_418 (by omega) (by omega) zu_418 (zbot _) (ztop _) (zIR_a (by omega) (by omega)) ?_
  intro M164 hJ165 f166 hn167
  refine w_ic dX9_copies_12 zi_0 ?_
  refine w_lo (ml' := [some (.ref 386), some (.int a0), some (.int a1), some (.int 0), none, none]) dX9_copies_13 rfl rfl rfl rfl ?_
  exact ih14 M164 a0 a1 0 none none hJ165 (by omega) (by omega) (by omega) (by omega) (by have := zt_0; omega) (by have := zt_0; omega) (by have := zt_0; omega)
set_option maxRecDepth 100000 in
theorem k_2345 {X : List Int32} {d N : Nat} {M0 : zM}  (hN : N ≤ 600) (hB0 : zB N M0) : ZV X (d + 2) 2345 [.ref 386] M0 (zRI N [(415, 416, 1000), (418, 433, 1000), (386, 387, 65)] M0 (0) (1) (fun _ _ => True)) := by
  have hJ0 : zJ N [(415, 416, 1000), (418, 433, 1000), (386, 387, 65)] M0 M0 := zJ_refl hB0
  refine ZV.of (ini := false) rfl (Nat.le_of_ble_eq_true rfl) (by decide +kernel) ?_
  show ZW _ _ _ _ _ _ _ (0, [some (.ref 386)], [], M0)
  refine w_lo dX9_undo_0 rfl rfl rfl rfl ?_
  refine w_gfi dX9_undo_1 rfl hJ0.1 zs_386 (Nat.le_of_ble_eq_true rfl) zo_386_65 ?_
  intro x1 f2 h3 h4
  rcases Int.decEq x1.toInt (0 : Int) with h5 | h5
  · skip
    refine w_ine_t dX9_undo_4 (t := 21) rfl (by omega) ?_
    refine w_lo dX9_undo_21 rfl rfl rfl rfl ?_
    refine w_pu dX9_undo_22 rfl rfl ?_
    refine w_gf dX9_undo_23 rfl hJ0.1.1 zs_386 f2 ?_
    refine w_ic dX9_undo_26 zi_1 ?_
    refine w_sub dX9_undo_27 (by have := zt_1; omega) ?_
    intro x6 h7
    have := zt_1
    refine w_pfi dX9_undo_28 rfl hJ0 zs_386 (Nat.le_of_ble_eq_true rfl) zo_386_65 (by omega) (by omega) (zIR_s (zIR_s (zIR_k (by omega) (by omega)))) rfl rfl rfl ?_
    intro M8 hJ9 f10 hn11
    refine w_lo dX9_undo_31 rfl rfl rfl rfl ?_
    refine w_ic dX9_undo_32 zi_0 ?_
    refine w_lo dX9_undo_33 rfl rfl rfl rfl ?_
    refine w_lo dX9_undo_34 rfl rfl rfl rfl ?_
    refine w_gf dX9_undo_35 rfl hJ9.1.1 zs_386 f10 ?_
    refine w_iv dX9_undo_38 rfl rfl (As := [.int x6]) rfl rfl hJ9.1.1 zs_386 (Nat.le_of_ble_eq_true rfl) ?_
    refine ZV.of (ini := false) rfl (Nat.le_of_ble_eq_true rfl) (by decide +kernel) ?_
    show ZW _ _ _ _ _ _ _ (0, [some (.ref 386), some (.int x6)], [], M8)
    refine w_ic dX9_ring_0 zi_2 ?_
    refine w_lo dX9_ring_1 rfl rfl rfl rfl ?_
    refine w_gfi dX9_ring_2 rfl hJ9.1 zs_386 (Nat.le_of_ble_eq_true rfl) zo_386_64 ?_
    intro x12 f13 h14 h15
    refine w_lo dX9_ring_5 rfl rfl rfl rfl ?_
    refine w_add dX9_ring_6 (by omega) ?_
    intro x16 h17
    refine w_bi dX9_ring_7 (c := 20) (by decide) ?_
    refine w_remP dX9_ring_9 (by omega) (by have := zt_20; omega) ?_
    intro x18 h19 h20 h21
    have := zt_20
    refine w_add dX9_ring_10 (by have := zt_2; omega) ?_
    intro x22 h23
    have := zt_2
    refine w_eni dX9_ring_11 rfl rfl ?_
    show ZW _ _ _ _ _ _ _ (41, [some (.ref 386)], [.int x22, .int 0, .ref 386], M8)
    refine w_iv dX9_undo_41 rfl rfl (As := [.int 0, .int x22]) rfl rfl hJ9.1.1 zs_386 (Nat.le_of_ble_eq_true rfl) ?_
    refine ZV.imp (k_2347 0 (by have := zt_0; omega) (by have := zt_0; omega) x22 (by omega) (by omega) hN hJ9.1) ?_
    rintro _ ⟨M24, rfl, hJ25, hq26⟩
    have hJ27 := zJ_trans hJ9 hJ25 (zSub_cons (fun _ _ h h' hk => zIR_s (zIR_a (by omega) (by omega))) zSub_nil)
    show ZW _ _ _ _ _ _ _ (44, [some (.ref 386)], [], M24)
    refine w_ic dX9_undo_44 zi_1 ?_
    refine w_en dX9_undo_45 rfl ?_
    exact ⟨_, _, rfl, (by have := zt_1; omega), (by have := zt_1; omega), hJ27, trivial⟩
  · skip
    refine w_ine_f dX9_undo_4 (t := 21) rfl (by omega) ?_
    refine w_lo dX9_undo_7 rfl rfl rfl rfl ?_
    refine w_ic dX9_undo_8 zi_4 ?_
    refine w_iv dX9_undo_9 rfl rfl (As := [.int 4]) rfl rfl hJ0.1.1 zs_386 (Nat.le_of_ble_eq_true rfl) ?_
    refine ZV.imp (k_2306 4 (by have := zt_4; omega) (by have := zt_4; omega) hN hJ0.1) ?_
    rintro _ ⟨x31, M28, rfl, h32, h33, hJ29, hq30⟩
    have hJ34 := zJ_trans hJ0 hJ29 (zSub_cons (fun _ _ h h' hk => zIR_a (by omega) (by omega)) zSub_nil)
    show ZW _ _ _ _ _ _ _ (12, [some (.ref 386)], [.int x31], M28)
    refine w_ilt_t dX9_undo_12 (t := 19) rfl (by omega) ?_
    refine w_ic dX9_undo_19 zi_0 ?_
    refine w_en dX9_undo_20 rfl ?_
    exact ⟨_, _, rfl, (by have := zt_0; omega), (by have := zt_0; omega), hJ34, trivial⟩
set_option maxRecDepth 100000 in
theorem k_2350 {X : List Int32} {d N : Nat} {M0 : zM}  (hN : N ≤ 600) (hB0 : zB N M0) : ZV X (d + 2) 2350 [.ref 386] M0 (zRI N [] M0 (-2147483648) (2147483647) (fun _ _ => True)) := by
  have hJ0 : zJ N [] M0 M0 := zJ_refl hB0
  refine ZV.of (ini := false) rfl (Nat.le_of_ble_eq_true rfl) (by decide +kernel) ?_
  have main : ∀ n : Nat,
      (∀ (M : zM) (v15_1 : Int32) (v15_2 : Int32), zJ N [] M0 M → ((-2147483648 : Int) ≤ v15_1.toInt) → (v15_1.toInt ≤ 2147483647) → ((0 : Int) ≤ v15_2.toInt) → (v15_2.toInt ≤ 11) → 3 * (11 - v15_2.toInt) + 1 < (n : Int) → ZW X (d + 1) 9 false (some .int) cX9_pieces (zRI N [] M0 (-2147483648) (2147483647) (fun _ _ => True)) (15, [some (.ref 386), some (.int v15_1), some (.int v15_2)], [], M)) := by
    intro n
    induction n with
    | zero =>
      exact (fun M v15_1 v15_2 hJ v15_10 v15_11 v15_20 v15_21 hn => absurd hn (by omega))
    | succ n ih =>
      have ih15 := ih
      · intro M v15_1 v15_2 hJ v15_10 v15_11 v15_20 v15_21 hn
        refine w_lo dX9_pieces_15 rfl rfl rfl rfl ?_
        refine w_lo dX9_pieces_16 rfl rfl rfl rfl ?_
        refine w_iv dX9_pieces_17 rfl rfl (As := []) rfl rfl hJ.1.1 zs_386 (Nat.le_of_ble_eq_true rfl) ?_
        refine ZV.of (ini := false) rfl (Nat.le_of_ble_eq_true rfl) (by decide +kernel) ?_
        show ZW _ _ _ _ _ _ _ (0, [some (.ref 386)], [], M)
        refine w_lo dX9_many_0 rfl rfl rfl rfl ?_
        refine w_gf dX9_many_1 rfl hJ.1.1 zs_386 (zr_386_13 hJ.1) ?_
        refine w_lo dX9_many_4 rfl rfl rfl rfl ?_
        refine w_gfi dX9_many_5 rfl hJ.1 zs_386 (Nat.le_of_ble_eq_true rfl) zo_386_12 ?_
        intro x1 f2 h3 h4
        refine w_iai dX9_many_8 hJ.1 zs_388 (by omega) (by omega) zu_388 ?_
        intro x8 f5 h6 h7
        refine w_eni dX9_many_9 rfl rfl ?_
        show ZW _ _ _ _ _ _ _ (20, [some (.ref 386), some (.int v15_1), some (.int v15_2)], [.int x8, .int v15_2], M)
        refine w_ic dX9_pieces_20 zi_1 ?_
        refine w_sub dX9_pieces_21 (by have := zt_1; omega) ?_
        intro x9 h10
        have := zt_1
        rcases zcut v15_2.toInt x9.toInt with h11 | h11
        · skip
          refine w_cge_f dX9_pieces_22 (t := 42) rfl (by omega) ?_
          refine w_lo dX9_pieces_25 rfl rfl rfl rfl ?_
          refine w_ic dX9_pieces_26 zi_1 ?_
          refine w_lo dX9_pieces_27 rfl rfl rfl rfl ?_
          refine w_gf dX9_pieces_28 rfl hJ.1.1 zs_386 (zr_386_60 hJ.1) ?_
          refine w_lo dX9_pieces_31 rfl rfl rfl rfl ?_
          refine w_iai dX9_pieces_32 hJ.1 zs_429 (by omega) (by omega) zu_429 ?_
          intro x15 f12 h13 h14
          refine w_sub dX9_pieces_33 (by have := zt_1; omega) ?_
          intro x16 h17
          have := zt_1
          refine w_puI dX9_pieces_34 rfl rfl ?_
          intro x18
          refine w_lo (ml' := [some (.ref 386), some (.int x18), some (.int v15_2)]) dX9_pieces_35 rfl rfl rfl rfl ?_
          refine w_inc (kk := 2) dX9_pieces_36 rfl (m := 1) (by decide) (by omega) ?_
          intro x19 h20
          refine ⟨_, rfl, ?_⟩
          show ZW _ _ _ _ _ _ _ (39, [some (.ref 386), some (.int x18), some (.int x19)], [], M)
          refine w_gt dX9_pieces_39 (t := 15) rfl ?_
          exact ih15 M x18 x19 hJ (zbot _) (ztop _) (by omega) (by omega) (by omega)
        · skip
          refine w_cge_t dX9_pieces_22 (t := 42) rfl (by omega) ?_
          refine w_lo dX9_pieces_42 rfl rfl rfl rfl ?_
          refine w_eni dX9_pieces_43 rfl rfl ?_
          exact ⟨_, _, rfl, (zbot _), (ztop _), hJ, trivial⟩
  have ih15 := main 45
  show ZW _ _ _ _ _ _ _ (0, [some (.ref 386), none, none], [], M0)
  refine w_lo dX9_pieces_0 rfl rfl rfl rfl ?_
  refine w_iv dX9_pieces_1 rfl rfl (As := []) rfl rfl hJ0.1.1 zs_386 (Nat.le_of_ble_eq_true rfl) ?_
  refine ZV.of (ini := false) rfl (Nat.le_of_ble_eq_true rfl) (by decide +kernel) ?_
  show ZW _ _ _ _ _ _ _ (0, [some (.ref 386)], [], M0)
  refine w_lo dX9_many_0 rfl rfl rfl rfl ?_
  refine w_gf dX9_many_1 rfl hJ0.1.1 zs_386 (zr_386_13 hJ0.1) ?_
  refine w_lo dX9_many_4 rfl rfl rfl rfl ?_
  refine w_gfi dX9_many_5 rfl hJ0.1 zs_386 (Nat.le_of_ble_eq_true rfl) zo_386_12 ?_
  intro x21 f22 h23 h24
  refine w_iai dX9_many_8 hJ0.1 zs_388 (by omega) (by omega) zu_388 ?_
  intro x28 f25 h26 h27
  refine w_eni dX9_many_9 rfl rfl ?_
  show ZW _ _ _ _ _ _ _ (4, [some (.ref 386), none, none], [.int x28], M0)
  rcases Int.decEq x28.toInt (0 : Int) with h29 | h29
  · skip
    refine w_ine_t dX9_pieces_4 (t := 11) rfl (by omega) ?_
    refine w_ic dX9_pieces_11 zi_1 ?_
    refine w_lo (ml' := [some (.ref 386), some (.int 1), none]) dX9_pieces_12 rfl rfl rfl rfl ?_
    refine w_ic dX9_pieces_13 zi_0 ?_
    refine w_lo (ml' := [some (.ref 386), some (.int 1), some (.int 0)]) dX9_pieces_14 rfl rfl rfl rfl ?_
    exact ih15 M0 1 0 hJ0 (zbot _) (ztop _) (by have := zt_0; omega) (by have := zt_0; omega) (by have := zt_1; have := zt_0; omega)
  · skip
    refine w_ine_f dX9_pieces_4 (t := 11) rfl (by omega) ?_
    refine w_ic dX9_pieces_7 zi_0 ?_
    refine w_gt dX9_pieces_8 (t := 12) rfl ?_
    refine w_lo (ml' := [some (.ref 386), some (.int 0), none]) dX9_pieces_12 rfl rfl rfl rfl ?_
    refine w_ic dX9_pieces_13 zi_0 ?_
    refine w_lo (ml' := [some (.ref 386), some (.int 0), some (.int 0)]) dX9_pieces_14 rfl rfl rfl rfl ?_
    exact ih15 M0 0 0 hJ0 (zbot _) (ztop _) (by have := zt_0; omega) (by have := zt_0; omega) (by have := zt_0; omega)
set_option maxRecDepth 100000 in
theorem k_2348 {X : List Int32} {d N : Nat} {M0 : zM} (a0 : Int32) (hN : N ≤ 600) (hB0 : zB N M0) : ZV X (d + 3) 2348 [.ref 386, .int a0] M0 (zRI N [] M0 (-2147483648) (2147483647) (fun _ _ => True)) := by
  have hJ0 : zJ N [] M0 M0 := zJ_refl hB0
  refine ZV.of (ini := false) rfl (Nat.le_of_ble_eq_true rfl) (by decide +kernel) ?_
  have main : ∀ n : Nat,
      (∀ (M : zM) (u91_1 : Int32) (v91_2 : Int32) (v91_3 : Int32), zJ N [] M0 M → ((-2147483648 : Int) ≤ v91_2.toInt) → (v91_2.toInt ≤ 2147483647) → ((0 : Int) ≤ v91_3.toInt) → (v91_3.toInt ≤ 11) → 6 * (11 - v91_3.toInt) + 256 < (n : Int) → ZW X (d + 2) 9 false (some .int) cX9_has (zRI N [] M0 (-2147483648) (2147483647) (fun _ _ => True)) (91, [some (.ref 386), some (.int u91_1), some (.int v91_2), some (.int v91_3)], [], M)) ∧
      (∀ (M : zM) (u127_1 : Int32) (v127_2 : Int32) (v127_3 : Int32), zJ N [] M0 M → ((-2147483648 : Int) ≤ v127_2.toInt) → (v127_2.toInt ≤ 2147483647) → ((0 : Int) ≤ v127_3.toInt) → (v127_3.toInt ≤ 12) → 6 * (12 - v127_3.toInt) + 171 < (n : Int) → ZW X (d + 2) 9 false (some .int) cX9_has (zRI N [] M0 (-2147483648) (2147483647) (fun _ _ => True)) (127, [some (.ref 386), some (.int u127_1), some (.int v127_2), some (.int v127_3)], [], M)) ∧
      (∀ (M : zM) (u154_1 : Int32) (v154_2 : Int32) (v154_3 : Int32), zJ N [] M0 M → ((-2147483648 : Int) ≤ v154_2.toInt) → (v154_2.toInt ≤ 2147483647) → ((0 : Int) ≤ v154_3.toInt) → (v154_3.toInt ≤ 12) → 6 * (12 - v154_3.toInt) + 86 < (n : Int) → ZW X (d + 2) 9 false (some .int) cX9_has (zRI N [] M0 (-2147483648) (2147483647) (fun _ _ => True)) (154, [some (.ref 386), some (.int u154_1), some (.int v154_2), some (.int v154_3)], [], M)) ∧
      (∀ (M : zM) (u190_1 : Int32) (v190_2 : Int32) (v190_3 : Int32), zJ N [] M0 M → ((-2147483648 : Int) ≤ v190_2.toInt) → (v190_2.toInt ≤ 2147483647) → ((0 : Int) ≤ v190_3.toInt) → (v190_3.toInt ≤ 12) → 6 * (12 - v190_3.toInt) + 1 < (n : Int) → ZW X (d + 2) 9 false (some .int) cX9_has (zRI N [] M0 (-2147483648) (2147483647) (fun _ _ => True)) (190, [some (.ref 386), some (.int u190_1), some (.int v190_2), some (.int v190_3)], [], M)) := by
    intro n
    induction n with
    | zero =>
      exact ⟨(fun M u91_1 v91_2 v91_3 hJ v91_20 v91_21 v91_30 v91_31 hn => absurd hn (by omega)), (fun M u127_1 v127_2 v127_3 hJ v127_20 v127_21 v127_30 v127_31 hn => absurd hn (by omega)), (fun M u154_1 v154_2 v154_3 hJ v154_20 v154_21 v154_30 v154_31 hn => absurd hn (by omega)), (fun M u190_1 v190_2 v190_3 hJ v190_20 v190_21 v190_30 v190_31 hn => absurd hn (by omega))⟩
    | succ n ih =>
      obtain ⟨ih91, ih127, ih154, ih190⟩ := ih
      refine ⟨?_, ?_, ?_, ?_⟩
      · intro M u91_1 v91_2 v91_3 hJ v91_20 v91_21 v91_30 v91_31 hn
        refine w_lo dX9_has_91 rfl rfl rfl rfl ?_
        refine w_lo dX9_has_92 rfl rfl rfl rfl ?_
        refine w_iv dX9_has_93 rfl rfl (As := []) rfl rfl hJ.1.1 zs_386 (Nat.le_of_ble_eq_true rfl) ?_
        refine ZV.of (ini := false) rfl (Nat.le_of_ble_eq_true rfl) (by decide +kernel) ?_
        show ZW _ _ _ _ _ _ _ (0, [some (.ref 386)], [], M)
        refine w_lo dX9_many_0 rfl rfl rfl rfl ?_
        refine w_gf dX9_many_1 rfl hJ.1.1 zs_386 (zr_386_13 hJ.1) ?_
        refine w_lo dX9_many_4 rfl rfl rfl rfl ?_
        refine w_gfi dX9_many_5 rfl hJ.1 zs_386 (Nat.le_of_ble_eq_true rfl) zo_386_12 ?_
        intro x1 f2 h3 h4
        refine w_iai dX9_many_8 hJ.1 zs_388 (by omega) (by omega) zu_388 ?_
        intro x8 f5 h6 h7
        refine w_eni dX9_many_9 rfl rfl ?_
        show ZW _ _ _ _ _ _ _ (96, [some (.ref 386), some (.int u91_1), some (.int v91_2), some (.int v91_3)], [.int x8, .int v91_3], M)
        refine w_ic dX9_has_96 zi_1 ?_
        refine w_sub dX9_has_97 (by have := zt_1; omega) ?_
        intro x9 h10
        have := zt_1
        rcases zcut v91_3.toInt x9.toInt with h11 | h11
        · skip
          refine w_cge_f dX9_has_98 (t := 116) rfl (by omega) ?_
          refine w_lo dX9_has_101 rfl rfl rfl rfl ?_
          refine w_lo dX9_has_102 rfl rfl rfl rfl ?_
          refine w_gf dX9_has_103 rfl hJ.1.1 zs_386 (zr_386_60 hJ.1) ?_
          refine w_lo dX9_has_106 rfl rfl rfl rfl ?_
          refine w_iai dX9_has_107 hJ.1 zs_429 (by omega) (by omega) zu_429 ?_
          intro x15 f12 h13 h14
          refine w_puI dX9_has_108 rfl rfl ?_
          intro x16
          refine w_lo (ml' := [some (.ref 386), some (.int u91_1), some (.int x16), some (.int v91_3)]) dX9_has_109 rfl rfl rfl rfl ?_
          refine w_inc (kk := 3) dX9_has_110 rfl (m := 1) (by decide) (by omega) ?_
          intro x17 h18
          refine ⟨_, rfl, ?_⟩
          show ZW _ _ _ _ _ _ _ (113, [some (.ref 386), some (.int u91_1), some (.int x16), some (.int x17)], [], M)
          refine w_gt dX9_has_113 (t := 91) rfl ?_
          exact ih91 M u91_1 x16 x17 hJ (zbot _) (ztop _) (by omega) (by omega) (by omega)
        · skip
          refine w_cge_t dX9_has_98 (t := 116) rfl (by omega) ?_
          refine w_lo dX9_has_116 rfl rfl rfl rfl ?_
          refine w_eni dX9_has_117 rfl rfl ?_
          exact ⟨_, _, rfl, (zbot _), (ztop _), hJ, trivial⟩
      · intro M u127_1 v127_2 v127_3 hJ v127_20 v127_21 v127_30 v127_31 hn
        refine w_lo dX9_has_127 rfl rfl rfl rfl ?_
        refine w_lo dX9_has_128 rfl rfl rfl rfl ?_
        refine w_iv dX9_has_129 rfl rfl (As := []) rfl rfl hJ.1.1 zs_386 (Nat.le_of_ble_eq_true rfl) ?_
        refine ZV.of (ini := false) rfl (Nat.le_of_ble_eq_true rfl) (by decide +kernel) ?_
        show ZW _ _ _ _ _ _ _ (0, [some (.ref 386)], [], M)
        refine w_lo dX9_many_0 rfl rfl rfl rfl ?_
        refine w_gf dX9_many_1 rfl hJ.1.1 zs_386 (zr_386_13 hJ.1) ?_
        refine w_lo dX9_many_4 rfl rfl rfl rfl ?_
        refine w_gfi dX9_many_5 rfl hJ.1 zs_386 (Nat.le_of_ble_eq_true rfl) zo_386_12 ?_
        intro x19 f20 h21 h22
        refine w_iai dX9_many_8 hJ.1 zs_388 (by omega) (by omega) zu_388 ?_
        intro x26 f23 h24 h25
        refine w_eni dX9_many_9 rfl rfl ?_
        show ZW _ _ _ _ _ _ _ (132, [some (.ref 386), some (.int u127_1), some (.int v127_2), some (.int v127_3)], [.int x26, .int v127_3], M)
        rcases zcut v127_3.toInt x26.toInt with h27 | h27
        · skip
          refine w_cge_f dX9_has_132 (t := 150) rfl (by omega) ?_
          refine w_lo dX9_has_135 rfl rfl rfl rfl ?_
          refine w_lo dX9_has_136 rfl rfl rfl rfl ?_
          refine w_gf dX9_has_137 rfl hJ.1.1 zs_386 (zr_386_51 hJ.1) ?_
          refine w_lo dX9_has_140 rfl rfl rfl rfl ?_
          refine w_iai dX9_has_141 hJ.1 zs_420 (by omega) (by omega) zu_420 ?_
          intro x31 f28 h29 h30
          refine w_puI dX9_has_142 rfl rfl ?_
          intro x32
          refine w_lo (ml' := [some (.ref 386), some (.int u127_1), some (.int x32), some (.int v127_3)]) dX9_has_143 rfl rfl rfl rfl ?_
          refine w_inc (kk := 3) dX9_has_144 rfl (m := 1) (by decide) (by omega) ?_
          intro x33 h34
          refine ⟨_, rfl, ?_⟩
          show ZW _ _ _ _ _ _ _ (147, [some (.ref 386), some (.int u127_1), some (.int x32), some (.int x33)], [], M)
          refine w_gt dX9_has_147 (t := 127) rfl ?_
          exact ih127 M u127_1 x32 x33 hJ (zbot _) (ztop _) (by omega) (by omega) (by omega)
        · skip
          refine w_cge_t dX9_has_132 (t := 150) rfl (by omega) ?_
          refine w_lo dX9_has_150 rfl rfl rfl rfl ?_
          refine w_eni dX9_has_151 rfl rfl ?_
          exact ⟨_, _, rfl, (zbot _), (ztop _), hJ, trivial⟩
      · intro M u154_1 v154_2 v154_3 hJ v154_20 v154_21 v154_30 v154_31 hn
        refine w_lo dX9_has_154 rfl rfl rfl rfl ?_
        refine w_lo dX9_has_155 rfl rfl rfl rfl ?_
        refine w_iv dX9_has_156 rfl rfl (As := []) rfl rfl hJ.1.1 zs_386 (Nat.le_of_ble_eq_true rfl) ?_
        refine ZV.of (ini := false) rfl (Nat.le_of_ble_eq_true rfl) (by decide +kernel) ?_
        show ZW _ _ _ _ _ _ _ (0, [some (.ref 386)], [], M)
        refine w_lo dX9_many_0 rfl rfl rfl rfl ?_
        refine w_gf dX9_many_1 rfl hJ.1.1 zs_386 (zr_386_13 hJ.1) ?_
        refine w_lo dX9_many_4 rfl rfl rfl rfl ?_
        refine w_gfi dX9_many_5 rfl hJ.1 zs_386 (Nat.le_of_ble_eq_true rfl) zo_386_12 ?_
        intro x35 f36 h37 h38
        refine w_iai dX9_many_8 hJ.1 zs_388 (by omega) (by omega) zu_388 ?_
        intro x42 f39 h40 h41
        refine w_eni dX9_many_9 rfl rfl ?_
        show ZW _ _ _ _ _ _ _ (159, [some (.ref 386), some (.int u154_1), some (.int v154_2), some (.int v154_3)], [.int x42, .int v154_3], M)
        rcases zcut v154_3.toInt x42.toInt with h43 | h43
        · skip
          refine w_cge_f dX9_has_159 (t := 186) rfl (by omega) ?_
          refine w_lo dX9_has_162 rfl rfl rfl rfl ?_
          refine w_lo dX9_has_163 rfl rfl rfl rfl ?_
          refine w_gf dX9_has_164 rfl hJ.1.1 zs_386 (zr_386_52 hJ.1) ?_
          refine w_lo dX9_has_167 rfl rfl rfl rfl ?_
          refine w_iai dX9_has_168 hJ.1 zs_421 (by omega) (by omega) zu_421 ?_
          intro x47 f44 h45 h46
          refine w_ic dX9_has_169 zi_m1 ?_
          rcases Int.decEq x47.toInt (-1 : Int) with h48 | h48
          · skip
            refine w_ceq_f dX9_has_170 (t := 177) rfl (by have := zt_m1; omega) ?_
            refine w_ic dX9_has_173 zi_1 ?_
            refine w_gt dX9_has_174 (t := 178) rfl ?_
            refine w_puI dX9_has_178 rfl rfl ?_
            intro x49
            refine w_lo (ml' := [some (.ref 386), some (.int u154_1), some (.int x49), some (.int v154_3)]) dX9_has_179 rfl rfl rfl rfl ?_
            refine w_inc (kk := 3) dX9_has_180 rfl (m := 1) (by decide) (by omega) ?_
            intro x50 h51
            refine ⟨_, rfl, ?_⟩
            show ZW _ _ _ _ _ _ _ (183, [some (.ref 386), some (.int u154_1), some (.int x49), some (.int x50)], [], M)
            refine w_gt dX9_has_183 (t := 154) rfl ?_
            exact ih154 M u154_1 x49 x50 hJ (zbot _) (ztop _) (by omega) (by omega) (by omega)
          · skip
            refine w_ceq_t dX9_has_170 (t := 177) rfl (by have := zt_m1; omega) ?_
            refine w_ic dX9_has_177 zi_0 ?_
            refine w_add dX9_has_178 (by have := zt_0; omega) ?_
            intro x52 h53
            have := zt_0
            refine w_lo (ml' := [some (.ref 386), some (.int u154_1), some (.int x52), some (.int v154_3)]) dX9_has_179 rfl rfl rfl rfl ?_
            refine w_inc (kk := 3) dX9_has_180 rfl (m := 1) (by decide) (by omega) ?_
            intro x54 h55
            refine ⟨_, rfl, ?_⟩
            show ZW _ _ _ _ _ _ _ (183, [some (.ref 386), some (.int u154_1), some (.int x52), some (.int x54)], [], M)
            refine w_gt dX9_has_183 (t := 154) rfl ?_
            exact ih154 M u154_1 x52 x54 hJ (zbot _) (ztop _) (by omega) (by omega) (by omega)
        · skip
          refine w_cge_t dX9_has_159 (t := 186) rfl (by omega) ?_
          refine w_lo dX9_has_186 rfl rfl rfl rfl ?_
          refine w_eni dX9_has_187 rfl rfl ?_
          exact ⟨_, _, rfl, (zbot _), (ztop _), hJ, trivial⟩
      · intro M u190_1 v190_2 v190_3 hJ v190_20 v190_21 v190_30 v190_31 hn
        refine w_lo dX9_has_190 rfl rfl rfl rfl ?_
        refine w_lo dX9_has_191 rfl rfl rfl rfl ?_
        refine w_iv dX9_has_192 rfl rfl (As := []) rfl rfl hJ.1.1 zs_386 (Nat.le_of_ble_eq_true rfl) ?_
        refine ZV.of (ini := false) rfl (Nat.le_of_ble_eq_true rfl) (by decide +kernel) ?_
        show ZW _ _ _ _ _ _ _ (0, [some (.ref 386)], [], M)
        refine w_lo dX9_many_0 rfl rfl rfl rfl ?_
        refine w_gf dX9_many_1 rfl hJ.1.1 zs_386 (zr_386_13 hJ.1) ?_
        refine w_lo dX9_many_4 rfl rfl rfl rfl ?_
        refine w_gfi dX9_many_5 rfl hJ.1 zs_386 (Nat.le_of_ble_eq_true rfl) zo_386_12 ?_
        intro x56 f57 h58 h59
        refine w_iai dX9_many_8 hJ.1 zs_388 (by omega) (by omega) zu_388 ?_
        intro x63 f60 h61 h62
        refine w_eni dX9_many_9 rfl rfl ?_
        show ZW _ _ _ _ _ _ _ (195, [some (.ref 386), some (.int u190_1), some (.int v190_2), some (.int v190_3)], [.int x63, .int v190_3], M)
        rcases zcut v190_3.toInt x63.toInt with h64 | h64
        · skip
          refine w_cge_f dX9_has_195 (t := 222) rfl (by omega) ?_
          refine w_lo dX9_has_198 rfl rfl rfl rfl ?_
          refine w_lo dX9_has_199 rfl rfl rfl rfl ?_
          refine w_gf dX9_has_200 rfl hJ.1.1 zs_386 (zr_386_54 hJ.1) ?_
          refine w_lo dX9_has_203 rfl rfl rfl rfl ?_
          refine w_iai dX9_has_204 hJ.1 zs_423 (by omega) (by omega) zu_423 ?_
          intro x68 f65 h66 h67
          refine w_ic dX9_has_205 zi_m1 ?_
          rcases Int.decEq x68.toInt (-1 : Int) with h69 | h69
          · skip
            refine w_ceq_f dX9_has_206 (t := 213) rfl (by have := zt_m1; omega) ?_
            refine w_ic dX9_has_209 zi_1 ?_
            refine w_gt dX9_has_210 (t := 214) rfl ?_
            refine w_puI dX9_has_214 rfl rfl ?_
            intro x70
            refine w_lo (ml' := [some (.ref 386), some (.int u190_1), some (.int x70), some (.int v190_3)]) dX9_has_215 rfl rfl rfl rfl ?_
            refine w_inc (kk := 3) dX9_has_216 rfl (m := 1) (by decide) (by omega) ?_
            intro x71 h72
            refine ⟨_, rfl, ?_⟩
            show ZW _ _ _ _ _ _ _ (219, [some (.ref 386), some (.int u190_1), some (.int x70), some (.int x71)], [], M)
            refine w_gt dX9_has_219 (t := 190) rfl ?_
            exact ih190 M u190_1 x70 x71 hJ (zbot _) (ztop _) (by omega) (by omega) (by omega)
          · skip
            refine w_ceq_t dX9_has_206 (t := 213) rfl (by have := zt_m1; omega) ?_
            refine w_ic dX9_has_213 zi_0 ?_
            refine w_add dX9_has_214 (by have := zt_0; omega) ?_
            intro x73 h74
            have := zt_0
            refine w_lo (ml' := [some (.ref 386), some (.int u190_1), some (.int x73), some (.int v190_3)]) dX9_has_215 rfl rfl rfl rfl ?_
            refine w_inc (kk := 3) dX9_has_216 rfl (m := 1) (by decide) (by omega) ?_
            intro x75 h76
            refine ⟨_, rfl, ?_⟩
            show ZW _ _ _ _ _ _ _ (219, [some (.ref 386), some (.int u190_1), some (.int x73), some (.int x75)], [], M)
            refine w_gt dX9_has_219 (t := 190) rfl ?_
            exact ih190 M u190_1 x73 x75 hJ (zbot _) (ztop _) (by omega) (by omega) (by omega)
        · skip
          refine w_cge_t dX9_has_195 (t := 222) rfl (by omega) ?_
          refine w_lo dX9_has_222 rfl rfl rfl rfl ?_
          refine w_eni dX9_has_223 rfl rfl ?_
          exact ⟨_, _, rfl, (zbot _), (ztop _), hJ, trivial⟩
  obtain ⟨ih91, ih127, ih154, ih190⟩ := main 339
  show ZW _ _ _ _ _ _ _ (0, [some (.ref 386), some (.int a0), none, none], [], M0)
  refine w_ic dX9_has_0 zi_0 ?_
  refine w_lo (ml' := [some (.ref 386), some (.int a0), some (.int 0), none]) dX9_has_1 rfl rfl rfl rfl ?_
  refine w_lo dX9_has_2 rfl rfl rfl rfl ?_
  rcases Int.decEq a0.toInt (0 : Int) with h77 | h77
  rotate_left
  · skip
    refine w_ts dX9_has_3 (t := 64) (j := 0) h77 (by decide) ?_
    refine w_lo dX9_has_64 rfl rfl rfl rfl ?_
    refine w_iv dX9_has_65 rfl rfl (As := []) rfl rfl hJ0.1.1 zs_386 (Nat.le_of_ble_eq_true rfl) ?_
    refine ZV.of (ini := false) rfl (Nat.le_of_ble_eq_true rfl) (by decide +kernel) ?_
    show ZW _ _ _ _ _ _ _ (0, [some (.ref 386)], [], M0)
    refine w_lo dX9_many_0 rfl rfl rfl rfl ?_
    refine w_gf dX9_many_1 rfl hJ0.1.1 zs_386 (zr_386_13 hJ0.1) ?_
    refine w_lo dX9_many_4 rfl rfl rfl rfl ?_
    refine w_gfi dX9_many_5 rfl hJ0.1 zs_386 (Nat.le_of_ble_eq_true rfl) zo_386_12 ?_
    intro x78 f79 h80 h81
    refine w_iai dX9_many_8 hJ0.1 zs_388 (by omega) (by omega) zu_388 ?_
    intro x85 f82 h83 h84
    refine w_eni dX9_many_9 rfl rfl ?_
    show ZW _ _ _ _ _ _ _ (68, [some (.ref 386), some (.int a0), some (.int 0), none], [.int x85], M0)
    refine w_eni dX9_has_68 rfl rfl ?_
    exact ⟨_, _, rfl, (zbot _), (ztop _), hJ0, trivial⟩
  rcases Int.decEq a0.toInt (1 : Int) with h86 | h86
  rotate_left
  · skip
    refine w_ts dX9_has_3 (t := 69) (j := 1) h86 (by decide) ?_
    refine w_lo dX9_has_69 rfl rfl rfl rfl ?_
    refine w_gf dX9_has_70 rfl hJ0.1.1 zs_386 (zr_386_21 hJ0.1) ?_
    refine w_lo dX9_has_73 rfl rfl rfl rfl ?_
    refine w_gfi dX9_has_74 rfl hJ0.1 zs_386 (Nat.le_of_ble_eq_true rfl) zo_386_12 ?_
    intro x87 f88 h89 h90
    refine w_iai dX9_has_77 hJ0.1 zs_396 (by omega) (by omega) zu_396 ?_
    intro x94 f91 h92 h93
    refine w_eni dX9_has_78 rfl rfl ?_
    exact ⟨_, _, rfl, (zbot _), (ztop _), hJ0, trivial⟩
  rcases Int.decEq a0.toInt (2 : Int) with h95 | h95
  rotate_left
  · skip
    refine w_ts dX9_has_3 (t := 79) (j := 2) h95 (by decide) ?_
    refine w_lo dX9_has_79 rfl rfl rfl rfl ?_
    refine w_gf dX9_has_80 rfl hJ0.1.1 zs_386 (zr_386_27 hJ0.1) ?_
    refine w_lo dX9_has_83 rfl rfl rfl rfl ?_
    refine w_gfi dX9_has_84 rfl hJ0.1 zs_386 (Nat.le_of_ble_eq_true rfl) zo_386_12 ?_
    intro x96 f97 h98 h99
    refine w_iai dX9_has_87 hJ0.1 zs_402 (by omega) (by omega) zu_402 ?_
    intro x103 f100 h101 h102
    refine w_eni dX9_has_88 rfl rfl ?_
    exact ⟨_, _, rfl, (zbot _), (ztop _), hJ0, trivial⟩
  rcases Int.decEq a0.toInt (3 : Int) with h104 | h104
  rotate_left
  · skip
    refine w_ts dX9_has_3 (t := 89) (j := 3) h104 (by decide) ?_
    refine w_ic dX9_has_89 zi_0 ?_
    refine w_lo (ml' := [some (.ref 386), some (.int a0), some (.int 0), some (.int 0)]) dX9_has_90 rfl rfl rfl rfl ?_
    exact ih91 M0 a0 0 0 hJ0 (zbot _) (ztop _) (by have := zt_0; omega) (by have := zt_0; omega) (by have := zt_0; omega)
  rcases Int.decEq a0.toInt (4 : Int) with h105 | h105
  rotate_left
  · skip
    refine w_ts dX9_has_3 (t := 118) (j := 4) h105 (by decide) ?_
    refine w_lo dX9_has_118 rfl rfl rfl rfl ?_
    refine w_gf dX9_has_119 rfl hJ0.1.1 zs_386 (zr_386_49 hJ0.1) ?_
    refine w_ic dX9_has_122 zi_0 ?_
    refine w_iai dX9_has_123 hJ0.1 zs_418 (by have := zt_0; omega) (by have := zt_0; omega) zu_418 ?_
    intro x109 f106 h107 h108
    refine w_eni dX9_has_124 rfl rfl ?_
    exact ⟨_, _, rfl, (zbot _), (ztop _), hJ0, trivial⟩
  rcases Int.decEq a0.toInt (5 : Int) with h110 | h110
  rotate_left
  · skip
    refine w_ts dX9_has_3 (t := 125) (j := 5) h110 (by decide) ?_
    refine w_ic dX9_has_125 zi_0 ?_
    refine w_lo (ml' := [some (.ref 386), some (.int a0), some (.int 0), some (.int 0)]) dX9_has_126 rfl rfl rfl rfl ?_
    exact ih127 M0 a0 0 0 hJ0 (zbot _) (ztop _) (by have := zt_0; omega) (by have := zt_0; omega) (by have := zt_0; omega)
  rcases Int.decEq a0.toInt (6 : Int) with h111 | h111
  rotate_left
  · skip
    refine w_ts dX9_has_3 (t := 152) (j := 6) h111 (by decide) ?_
    refine w_ic dX9_has_152 zi_0 ?_
    refine w_lo (ml' := [some (.ref 386), some (.int a0), some (.int 0), some (.int 0)]) dX9_has_153 rfl rfl rfl rfl ?_
    exact ih154 M0 a0 0 0 hJ0 (zbot _) (ztop _) (by have := zt_0; omega) (by have := zt_0; omega) (by have := zt_0; omega)
  rcases Int.decEq a0.toInt (7 : Int) with h112 | h112
  rotate_left
  · skip
    refine w_ts dX9_has_3 (t := 188) (j := 7) h112 (by decide) ?_
    refine w_ic dX9_has_188 zi_0 ?_
    refine w_lo (ml' := [some (.ref 386), some (.int a0), some (.int 0), some (.int 0)]) dX9_has_189 rfl rfl rfl rfl ?_
    exact ih190 M0 a0 0 0 hJ0 (zbot _) (ztop _) (by have := zt_0; omega) (by have := zt_0; omega) (by have := zt_0; omega)
  rcases Int.decEq a0.toInt (8 : Int) with h113 | h113
  rotate_left
  · skip
    refine w_ts dX9_has_3 (t := 224) (j := 8) h113 (by decide) ?_
    refine w_lo dX9_has_224 rfl rfl rfl rfl ?_
    refine w_gf dX9_has_225 rfl hJ0.1.1 zs_386 (zr_386_62 hJ0.1) ?_
    refine w_ic dX9_has_228 zi_0 ?_
    refine w_iai dX9_has_229 hJ0.1 zs_431 (by have := zt_0; omega) (by have := zt_0; omega) zu_431 ?_
    intro x117 f114 h115 h116
    refine w_eni dX9_has_230 rfl rfl ?_
    exact ⟨_, _, rfl, (zbot _), (ztop _), hJ0, trivial⟩
  rcases Int.decEq a0.toInt (9 : Int) with h118 | h118
  rotate_left
  · skip
    refine w_ts dX9_has_3 (t := 231) (j := 9) h118 (by decide) ?_
    refine w_lo dX9_has_231 rfl rfl rfl rfl ?_
    refine w_gfi dX9_has_232 rfl hJ0.1 zs_386 (Nat.le_of_ble_eq_true rfl) zo_386_65 ?_
    intro x119 f120 h121 h122
    refine w_eni dX9_has_235 rfl rfl ?_
    exact ⟨_, _, rfl, (zbot _), (ztop _), hJ0, trivial⟩
  rcases Int.decEq a0.toInt (10 : Int) with h123 | h123
  rotate_left
  · skip
    refine w_ts dX9_has_3 (t := 236) (j := 10) h123 (by decide) ?_
    refine w_lo dX9_has_236 rfl rfl rfl rfl ?_
    refine w_iv dX9_has_237 rfl rfl (As := []) rfl rfl hJ0.1.1 zs_386 (Nat.le_of_ble_eq_true rfl) ?_
    refine ZV.imp (k_2350 hN hJ0.1) ?_
    rintro _ ⟨x127, M124, rfl, h128, h129, hJ125, hq126⟩
    have hJ130 := zJ_trans hJ0 hJ125 zSub_nil
    show ZW _ _ _ _ _ _ _ (240, [some (.ref 386), some (.int a0), some (.int 0), none], [.int x127], M124)
    refine w_eni dX9_has_240 rfl rfl ?_
    exact ⟨_, _, rfl, (zbot _), (ztop _), hJ130, trivial⟩
  rcases Int.decEq a0.toInt (11 : Int) with h131 | h131
  rotate_left
  · skip
    refine w_ts dX9_has_3 (t := 241) (j := 11) h131 (by decide) ?_
    refine w_lo dX9_has_241 rfl rfl rfl rfl ?_
    refine w_gfl dX9_has_242 rfl hJ0.1 zs_386 (Nat.le_of_ble_eq_true rfl) zo_386_66 ?_
    intro y135 f132 h133 h134
    refine w_l2i dX9_has_245 (by omega) ?_
    intro x136 h137
    skip
    refine w_eni dX9_has_246 rfl rfl ?_
    exact ⟨_, _, rfl, (zbot _), (ztop _), hJ0, trivial⟩
  refine w_td dX9_has_3 (t := 247) (by omega) rfl ?_
  refine w_ic dX9_has_247 zi_m1 ?_
  refine w_en dX9_has_248 rfl ?_
  exact ⟨_, _, rfl, (zbot _), (ztop _), hJ0, trivial⟩
