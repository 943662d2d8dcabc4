/-! the class's methods come to an end, within the box (wip/safe/mks.py) -/
set_option maxRecDepth 100000 in
theorem k_1300_c1 {X : List Int32} {d N : Nat} {M0 : zM}  (hN : N ≤ 600) (hB0 : zB N M0) : ZV X (d + 19) 1300 [.ref 2, .int 1] M0 (zRI N [(2, 3, 0), (2, 3, 1), (20, 21, 1), (41, 42, 1), (21, 22, 1000), (42, 43, 1000), (2, 3, 7)] M0 (0) (1) (fun _ _ => True)) := by
  have hJ0 : zJ N [(2, 3, 0), (2, 3, 1), (20, 21, 1), (41, 42, 1), (21, 22, 1000), (42, 43, 1000), (2, 3, 7)] M0 M0 := zJ_refl hB0
  refine ZV.of (ini := false) rfl (Nat.le_of_ble_eq_true rfl) (by decide +kernel) ?_
  have main : ∀ n : Nat,
      (∀ (M : zM) (v2_2 : Int32) (o2_3 : Option Value), zJ N [(2, 3, 0), (2, 3, 1), (20, 21, 1), (41, 42, 1), (21, 22, 1000), (42, 43, 1000), (2, 3, 7)] M0 M → ((0 : Int) ≤ v2_2.toInt) → (v2_2.toInt ≤ 1601) → 9624 * (1601 - v2_2.toInt) + 9622 < (n : Int) → ZW X (d + 18) 5 false (some .boolean) cX5_readTest (zRI N [(2, 3, 0), (2, 3, 1), (20, 21, 1), (41, 42, 1), (21, 22, 1000), (42, 43, 1000), (2, 3, 7)] M0 (0) (1) (fun _ _ => True)) (2, [some (.ref 2), some (.int 1), some (.int v2_2), o2_3], [], M)) ∧
      (∀ (M : zM) (v11_2 : Int32) (v11_3 : Int32), zJ N [(2, 3, 0), (2, 3, 1), (20, 21, 1), (41, 42, 1), (21, 22, 1000), (42, 43, 1000), (2, 3, 7)] M0 M → ((0 : Int) ≤ v11_2.toInt) → (v11_2.toInt ≤ 1600) → ((0 : Int) ≤ v11_3.toInt) → (v11_3.toInt ≤ 1601) → 9624 * (1601 - v11_2.toInt) + 6 * (1601 - v11_3.toInt) + 3 < (n : Int) → ZW X (d + 18) 5 false (some .boolean) cX5_readTest (zRI N [(2, 3, 0), (2, 3, 1), (20, 21, 1), (41, 42, 1), (21, 22, 1000), (42, 43, 1000), (2, 3, 7)] M0 (0) (1) (fun _ _ => True)) (11, [some (.ref 2), some (.int 1), some (.int v11_2), some (.int v11_3)], [], M)) ∧
      (∀ (M : zM) (v44_2 : Int32) (v44_3 : Int32), zJ N [(2, 3, 0), (2, 3, 1), (20, 21, 1), (41, 42, 1), (21, 22, 1000), (42, 43, 1000), (2, 3, 7)] M0 M → ((0 : Int) ≤ v44_2.toInt) → (v44_2.toInt ≤ 1600) → ((0 : Int) ≤ v44_3.toInt) → (v44_3.toInt ≤ 1600) → 9624 * (1601 - v44_2.toInt) + 6 * (1601 - v44_3.toInt) + 2 < (n : Int) → ZW X (d + 18) 5 false (some .boolean) cX5_readTest (zRI N [(2, 3, 0), (2, 3, 1), (20, 21, 1), (41, 42, 1), (21, 22, 1000), (42, 43, 1000), (2, 3, 7)] M0 (0) (1) (fun _ _ => True)) (44, [some (.ref 2), some (.int 1), some (.int v44_2), some (.int v44_3)], [], M)) ∧
      (∀ (M : zM) (v66_2 : Int32) (u66_3 : Int32), zJ N [(2, 3, 0), (2, 3, 1), (20, 21, 1), (41, 42, 1), (21, 22, 1000), (42, 43, 1000), (2, 3, 7)] M0 M → ((0 : Int) ≤ v66_2.toInt) → (v66_2.toInt ≤ 1600) → 9624 * (1601 - v66_2.toInt) + 1 < (n : Int) → ZW X (d + 18) 5 false (some .boolean) cX5_readTest (zRI N [(2, 3, 0), (2, 3, 1), (20, 21, 1), (41, 42, 1), (21, 22, 1000), (42, 43, 1000), (2, 3, 7)] M0 (0) (1) (fun _ _ => True)) (66, [some (.ref 2), some (.int 1), some (.int v66_2), some (.int u66_3)], [], M)) := by
    intro n
    induction n with
    | zero =>
      exact ⟨(fun M v2_2 o2_3 hJ v2_20 v2_21 hn => absurd hn (by omega)), (fun M v11_2 v11_3 hJ v11_20 v11_21 v11_30 v11_31 hn => absurd hn (by omega)), (fun M v44_2 v44_3 hJ v44_20 v44_21 v44_30 v44_31 hn => absurd hn (by omega)), (fun M v66_2 u66_3 hJ v66_20 v66_21 hn => absurd hn (by omega))⟩
    | succ n ih =>
      obtain ⟨ih2, ih11, ih44, ih66⟩ := ih
      refine ⟨?_, ?_, ?_, ?_⟩
      · intro M v2_2 o2_3 hJ v2_20 v2_21 hn
        refine w_lo dX5_readTest_2 rfl rfl rfl rfl ?_
        refine w_si dX5_readTest_3 (c := 1600) (by decide) ?_
        rcases zcut (1600 : Int) v2_2.toInt with h1 | h1
        · skip
          refine w_cgt_t dX5_readTest_6 (t := 104) rfl (by have := zt_1600; omega) ?_
          refine w_ic dX5_readTest_104 zi_1 ?_
          refine w_en dX5_readTest_105 rfl ?_
          exact ⟨_, _, rfl, (by have := zt_1; omega), (by have := zt_1; omega), hJ, trivial⟩
        · skip
          refine w_cgt_f dX5_readTest_6 (t := 104) rfl (by have := zt_1600; omega) ?_
          refine w_ic dX5_readTest_9 zi_0 ?_
          refine w_lo (ml' := [some (.ref 2), some (.int 1), some (.int v2_2), some (.int 0)]) dX5_readTest_10 rfl rfl rfl rfl ?_
          exact ih11 M v2_2 0 hJ (by omega) (by omega) (by have := zt_0; omega) (by have := zt_0; omega) (by have := zt_1; have := zt_0; omega)
      · intro M v11_2 v11_3 hJ v11_20 v11_21 v11_30 v11_31 hn
        refine w_lo dX5_readTest_11 rfl rfl rfl rfl ?_
        refine w_si dX5_readTest_12 (c := 1600) (by decide) ?_
        rcases zcut (1600 : Int) v11_3.toInt with h2 | h2
        · skip
          refine w_cgt_t dX5_readTest_15 (t := 66) rfl (by have := zt_1600; omega) ?_
          exact ih66 M v11_2 v11_3 hJ (by omega) (by omega) (by have := zt_1; omega)
        · skip
          refine w_cgt_f dX5_readTest_15 (t := 66) rfl (by have := zt_1600; omega) ?_
          refine w_lo dX5_readTest_18 rfl rfl rfl rfl ?_
          refine w_lo dX5_readTest_19 rfl rfl rfl rfl ?_
          refine w_iv dX5_readTest_20 rfl rfl (As := [.int 1]) rfl rfl hJ.1.1 zs_2 (Nat.le_of_ble_eq_true rfl) ?_
          refine ZV.imp (k_1301_c1 hN hJ.1) ?_
          rintro _ ⟨x6, M3, rfl, h7, h8, hJ4, hq5⟩
          have hJ9 := zJ_trans hJ hJ4 (zSub_cons (fun _ _ h h' hk => zIR_e (by omega) (by omega) hk) (zSub_cons (fun _ _ h h' hk => zIR_s (zIR_e (by omega) (by omega) hk)) (zSub_cons (fun _ _ h h' hk => zIR_s (zIR_s (zIR_e (by omega) (by omega) hk))) (zSub_cons (fun _ _ h h' hk => zIR_s (zIR_s (zIR_s (zIR_e (by omega) (by omega) hk)))) (zSub_cons (fun _ _ h h' hk => zIR_s (zIR_s (zIR_s (zIR_s (zIR_a (by omega) (by omega)))))) (zSub_cons (fun _ _ h h' hk => zIR_s (zIR_s (zIR_s (zIR_s (zIR_s (zIR_a (by omega) (by omega))))))) (zSub_cons (fun _ _ h h' hk => zIR_s (zIR_s (zIR_s (zIR_s (zIR_s (zIR_s (zIR_e (by omega) (by omega) hk))))))) zSub_nil)))))))
          show ZW _ _ _ _ _ _ _ (23, [some (.ref 2), some (.int 1), some (.int v11_2), some (.int v11_3)], [.int x6], M3)
          rcases Int.decEq x6.toInt (0 : Int) with h10 | h10
          · skip
            refine w_ine_t dX5_readTest_23 (t := 28) rfl (by omega) ?_
            refine w_lo dX5_readTest_28 rfl rfl rfl rfl ?_
            rcases zcut (0 : Int) v11_3.toInt with h11 | h11
            · skip
              refine w_ile_f dX5_readTest_29 (t := 44) rfl (by omega) ?_
              refine w_lo dX5_readTest_32 rfl rfl rfl rfl ?_
              obtain ⟨b12, f13, h14⟩ := zd_2_8 hJ9.1
              have h15 := zDm_b h14
              refine w_gf dX5_readTest_33 rfl hJ9.1.1 zs_2 f13 ?_
              refine w_gf dX5_readTest_36 rfl hJ9.1.1 (zs_1_0 h14) (zr_1_0_15 h14 hJ9.1) ?_
              refine w_bi dX5_readTest_39 (c := (-17)) (by decide) ?_
              refine w_iv dX5_readTest_41 rfl rfl (As := [.int (-17)]) rfl rfl hJ9.1.1 (zs_1_13 h14) (Nat.le_of_ble_eq_true rfl) ?_
              refine ZV.imp (k_515 (b12 + 13) (zLw_of h14) (-17) hN hJ9.1) ?_
              rintro _ ⟨M16, rfl, hJ17, hq18⟩
              have hJ19 := zJ_trans hJ9 hJ17 (zSub_cons (fun _ _ h h' hk => ((zDm_or h14).elim (fun e => zIR_s (zIR_s (zIR_e (by omega) (by omega) hk))) (fun e => zIR_s (zIR_s (zIR_s (zIR_e (by omega) (by omega) hk)))))) (zSub_cons (fun _ _ h h' hk => ((zDm_or h14).elim (fun e => zIR_s (zIR_s (zIR_s (zIR_s (zIR_a (by omega) (by omega)))))) (fun e => zIR_s (zIR_s (zIR_s (zIR_s (zIR_s (zIR_a (by omega) (by omega))))))))) zSub_nil))
              show ZW _ _ _ _ _ _ _ (44, [some (.ref 2), some (.int 1), some (.int v11_2), some (.int v11_3)], [], M16)
              exact ih44 M16 v11_2 v11_3 hJ19 (by omega) (by omega) (by omega) (by omega) (by have := zt_1; omega)
            · skip
              refine w_ile_t dX5_readTest_29 (t := 44) rfl (by omega) ?_
              exact ih44 M3 v11_2 v11_3 hJ9 (by omega) (by omega) (by omega) (by omega) (by have := zt_1; omega)
          · skip
            refine w_ine_f dX5_readTest_23 (t := 28) rfl (by omega) ?_
            refine w_ic dX5_readTest_26 zi_0 ?_
            refine w_en dX5_readTest_27 rfl ?_
            exact ⟨_, _, rfl, (by have := zt_0; omega), (by have := zt_0; omega), hJ9, trivial⟩
      · intro M v44_2 v44_3 hJ v44_20 v44_21 v44_30 v44_31 hn
        refine w_lo dX5_readTest_44 rfl rfl rfl rfl ?_
        refine w_iv dX5_readTest_45 rfl rfl (As := []) rfl rfl hJ.1.1 zs_2 (Nat.le_of_ble_eq_true rfl) ?_
        refine ZV.imp (k_1287 hN hJ.1) ?_
        rintro _ ⟨x23, M20, rfl, h24, h25, hJ21, hq22⟩
        have hJ26 := zJ_trans hJ hJ21 zSub_nil
        show ZW _ _ _ _ _ _ _ (48, [some (.ref 2), some (.int 1), some (.int v44_2), some (.int v44_3)], [.int x23], M20)
        refine w_bi dX5_readTest_48 (c := 22) (by decide) ?_
        rcases Int.decEq x23.toInt (22 : Int) with h27 | h27
        · skip
          refine w_ceq_f dX5_readTest_50 (t := 56) rfl (by have := zt_22; omega) ?_
          refine w_gt dX5_readTest_53 (t := 66) rfl ?_
          exact ih66 M20 v44_2 v44_3 hJ26 (by omega) (by omega) (by have := zt_1; omega)
        · skip
          refine w_ceq_t dX5_readTest_50 (t := 56) rfl (by have := zt_22; omega) ?_
          refine w_lo dX5_readTest_56 rfl rfl rfl rfl ?_
          refine w_iv dX5_readTest_57 rfl rfl (As := []) rfl rfl hJ26.1.1 zs_2 (Nat.le_of_ble_eq_true rfl) ?_
          refine ZV.imp (k_1289 hN hJ26.1) ?_
          rintro _ ⟨M28, rfl, hJ29, hq30⟩
          have hJ31 := zJ_trans hJ26 hJ29 (zSub_cons (fun _ _ h h' hk => zIR_s (zIR_s (zIR_s (zIR_s (zIR_s (zIR_s (zIR_e (by omega) (by omega) hk))))))) zSub_nil)
          show ZW _ _ _ _ _ _ _ (60, [some (.ref 2), some (.int 1), some (.int v44_2), some (.int v44_3)], [], M28)
          refine w_inc (kk := 3) dX5_readTest_60 rfl (m := 1) (by decide) (by omega) ?_
          intro x32 h33
          refine ⟨_, rfl, ?_⟩
          show ZW _ _ _ _ _ _ _ (63, [some (.ref 2), some (.int 1), some (.int v44_2), some (.int x32)], [], M28)
          refine w_gt dX5_readTest_63 (t := 11) rfl ?_
          exact ih11 M28 v44_2 x32 hJ31 (by omega) (by omega) (by omega) (by omega) (by have := zt_1; omega)
      · intro M v66_2 u66_3 hJ v66_20 v66_21 hn
        refine w_lo dX5_readTest_66 rfl rfl rfl rfl ?_
        rcases zcut (0 : Int) v66_2.toInt with h34 | h34
        · skip
          refine w_ile_f dX5_readTest_67 (t := 82) rfl (by omega) ?_
          refine w_lo dX5_readTest_70 rfl rfl rfl rfl ?_
          obtain ⟨b35, f36, h37⟩ := zd_2_8 hJ.1
          have h38 := zDm_b h37
          refine w_gf dX5_readTest_71 rfl hJ.1.1 zs_2 f36 ?_
          refine w_gf dX5_readTest_74 rfl hJ.1.1 (zs_1_0 h37) (zr_1_0_15 h37 hJ.1) ?_
          refine w_bi dX5_readTest_77 (c := (-18)) (by decide) ?_
          refine w_iv dX5_readTest_79 rfl rfl (As := [.int (-18)]) rfl rfl hJ.1.1 (zs_1_13 h37) (Nat.le_of_ble_eq_true rfl) ?_
          refine ZV.imp (k_515 (b35 + 13) (zLw_of h37) (-18) hN hJ.1) ?_
          rintro _ ⟨M39, rfl, hJ40, hq41⟩
          have hJ42 := zJ_trans hJ hJ40 (zSub_cons (fun _ _ h h' hk => ((zDm_or h37).elim (fun e => zIR_s (zIR_s (zIR_e (by omega) (by omega) hk))) (fun e => zIR_s (zIR_s (zIR_s (zIR_e (by omega) (by omega) hk)))))) (zSub_cons (fun _ _ h h' hk => ((zDm_or h37).elim (fun e => zIR_s (zIR_s (zIR_s (zIR_s (zIR_a (by omega) (by omega)))))) (fun e => zIR_s (zIR_s (zIR_s (zIR_s (zIR_s (zIR_a (by omega) (by omega))))))))) zSub_nil))
          show ZW _ _ _ _ _ _ _ (82, [some (.ref 2), some (.int 1), some (.int v66_2), some (.int u66_3)], [], M39)
          refine w_lo dX5_readTest_82 rfl rfl rfl rfl ?_
          refine w_iv dX5_readTest_83 rfl rfl (As := []) rfl rfl hJ42.1.1 zs_2 (Nat.le_of_ble_eq_true rfl) ?_
          refine ZV.imp (k_1287 hN hJ42.1) ?_
          rintro _ ⟨x46, M43, rfl, h47, h48, hJ44, hq45⟩
          have hJ49 := zJ_trans hJ42 hJ44 zSub_nil
          show ZW _ _ _ _ _ _ _ (86, [some (.ref 2), some (.int 1), some (.int v66_2), some (.int u66_3)], [.int x46], M43)
          refine w_bi dX5_readTest_86 (c := 21) (by decide) ?_
          rcases Int.decEq x46.toInt (21 : Int) with h50 | h50
          · skip
            refine w_ceq_f dX5_readTest_88 (t := 94) rfl (by have := zt_21; omega) ?_
            refine w_gt dX5_readTest_91 (t := 104) rfl ?_
            refine w_ic dX5_readTest_104 zi_1 ?_
            refine w_en dX5_readTest_105 rfl ?_
            exact ⟨_, _, rfl, (by have := zt_1; omega), (by have := zt_1; omega), hJ49, trivial⟩
          · skip
            refine w_ceq_t dX5_readTest_88 (t := 94) rfl (by have := zt_21; omega) ?_
            refine w_lo dX5_readTest_94 rfl rfl rfl rfl ?_
            refine w_iv dX5_readTest_95 rfl rfl (As := []) rfl rfl hJ49.1.1 zs_2 (Nat.le_of_ble_eq_true rfl) ?_
            refine ZV.imp (k_1289 hN hJ49.1) ?_
            rintro _ ⟨M51, rfl, hJ52, hq53⟩
            have hJ54 := zJ_trans hJ49 hJ52 (zSub_cons (fun _ _ h h' hk => zIR_s (zIR_s (zIR_s (zIR_s (zIR_s (zIR_s (zIR_e (by omega) (by omega) hk))))))) zSub_nil)
            show ZW _ _ _ _ _ _ _ (98, [some (.ref 2), some (.int 1), some (.int v66_2), some (.int u66_3)], [], M51)
            refine w_inc (kk := 2) dX5_readTest_98 rfl (m := 1) (by decide) (by omega) ?_
            intro x55 h56
            refine ⟨_, rfl, ?_⟩
            show ZW _ _ _ _ _ _ _ (101, [some (.ref 2), some (.int 1), some (.int x55), some (.int u66_3)], [], M51)
            refine w_gt dX5_readTest_101 (t := 2) rfl ?_
            exact ih2 M51 x55 (some (.int u66_3)) hJ54 (by omega) (by omega) (by have := zt_1; omega)
        · skip
          refine w_ile_t dX5_readTest_67 (t := 82) rfl (by omega) ?_
          refine w_lo dX5_readTest_82 rfl rfl rfl rfl ?_
          refine w_iv dX5_readTest_83 rfl rfl (As := []) rfl rfl hJ.1.1 zs_2 (Nat.le_of_ble_eq_true rfl) ?_
          refine ZV.imp (k_1287 hN hJ.1) ?_
          rintro _ ⟨x60, M57, rfl, h61, h62, hJ58, hq59⟩
          have hJ63 := zJ_trans hJ hJ58 zSub_nil
          show ZW _ _ _ _ _ _ _ (86, [some (.ref 2), some (.int 1), some (.int v66_2), some (.int u66_3)], [.int x60], M57)
          refine w_bi dX5_readTest_86 (c := 21) (by decide) ?_
          rcases Int.decEq x60.toInt (21 : Int) with h64 | h64
          · skip
            refine w_ceq_f dX5_readTest_88 (t := 94) rfl (by have := zt_21; omega) ?_
            refine w_gt dX5_readTest_91 (t := 104) rfl ?_
            refine w_ic dX5_readTest_104 zi_1 ?_
            refine w_en dX5_readTest_105 rfl ?_
            exact ⟨_, _, rfl, (by have := zt_1; omega), (by have := zt_1; omega), hJ63, trivial⟩
          · skip
            refine w_ceq_t dX5_readTest_88 (t := 94) rfl (by have := zt_21; omega) ?_
            refine w_lo dX5_readTest_94 rfl rfl rfl rfl ?_
            refine w_iv dX5_readTest_95 rfl rfl (As := []) rfl rfl hJ63.1.1 zs_2 (Nat.le_of_ble_eq_true rfl) ?_
            refine ZV.imp (k_1289 hN hJ63.1) ?_
            rintro _ ⟨M65, rfl, hJ66, hq67⟩
            have hJ68 := zJ_trans hJ63 hJ66 (zSub_cons (fun _ _ h h' hk => zIR_s (zIR_s (zIR_s (zIR_s (zIR_s (zIR_s (zIR_e (by omega) (by omega) hk))))))) zSub_nil)
            show ZW _ _ _ _ _ _ _ (98, [some (.ref 2), some (.int 1), some (.int v66_2), some (.int u66_3)], [], M65)
            refine w_inc (kk := 2) dX5_readTest_98 rfl (m := 1) (by decide) (by omega) ?_
            intro x69 h70
            refine ⟨_, rfl, ?_⟩
            show ZW _ _ _ _ _ _ _ (101, [some (.ref 2), some (.int 1), some (.int x69), some (.int u66_3)], [], M65)
            refine w_gt dX5_readTest_101 (t := 2) rfl ?_
            exact ih2 M65 x69 (some (.int u66_3)) hJ68 (by omega) (by omega) (by have := zt_1; omega)
  obtain ⟨ih2, ih11, ih44, ih66⟩ := main 15436899
  show ZW _ _ _ _ _ _ _ (0, [some (.ref 2), some (.int 1), none, none], [], M0)
  refine w_ic dX5_readTest_0 zi_0 ?_
  refine w_lo (ml' := [some (.ref 2), some (.int 1), some (.int 0), none]) dX5_readTest_1 rfl rfl rfl rfl ?_
  exact ih2 M0 0 none hJ0 (by have := zt_0; omega) (by have := zt_0; omega) (by have := zt_1; have := zt_0; omega)
set_option maxRecDepth 100000 in
theorem k_1301_c0 {X : List Int32} {d N : Nat} {M0 : zM}  (hN : N ≤ 600) (hB0 : zB N M0) : ZV X (d + 20) 1301 [.ref 2, .int 0] M0 (zRI N [(2, 3, 0), (2, 3, 1), (20, 21, 1), (41, 42, 1), (21, 22, 1000), (42, 43, 1000), (2, 3, 7)] M0 (0) (1) (fun _ _ => True)) := by
  have hJ0 : zJ N [(2, 3, 0), (2, 3, 1), (20, 21, 1), (41, 42, 1), (21, 22, 1000), (42, 43, 1000), (2, 3, 7)] M0 M0 := zJ_refl hB0
  refine ZV.of (ini := false) rfl (Nat.le_of_ble_eq_true rfl) (by decide +kernel) ?_
  have main : ∀ n : Nat,
      (∀ (M : zM) (v2_2 : Int32) (o2_3 : Option Value), zJ N [(2, 3, 0), (2, 3, 1), (20, 21, 1), (41, 42, 1), (21, 22, 1000), (42, 43, 1000), (2, 3, 7)] M0 M → ((0 : Int) ≤ v2_2.toInt) → (v2_2.toInt ≤ 1601) → 5 * (1601 - v2_2.toInt) + 3 < (n : Int) → ZW X (d + 19) 5 false (some .boolean) cX5_readFact (zRI N [(2, 3, 0), (2, 3, 1), (20, 21, 1), (41, 42, 1), (21, 22, 1000), (42, 43, 1000), (2, 3, 7)] M0 (0) (1) (fun _ _ => True)) (2, [some (.ref 2), some (.int 0), some (.int v2_2), o2_3], [], M)) ∧
      (∀ (M : zM) (v28_2 : Int32) (o28_3 : Option Value), zJ N [(2, 3, 0), (2, 3, 1), (20, 21, 1), (41, 42, 1), (21, 22, 1000), (42, 43, 1000), (2, 3, 7)] M0 M → ((0 : Int) ≤ v28_2.toInt) → (v28_2.toInt ≤ 1601) → 2 < (n : Int) → ZW X (d + 19) 5 false (some .boolean) cX5_readFact (zRI N [(2, 3, 0), (2, 3, 1), (20, 21, 1), (41, 42, 1), (21, 22, 1000), (42, 43, 1000), (2, 3, 7)] M0 (0) (1) (fun _ _ => True)) (28, [some (.ref 2), some (.int 0), some (.int v28_2), o28_3], [], M)) ∧
      (∀ (M : zM) (v167_2 : Int32) (o167_3 : Option Value) (s167_0 : Int32), zJ N [(2, 3, 0), (2, 3, 1), (20, 21, 1), (41, 42, 1), (21, 22, 1000), (42, 43, 1000), (2, 3, 7)] M0 M → ((0 : Int) ≤ v167_2.toInt) → (v167_2.toInt ≤ 1601) → ((-16 : Int) ≤ s167_0.toInt) → (s167_0.toInt ≤ 0) → 1 < (n : Int) → ZW X (d + 19) 5 false (some .boolean) cX5_readFact (zRI N [(2, 3, 0), (2, 3, 1), (20, 21, 1), (41, 42, 1), (21, 22, 1000), (42, 43, 1000), (2, 3, 7)] M0 (0) (1) (fun _ _ => True)) (167, [some (.ref 2), some (.int 0), some (.int v167_2), o167_3], [.int s167_0], M)) := by
    intro n
    induction n with
    | zero =>
      exact ⟨(fun M v2_2 o2_3 hJ v2_20 v2_21 hn => absurd hn (by omega)), (fun M v28_2 o28_3 hJ v28_20 v28_21 hn => absurd hn (by omega)), (fun M v167_2 o167_3 s167_0 hJ v167_20 v167_21 s167_00 s167_01 hn => absurd hn (by omega))⟩
    | succ n ih =>
      obtain ⟨ih2, ih28, ih167⟩ := ih
      refine ⟨?_, ?_, ?_⟩
      · intro M v2_2 o2_3 hJ v2_20 v2_21 hn
        refine w_lo dX5_readFact_2 rfl rfl rfl rfl ?_
        refine w_si dX5_readFact_3 (c := 1600) (by decide) ?_
        rcases zcut (1600 : Int) v2_2.toInt with h1 | h1
        · skip
          refine w_cgt_t dX5_readFact_6 (t := 28) rfl (by have := zt_1600; omega) ?_
          exact ih28 M v2_2 o2_3 hJ (by omega) (by omega) (by have := zt_0; omega)
        · skip
          refine w_cgt_f dX5_readFact_6 (t := 28) rfl (by have := zt_1600; omega) ?_
          refine w_lo dX5_readFact_9 rfl rfl rfl rfl ?_
          refine w_iv dX5_readFact_10 rfl rfl (As := []) rfl rfl hJ.1.1 zs_2 (Nat.le_of_ble_eq_true rfl) ?_
          refine ZV.imp (k_1287 hN hJ.1) ?_
          rintro _ ⟨x5, M2, rfl, h6, h7, hJ3, hq4⟩
          have hJ8 := zJ_trans hJ hJ3 zSub_nil
          show ZW _ _ _ _ _ _ _ (13, [some (.ref 2), some (.int 0), some (.int v2_2), o2_3], [.int x5], M2)
          refine w_bi dX5_readFact_13 (c := 23) (by decide) ?_
          rcases Int.decEq x5.toInt (23 : Int) with h9 | h9
          · skip
            refine w_cne_t dX5_readFact_15 (t := 28) rfl (by have := zt_23; omega) ?_
            exact ih28 M2 v2_2 o2_3 hJ8 (by omega) (by omega) (by have := zt_0; omega)
          · skip
            refine w_cne_f dX5_readFact_15 (t := 28) rfl (by have := zt_23; omega) ?_
            refine w_lo dX5_readFact_18 rfl rfl rfl rfl ?_
            refine w_iv dX5_readFact_19 rfl rfl (As := []) rfl rfl hJ8.1.1 zs_2 (Nat.le_of_ble_eq_true rfl) ?_
            refine ZV.imp (k_1289 hN hJ8.1) ?_
            rintro _ ⟨M10, rfl, hJ11, hq12⟩
            have hJ13 := zJ_trans hJ8 hJ11 (zSub_cons (fun _ _ h h' hk => zIR_s (zIR_s (zIR_s (zIR_s (zIR_s (zIR_s (zIR_e (by omega) (by omega) hk))))))) zSub_nil)
            show ZW _ _ _ _ _ _ _ (22, [some (.ref 2), some (.int 0), some (.int v2_2), o2_3], [], M10)
            refine w_inc (kk := 2) dX5_readFact_22 rfl (m := 1) (by decide) (by omega) ?_
            intro x14 h15
            refine ⟨_, rfl, ?_⟩
            show ZW _ _ _ _ _ _ _ (25, [some (.ref 2), some (.int 0), some (.int x14), o2_3], [], M10)
            refine w_gt dX5_readFact_25 (t := 2) rfl ?_
            exact ih2 M10 x14 o2_3 hJ13 (by omega) (by omega) (by have := zt_0; omega)
      · intro M v28_2 o28_3 hJ v28_20 v28_21 hn
        refine w_lo dX5_readFact_28 rfl rfl rfl rfl ?_
        refine w_bi dX5_readFact_29 (c := 91) (by decide) ?_
        refine w_iv dX5_readFact_31 rfl rfl (As := [.int 91]) rfl rfl hJ.1.1 zs_2 (Nat.le_of_ble_eq_true rfl) ?_
        refine ZV.imp (k_1299 91 (by have := zt_91; omega) (by have := zt_91; omega) hN hJ.1) ?_
        rintro _ ⟨x19, M16, rfl, h20, h21, hJ17, hq18⟩
        have hJ22 := zJ_trans hJ hJ17 zSub_nil
        show ZW _ _ _ _ _ _ _ (34, [some (.ref 2), some (.int 0), some (.int v28_2), o28_3], [.int x19], M16)
        rcases Int.decEq x19.toInt (0 : Int) with h23 | h23
        · skip
          refine w_ieq_f dX5_readFact_34 (t := 87) rfl (by omega) ?_
          refine w_lo dX5_readFact_37 rfl rfl rfl rfl ?_
          refine w_bi dX5_readFact_38 (c := 8) (by decide) ?_
          refine w_clt_t dX5_readFact_40 (t := 49) rfl (by have := zt_0; have := zt_8; omega) ?_
          refine w_lo dX5_readFact_49 rfl rfl rfl rfl ?_
          refine w_iv dX5_readFact_50 rfl rfl (As := []) rfl rfl hJ22.1.1 zs_2 (Nat.le_of_ble_eq_true rfl) ?_
          refine ZV.imp (k_1289 hN hJ22.1) ?_
          rintro _ ⟨M24, rfl, hJ25, hq26⟩
          have hJ27 := zJ_trans hJ22 hJ25 (zSub_cons (fun _ _ h h' hk => zIR_s (zIR_s (zIR_s (zIR_s (zIR_s (zIR_s (zIR_e (by omega) (by omega) hk))))))) zSub_nil)
          show ZW _ _ _ _ _ _ _ (53, [some (.ref 2), some (.int 0), some (.int v28_2), o28_3], [], M24)
          refine w_lo dX5_readFact_53 rfl rfl rfl rfl ?_
          refine w_lo dX5_readFact_54 rfl rfl rfl rfl ?_
          refine w_ic dX5_readFact_55 zi_1 ?_
          refine w_pu (st' := [.int 1, .ref 2]) dX5_readFact_56 rfl rfl ?_
          refine w_iv dX5_readFact_57 rfl rfl (As := [.int 1]) rfl rfl hJ27.1.1 zs_2 (Nat.le_of_ble_eq_true rfl) ?_
          refine ZV.imp (k_1300_c1 hN hJ27.1) ?_
          rintro _ ⟨x31, M28, rfl, h32, h33, hJ29, hq30⟩
          have hJ34 := zJ_trans hJ27 hJ29 (zSub_cons (fun _ _ h h' hk => zIR_e (by omega) (by omega) hk) (zSub_cons (fun _ _ h h' hk => zIR_s (zIR_e (by omega) (by omega) hk)) (zSub_cons (fun _ _ h h' hk => zIR_s (zIR_s (zIR_e (by omega) (by omega) hk))) (zSub_cons (fun _ _ h h' hk => zIR_s (zIR_s (zIR_s (zIR_e (by omega) (by omega) hk)))) (zSub_cons (fun _ _ h h' hk => zIR_s (zIR_s (zIR_s (zIR_s (zIR_a (by omega) (by omega)))))) (zSub_cons (fun _ _ h h' hk => zIR_s (zIR_s (zIR_s (zIR_s (zIR_s (zIR_a (by omega) (by omega))))))) (zSub_cons (fun _ _ h h' hk => zIR_s (zIR_s (zIR_s (zIR_s (zIR_s (zIR_s (zIR_e (by omega) (by omega) hk))))))) zSub_nil)))))))
          show ZW _ _ _ _ _ _ _ (60, [some (.ref 2), some (.int 0), some (.int v28_2), o28_3], [.int x31], M28)
          rcases Int.decEq x31.toInt (0 : Int) with h35 | h35
          · skip
            refine w_ine_t dX5_readFact_60 (t := 65) rfl (by omega) ?_
            refine w_lo dX5_readFact_65 rfl rfl rfl rfl ?_
            refine w_bi dX5_readFact_66 (c := 93) (by decide) ?_
            refine w_iv dX5_readFact_68 rfl rfl (As := [.int 93]) rfl rfl hJ34.1.1 zs_2 (Nat.le_of_ble_eq_true rfl) ?_
            refine ZV.imp (k_1299 93 (by have := zt_93; omega) (by have := zt_93; omega) hN hJ34.1) ?_
            rintro _ ⟨x39, M36, rfl, h40, h41, hJ37, hq38⟩
            have hJ42 := zJ_trans hJ34 hJ37 zSub_nil
            show ZW _ _ _ _ _ _ _ (71, [some (.ref 2), some (.int 0), some (.int v28_2), o28_3], [.int x39], M36)
            rcases Int.decEq x39.toInt (0 : Int) with h43 | h43
            · skip
              refine w_ine_t dX5_readFact_71 (t := 80) rfl (by omega) ?_
              refine w_lo dX5_readFact_80 rfl rfl rfl rfl ?_
              refine w_iv dX5_readFact_81 rfl rfl (As := []) rfl rfl hJ42.1.1 zs_2 (Nat.le_of_ble_eq_true rfl) ?_
              refine ZV.imp (k_1289 hN hJ42.1) ?_
              rintro _ ⟨M44, rfl, hJ45, hq46⟩
              have hJ47 := zJ_trans hJ42 hJ45 (zSub_cons (fun _ _ h h' hk => zIR_s (zIR_s (zIR_s (zIR_s (zIR_s (zIR_s (zIR_e (by omega) (by omega) hk))))))) zSub_nil)
              show ZW _ _ _ _ _ _ _ (84, [some (.ref 2), some (.int 0), some (.int v28_2), o28_3], [], M44)
              refine w_gt dX5_readFact_84 (t := 203) rfl ?_
              refine w_lo dX5_readFact_203 rfl rfl rfl rfl ?_
              refine w_ic dX5_readFact_204 zi_2 ?_
              refine w_remP dX5_readFact_205 (by omega) (by have := zt_2; omega) ?_
              intro x48 h49 h50 h51
              have := zt_2
              refine w_ic dX5_readFact_206 zi_1 ?_
              rcases Int.decEq x48.toInt (1 : Int) with h52 | h52
              · skip
                refine w_cne_t dX5_readFact_207 (t := 222) rfl (by have := zt_1; omega) ?_
                refine w_ic dX5_readFact_222 zi_1 ?_
                refine w_en dX5_readFact_223 rfl ?_
                exact ⟨_, _, rfl, (by have := zt_1; omega), (by have := zt_1; omega), hJ47, trivial⟩
              · skip
                refine w_cne_f dX5_readFact_207 (t := 222) rfl (by have := zt_1; omega) ?_
                refine w_lo dX5_readFact_210 rfl rfl rfl rfl ?_
                obtain ⟨b53, f54, h55⟩ := zd_2_8 hJ47.1
                have h56 := zDm_b h55
                refine w_gf dX5_readFact_211 rfl hJ47.1.1 zs_2 f54 ?_
                refine w_gf dX5_readFact_214 rfl hJ47.1.1 (zs_1_0 h55) (zr_1_0_15 h55 hJ47.1) ?_
                refine w_bi dX5_readFact_217 (c := (-8)) (by decide) ?_
                refine w_iv dX5_readFact_219 rfl rfl (As := [.int (-8)]) rfl rfl hJ47.1.1 (zs_1_13 h55) (Nat.le_of_ble_eq_true rfl) ?_
                refine ZV.imp (k_515 (b53 + 13) (zLw_of h55) (-8) hN hJ47.1) ?_
                rintro _ ⟨M57, rfl, hJ58, hq59⟩
                have hJ60 := zJ_trans hJ47 hJ58 (zSub_cons (fun _ _ h h' hk => ((zDm_or h55).elim (fun e => zIR_s (zIR_s (zIR_e (by omega) (by omega) hk))) (fun e => zIR_s (zIR_s (zIR_s (zIR_e (by omega) (by omega) hk)))))) (zSub_cons (fun _ _ h h' hk => ((zDm_or h55).elim (fun e => zIR_s (zIR_s (zIR_s (zIR_s (zIR_a (by omega) (by omega)))))) (fun e => zIR_s (zIR_s (zIR_s (zIR_s (zIR_s (zIR_a (by omega) (by omega))))))))) zSub_nil))
                show ZW _ _ _ _ _ _ _ (222, [some (.ref 2), some (.int 0), some (.int v28_2), o28_3], [], M57)
                refine w_ic dX5_readFact_222 zi_1 ?_
                refine w_en dX5_readFact_223 rfl ?_
                exact ⟨_, _, rfl, (by have := zt_1; omega), (by have := zt_1; omega), hJ60, trivial⟩
            · skip
              refine w_ine_f dX5_readFact_71 (t := 80) rfl (by omega) ?_
              refine w_lo dX5_readFact_74 rfl rfl rfl rfl ?_
              refine w_ic dX5_readFact_75 zi_1 ?_
              refine w_iv dX5_readFact_76 rfl rfl (As := [.int 1]) rfl rfl hJ42.1.1 zs_2 (Nat.le_of_ble_eq_true rfl) ?_
              refine ZV.imp (k_1286 1 (by have := zt_1; omega) (by have := zt_1; omega) hN hJ42.1) ?_
              rintro _ ⟨x64, M61, rfl, h65, h66, hJ62, hq63⟩
              have hJ67 := zJ_trans hJ42 hJ62 (zSub_cons (fun _ _ h h' hk => zIR_e (by omega) (by omega) hk) (zSub_cons (fun _ _ h h' hk => zIR_s (zIR_e (by omega) (by omega) hk)) zSub_nil))
              show ZW _ _ _ _ _ _ _ (79, [some (.ref 2), some (.int 0), some (.int v28_2), o28_3], [.int x64], M61)
              refine w_eni dX5_readFact_79 rfl (znb (by omega) (by omega)) ?_
              exact ⟨_, _, rfl, (by omega), (by omega), hJ67, trivial⟩
          · skip
            refine w_ine_f dX5_readFact_60 (t := 65) rfl (by omega) ?_
            refine w_ic dX5_readFact_63 zi_0 ?_
            refine w_en dX5_readFact_64 rfl ?_
            exact ⟨_, _, rfl, (by have := zt_0; omega), (by have := zt_0; omega), hJ34, trivial⟩
        · skip
          refine w_ieq_t dX5_readFact_34 (t := 87) rfl (by omega) ?_
          refine w_lo dX5_readFact_87 rfl rfl rfl rfl ?_
          refine w_iv dX5_readFact_88 rfl rfl (As := []) rfl rfl hJ22.1.1 zs_2 (Nat.le_of_ble_eq_true rfl) ?_
          refine ZV.imp (k_1287 hN hJ22.1) ?_
          rintro _ ⟨x71, M68, rfl, h72, h73, hJ69, hq70⟩
          have hJ74 := zJ_trans hJ22 hJ69 zSub_nil
          show ZW _ _ _ _ _ _ _ (91, [some (.ref 2), some (.int 0), some (.int v28_2), o28_3], [.int x71], M68)
          refine w_bi dX5_readFact_91 (c := 24) (by decide) ?_
          rcases Int.decEq x71.toInt (24 : Int) with h75 | h75
          · skip
            refine w_cne_t dX5_readFact_93 (t := 114) rfl (by have := zt_24; omega) ?_
            refine w_lo dX5_readFact_114 rfl rfl rfl rfl ?_
            refine w_lo dX5_readFact_115 rfl rfl rfl rfl ?_
            refine w_iv dX5_readFact_116 rfl rfl (As := [.int 0]) rfl rfl hJ74.1.1 zs_2 (Nat.le_of_ble_eq_true rfl) ?_
            refine ZV.imp (k_1297_c0 hN hJ74.1) ?_
            rintro _ ⟨x79, M76, rfl, h80, h81, hJ77, hq78⟩
            have hJ82 := zJ_trans hJ74 hJ77 (zSub_cons (fun _ _ h h' hk => zIR_e (by omega) (by omega) hk) (zSub_cons (fun _ _ h h' hk => zIR_s (zIR_e (by omega) (by omega) hk)) (zSub_cons (fun _ _ h h' hk => zIR_s (zIR_s (zIR_e (by omega) (by omega) hk))) (zSub_cons (fun _ _ h h' hk => zIR_s (zIR_s (zIR_s (zIR_e (by omega) (by omega) hk)))) (zSub_cons (fun _ _ h h' hk => zIR_s (zIR_s (zIR_s (zIR_s (zIR_a (by omega) (by omega)))))) (zSub_cons (fun _ _ h h' hk => zIR_s (zIR_s (zIR_s (zIR_s (zIR_s (zIR_a (by omega) (by omega))))))) (zSub_cons (fun _ _ h h' hk => zIR_s (zIR_s (zIR_s (zIR_s (zIR_s (zIR_s (zIR_e (by omega) (by omega) hk))))))) zSub_nil)))))))
            show ZW _ _ _ _ _ _ _ (119, [some (.ref 2), some (.int 0), some (.int v28_2), o28_3], [.int x79], M76)
            rcases Int.decEq x79.toInt (0 : Int) with h83 | h83
            · skip
              refine w_ine_t dX5_readFact_119 (t := 124) rfl (by omega) ?_
              refine w_lo dX5_readFact_124 rfl rfl rfl rfl ?_
              refine w_bi dX5_readFact_125 (c := 60) (by decide) ?_
              refine w_iv dX5_readFact_127 rfl rfl (As := [.int 60]) rfl rfl hJ82.1.1 zs_2 (Nat.le_of_ble_eq_true rfl) ?_
              refine ZV.imp (k_1299 60 (by have := zt_60; omega) (by have := zt_60; omega) hN hJ82.1) ?_
              rintro _ ⟨x87, M84, rfl, h88, h89, hJ85, hq86⟩
              have hJ90 := zJ_trans hJ82 hJ85 zSub_nil
              show ZW _ _ _ _ _ _ _ (130, [some (.ref 2), some (.int 0), some (.int v28_2), o28_3], [.int x87], M84)
              rcases Int.decEq x87.toInt (0 : Int) with h91 | h91
              · skip
                refine w_ieq_f dX5_readFact_130 (t := 138) rfl (by omega) ?_
                refine w_bi dX5_readFact_133 (c := (-14)) (by decide) ?_
                refine w_gt dX5_readFact_135 (t := 167) rfl ?_
                exact ih167 M84 v28_2 o28_3 (-14) hJ90 (by omega) (by omega) (by have := zt_m14; omega) (by have := zt_m14; omega) (by have := zt_0; have := zt_m14; omega)
              · skip
                refine w_ieq_t dX5_readFact_130 (t := 138) rfl (by omega) ?_
                refine w_lo dX5_readFact_138 rfl rfl rfl rfl ?_
                refine w_bi dX5_readFact_139 (c := 62) (by decide) ?_
                refine w_iv dX5_readFact_141 rfl rfl (As := [.int 62]) rfl rfl hJ90.1.1 zs_2 (Nat.le_of_ble_eq_true rfl) ?_
                refine ZV.imp (k_1299 62 (by have := zt_62; omega) (by have := zt_62; omega) hN hJ90.1) ?_
                rintro _ ⟨x95, M92, rfl, h96, h97, hJ93, hq94⟩
                have hJ98 := zJ_trans hJ90 hJ93 zSub_nil
                show ZW _ _ _ _ _ _ _ (144, [some (.ref 2), some (.int 0), some (.int v28_2), o28_3], [.int x95], M92)
                rcases Int.decEq x95.toInt (0 : Int) with h99 | h99
                · skip
                  refine w_ieq_f dX5_readFact_144 (t := 152) rfl (by omega) ?_
                  refine w_bi dX5_readFact_147 (c := (-15)) (by decide) ?_
                  refine w_gt dX5_readFact_149 (t := 167) rfl ?_
                  exact ih167 M92 v28_2 o28_3 (-15) hJ98 (by omega) (by omega) (by have := zt_m15; omega) (by have := zt_m15; omega) (by have := zt_0; have := zt_m15; omega)
                · skip
                  refine w_ieq_t dX5_readFact_144 (t := 152) rfl (by omega) ?_
                  refine w_lo dX5_readFact_152 rfl rfl rfl rfl ?_
                  refine w_bi dX5_readFact_153 (c := 61) (by decide) ?_
                  refine w_iv dX5_readFact_155 rfl rfl (As := [.int 61]) rfl rfl hJ98.1.1 zs_2 (Nat.le_of_ble_eq_true rfl) ?_
                  refine ZV.imp (k_1299 61 (by have := zt_61; omega) (by have := zt_61; omega) hN hJ98.1) ?_
                  rintro _ ⟨x103, M100, rfl, h104, h105, hJ101, hq102⟩
                  have hJ106 := zJ_trans hJ98 hJ101 zSub_nil
                  show ZW _ _ _ _ _ _ _ (158, [some (.ref 2), some (.int 0), some (.int v28_2), o28_3], [.int x103], M100)
                  rcases Int.decEq x103.toInt (0 : Int) with h107 | h107
                  · skip
                    refine w_ieq_f dX5_readFact_158 (t := 166) rfl (by omega) ?_
                    refine w_bi dX5_readFact_161 (c := (-16)) (by decide) ?_
                    refine w_gt dX5_readFact_163 (t := 167) rfl ?_
                    exact ih167 M100 v28_2 o28_3 (-16) hJ106 (by omega) (by omega) (by have := zt_m16; omega) (by have := zt_m16; omega) (by have := zt_0; have := zt_m16; omega)
                  · skip
                    refine w_ieq_t dX5_readFact_158 (t := 166) rfl (by omega) ?_
                    refine w_ic dX5_readFact_166 zi_0 ?_
                    exact ih167 M100 v28_2 o28_3 0 hJ106 (by omega) (by omega) (by have := zt_0; omega) (by have := zt_0; omega) (by have := zt_0; omega)
            · skip
              refine w_ine_f dX5_readFact_119 (t := 124) rfl (by omega) ?_
              refine w_ic dX5_readFact_122 zi_0 ?_
              refine w_en dX5_readFact_123 rfl ?_
              exact ⟨_, _, rfl, (by have := zt_0; omega), (by have := zt_0; omega), hJ82, trivial⟩
          · skip
            refine w_cne_f dX5_readFact_93 (t := 114) rfl (by have := zt_24; omega) ?_
            refine w_lo dX5_readFact_96 rfl rfl rfl rfl ?_
            refine w_iv dX5_readFact_97 rfl rfl (As := []) rfl rfl hJ74.1.1 zs_2 (Nat.le_of_ble_eq_true rfl) ?_
            refine ZV.imp (k_1289 hN hJ74.1) ?_
            rintro _ ⟨M108, rfl, hJ109, hq110⟩
            have hJ111 := zJ_trans hJ74 hJ109 (zSub_cons (fun _ _ h h' hk => zIR_s (zIR_s (zIR_s (zIR_s (zIR_s (zIR_s (zIR_e (by omega) (by omega) hk))))))) zSub_nil)
            show ZW _ _ _ _ _ _ _ (100, [some (.ref 2), some (.int 0), some (.int v28_2), o28_3], [], M108)
            refine w_lo dX5_readFact_100 rfl rfl rfl rfl ?_
            obtain ⟨b112, f113, h114⟩ := zd_2_8 hJ111.1
            have h115 := zDm_b h114
            refine w_gf dX5_readFact_101 rfl hJ111.1.1 zs_2 f113 ?_
            refine w_gf dX5_readFact_104 rfl hJ111.1.1 (zs_1_0 h114) (zr_1_0_15 h114 hJ111.1) ?_
            refine w_ic dX5_readFact_107 zi_1 ?_
            refine w_iv dX5_readFact_108 rfl rfl (As := [.int 1]) rfl rfl hJ111.1.1 (zs_1_13 h114) (Nat.le_of_ble_eq_true rfl) ?_
            refine ZV.imp (k_515 (b112 + 13) (zLw_of h114) 1 hN hJ111.1) ?_
            rintro _ ⟨M116, rfl, hJ117, hq118⟩
            have hJ119 := zJ_trans hJ111 hJ117 (zSub_cons (fun _ _ h h' hk => ((zDm_or h114).elim (fun e => zIR_s (zIR_s (zIR_e (by omega) (by omega) hk))) (fun e => zIR_s (zIR_s (zIR_s (zIR_e (by omega) (by omega) hk)))))) (zSub_cons (fun _ _ h h' hk => ((zDm_or h114).elim (fun e => zIR_s (zIR_s (zIR_s (zIR_s (zIR_a (by omega) (by omega)))))) (fun e => zIR_s (zIR_s (zIR_s (zIR_s (zIR_s (zIR_a (by omega) (by omega))))))))) zSub_nil))
            show ZW _ _ _ _ _ _ _ (111, [some (.ref 2), some (.int 0), some (.int v28_2), o28_3], [], M116)
            refine w_gt dX5_readFact_111 (t := 203) rfl ?_
            refine w_lo dX5_readFact_203 rfl rfl rfl rfl ?_
            refine w_ic dX5_readFact_204 zi_2 ?_
            refine w_remP dX5_readFact_205 (by omega) (by have := zt_2; omega) ?_
            intro x120 h121 h122 h123
            have := zt_2
            refine w_ic dX5_readFact_206 zi_1 ?_
            rcases Int.decEq x120.toInt (1 : Int) with h124 | h124
            · skip
              refine w_cne_t dX5_readFact_207 (t := 222) rfl (by have := zt_1; omega) ?_
              refine w_ic dX5_readFact_222 zi_1 ?_
              refine w_en dX5_readFact_223 rfl ?_
              exact ⟨_, _, rfl, (by have := zt_1; omega), (by have := zt_1; omega), hJ119, trivial⟩
            · skip
              refine w_cne_f dX5_readFact_207 (t := 222) rfl (by have := zt_1; omega) ?_
              refine w_lo dX5_readFact_210 rfl rfl rfl rfl ?_
              have f125 := (hJ117.2 (2) 8 (zNI_k (by decide) (by decide) (zNI (by omega) zNI_nil))).trans (f113)
              refine w_gf dX5_readFact_211 rfl hJ119.1.1 zs_2 f125 ?_
              refine w_gf dX5_readFact_214 rfl hJ119.1.1 (zs_1_0 h114) (zr_1_0_15 h114 hJ119.1) ?_
              refine w_bi dX5_readFact_217 (c := (-8)) (by decide) ?_
              refine w_iv dX5_readFact_219 rfl rfl (As := [.int (-8)]) rfl rfl hJ119.1.1 (zs_1_13 h114) (Nat.le_of_ble_eq_true rfl) ?_
              refine ZV.imp (k_515 (b112 + 13) (zLw_of h114) (-8) hN hJ119.1) ?_
              rintro _ ⟨M126, rfl, hJ127, hq128⟩
              have hJ129 := zJ_trans hJ119 hJ127 (zSub_cons (fun _ _ h h' hk => ((zDm_or h114).elim (fun e => zIR_s (zIR_s (zIR_e (by omega) (by omega) hk))) (fun e => zIR_s (zIR_s (zIR_s (zIR_e (by omega) (by omega) hk)))))) (zSub_cons (fun _ _ h h' hk => ((zDm_or h114).elim (fun e => zIR_s (zIR_s (zIR_s (zIR_s (zIR_a (by omega) (by omega)))))) (fun e => zIR_s (zIR_s (zIR_s (zIR_s (zIR_s (zIR_a (by omega) (by omega))))))))) zSub_nil))
              show ZW _ _ _ _ _ _ _ (222, [some (.ref 2), some (.int 0), some (.int v28_2), o28_3], [], M126)
              refine w_ic dX5_readFact_222 zi_1 ?_
              refine w_en dX5_readFact_223 rfl ?_
              exact ⟨_, _, rfl, (by have := zt_1; omega), (by have := zt_1; omega), hJ129, trivial⟩
      · intro M v167_2 o167_3 s167_0 hJ v167_20 v167_21 s167_00 s167_01 hn
        refine w_lo (ml' := [some (.ref 2), some (.int 0), some (.int v167_2), some (.int s167_0)]) dX5_readFact_167 rfl rfl rfl rfl ?_
        refine w_lo dX5_readFact_168 rfl rfl rfl rfl ?_
        rcases Int.decEq s167_0.toInt (0 : Int) with h130 | h130
        · skip
          refine w_ine_t dX5_readFact_169 (t := 178) rfl (by omega) ?_
          refine w_lo dX5_readFact_178 rfl rfl rfl rfl ?_
          refine w_iv dX5_readFact_179 rfl rfl (As := []) rfl rfl hJ.1.1 zs_2 (Nat.le_of_ble_eq_true rfl) ?_
          refine ZV.imp (k_1289 hN hJ.1) ?_
          rintro _ ⟨M131, rfl, hJ132, hq133⟩
          have hJ134 := zJ_trans hJ hJ132 (zSub_cons (fun _ _ h h' hk => zIR_s (zIR_s (zIR_s (zIR_s (zIR_s (zIR_s (zIR_e (by omega) (by omega) hk))))))) zSub_nil)
          show ZW _ _ _ _ _ _ _ (182, [some (.ref 2), some (.int 0), some (.int v167_2), some (.int s167_0)], [], M131)
          refine w_lo dX5_readFact_182 rfl rfl rfl rfl ?_
          refine w_lo dX5_readFact_183 rfl rfl rfl rfl ?_
          refine w_iv dX5_readFact_184 rfl rfl (As := [.int 0]) rfl rfl hJ134.1.1 zs_2 (Nat.le_of_ble_eq_true rfl) ?_
          refine ZV.imp (k_1297_c0 hN hJ134.1) ?_
          rintro _ ⟨x138, M135, rfl, h139, h140, hJ136, hq137⟩
          have hJ141 := zJ_trans hJ134 hJ136 (zSub_cons (fun _ _ h h' hk => zIR_e (by omega) (by omega) hk) (zSub_cons (fun _ _ h h' hk => zIR_s (zIR_e (by omega) (by omega) hk)) (zSub_cons (fun _ _ h h' hk => zIR_s (zIR_s (zIR_e (by omega) (by omega) hk))) (zSub_cons (fun _ _ h h' hk => zIR_s (zIR_s (zIR_s (zIR_e (by omega) (by omega) hk)))) (zSub_cons (fun _ _ h h' hk => zIR_s (zIR_s (zIR_s (zIR_s (zIR_a (by omega) (by omega)))))) (zSub_cons (fun _ _ h h' hk => zIR_s (zIR_s (zIR_s (zIR_s (zIR_s (zIR_a (by omega) (by omega))))))) (zSub_cons (fun _ _ h h' hk => zIR_s (zIR_s (zIR_s (zIR_s (zIR_s (zIR_s (zIR_e (by omega) (by omega) hk))))))) zSub_nil)))))))
          show ZW _ _ _ _ _ _ _ (187, [some (.ref 2), some (.int 0), some (.int v167_2), some (.int s167_0)], [.int x138], M135)
          rcases Int.decEq x138.toInt (0 : Int) with h142 | h142
          · skip
            refine w_ine_t dX5_readFact_187 (t := 192) rfl (by omega) ?_
            refine w_lo dX5_readFact_192 rfl rfl rfl rfl ?_
            obtain ⟨b143, f144, h145⟩ := zd_2_8 hJ141.1
            have h146 := zDm_b h145
            refine w_gf dX5_readFact_193 rfl hJ141.1.1 zs_2 f144 ?_
            refine w_gf dX5_readFact_196 rfl hJ141.1.1 (zs_1_0 h145) (zr_1_0_15 h145 hJ141.1) ?_
            refine w_lo dX5_readFact_199 rfl rfl rfl rfl ?_
            refine w_iv dX5_readFact_200 rfl rfl (As := [.int s167_0]) rfl rfl hJ141.1.1 (zs_1_13 h145) (Nat.le_of_ble_eq_true rfl) ?_
            refine ZV.imp (k_515 (b143 + 13) (zLw_of h145) s167_0 hN hJ141.1) ?_
            rintro _ ⟨M147, rfl, hJ148, hq149⟩
            have hJ150 := zJ_trans hJ141 hJ148 (zSub_cons (fun _ _ h h' hk => ((zDm_or h145).elim (fun e => zIR_s (zIR_s (zIR_e (by omega) (by omega) hk))) (fun e => zIR_s (zIR_s (zIR_s (zIR_e (by omega) (by omega) hk)))))) (zSub_cons (fun _ _ h h' hk => ((zDm_or h145).elim (fun e => zIR_s (zIR_s (zIR_s (zIR_s (zIR_a (by omega) (by omega)))))) (fun e => zIR_s (zIR_s (zIR_s (zIR_s (zIR_s (zIR_a (by omega) (by omega))))))))) zSub_nil))
            show ZW _ _ _ _ _ _ _ (203, [some (.ref 2), some (.int 0), some (.int v167_2), some (.int s167_0)], [], M147)
            refine w_lo dX5_readFact_203 rfl rfl rfl rfl ?_
            refine w_ic dX5_readFact_204 zi_2 ?_
            refine w_remP dX5_readFact_205 (by omega) (by have := zt_2; omega) ?_
            intro x151 h152 h153 h154
            have := zt_2
            refine w_ic dX5_readFact_206 zi_1 ?_
            rcases Int.decEq x151.toInt (1 : Int) with h155 | h155
            · skip
              refine w_cne_t dX5_readFact_207 (t := 222) rfl (by have := zt_1; omega) ?_
              refine w_ic dX5_readFact_222 zi_1 ?_
              refine w_en dX5_readFact_223 rfl ?_
              exact ⟨_, _, rfl, (by have := zt_1; omega), (by have := zt_1; omega), hJ150, trivial⟩
            · skip
              refine w_cne_f dX5_readFact_207 (t := 222) rfl (by have := zt_1; omega) ?_
              refine w_lo dX5_readFact_210 rfl rfl rfl rfl ?_
              have f156 := (hJ148.2 (2) 8 (zNI_k (by decide) (by decide) (zNI (by omega) zNI_nil))).trans (f144)
              refine w_gf dX5_readFact_211 rfl hJ150.1.1 zs_2 f156 ?_
              refine w_gf dX5_readFact_214 rfl hJ150.1.1 (zs_1_0 h145) (zr_1_0_15 h145 hJ150.1) ?_
              refine w_bi dX5_readFact_217 (c := (-8)) (by decide) ?_
              refine w_iv dX5_readFact_219 rfl rfl (As := [.int (-8)]) rfl rfl hJ150.1.1 (zs_1_13 h145) (Nat.le_of_ble_eq_true rfl) ?_
              refine ZV.imp (k_515 (b143 + 13) (zLw_of h145) (-8) hN hJ150.1) ?_
              rintro _ ⟨M157, rfl, hJ158, hq159⟩
              have hJ160 := zJ_trans hJ150 hJ158 (zSub_cons (fun _ _ h h' hk => ((zDm_or h145).elim (fun e => zIR_s (zIR_s (zIR_e (by omega) (by omega) hk))) (fun e => zIR_s (zIR_s (zIR_s (zIR_e (by omega) (by omega) hk)))))) (zSub_cons (fun _ _ h h' hk => ((zDm_or h145).elim (fun e => zIR_s (zIR_s (zIR_s (zIR_s (zIR_a (by omega) (by omega)))))) (fun e => zIR_s (zIR_s (zIR_s (zIR_s (zIR_s (zIR_a (by omega) (by omega))))))))) zSub_nil))
              show ZW _ _ _ _ _ _ _ (222, [some (.ref 2), some (.int 0), some (.int v167_2), some (.int s167_0)], [], M157)
              refine w_ic dX5_readFact_222 zi_1 ?_
              refine w_en dX5_readFact_223 rfl ?_
              exact ⟨_, _, rfl, (by have := zt_1; omega), (by have := zt_1; omega), hJ160, trivial⟩
          · skip
            refine w_ine_f dX5_readFact_187 (t := 192) rfl (by omega) ?_
            refine w_ic dX5_readFact_190 zi_0 ?_
            refine w_en dX5_readFact_191 rfl ?_
            exact ⟨_, _, rfl, (by have := zt_0; omega), (by have := zt_0; omega), hJ141, trivial⟩
        · skip
          refine w_ine_f dX5_readFact_169 (t := 178) rfl (by omega) ?_
          refine w_lo dX5_readFact_172 rfl rfl rfl rfl ?_
          refine w_ic dX5_readFact_173 zi_1 ?_
          refine w_iv dX5_readFact_174 rfl rfl (As := [.int 1]) rfl rfl hJ.1.1 zs_2 (Nat.le_of_ble_eq_true rfl) ?_
          refine ZV.imp (k_1286 1 (by have := zt_1; omega) (by have := zt_1; omega) hN hJ.1) ?_
          rintro _ ⟨x164, M161, rfl, h165, h166, hJ162, hq163⟩
          have hJ167 := zJ_trans hJ hJ162 (zSub_cons (fun _ _ h h' hk => zIR_e (by omega) (by omega) hk) (zSub_cons (fun _ _ h h' hk => zIR_s (zIR_e (by omega) (by omega) hk)) zSub_nil))
          show ZW _ _ _ _ _ _ _ (177, [some (.ref 2), some (.int 0), some (.int v167_2), some (.int s167_0)], [.int x164], M161)
          refine w_eni dX5_readFact_177 rfl (znb (by omega) (by omega)) ?_
          exact ⟨_, _, rfl, (by omega), (by omega), hJ167, trivial⟩
  obtain ⟨ih2, ih28, ih167⟩ := main 8023
  show ZW _ _ _ _ _ _ _ (0, [some (.ref 2), some (.int 0), none, none], [], M0)
  refine w_ic dX5_readFact_0 zi_0 ?_
  refine w_lo (ml' := [some (.ref 2), some (.int 0), some (.int 0), none]) dX5_readFact_1 rfl rfl rfl rfl ?_
  exact ih2 M0 0 none hJ0 (by have := zt_0; omega) (by have := zt_0; omega) (by have := zt_0; omega)
set_option maxRecDepth 100000 in
theorem k_1300_c0 {X : List Int32} {d N : Nat} {M0 : zM}  (hN : N ≤ 600) (hB0 : zB N M0) : ZV X (d + 21) 1300 [.ref 2, .int 0] M0 (zRI N [(2, 3, 0), (2, 3, 1), (20, 21, 1), (41, 42, 1), (21, 22, 1000), (42, 43, 1000), (2, 3, 7)] M0 (0) (1) (fun _ _ => True)) := by
  have hJ0 : zJ N [(2, 3, 0), (2, 3, 1), (20, 21, 1), (41, 42, 1), (21, 22, 1000), (42, 43, 1000), (2, 3, 7)] M0 M0 := zJ_refl hB0
  refine ZV.of (ini := false) rfl (Nat.le_of_ble_eq_true rfl) (by decide +kernel) ?_
  have main : ∀ n : Nat,
      (∀ (M : zM) (v2_2 : Int32) (o2_3 : Option Value), zJ N [(2, 3, 0), (2, 3, 1), (20, 21, 1), (41, 42, 1), (21, 22, 1000), (42, 43, 1000), (2, 3, 7)] M0 M → ((0 : Int) ≤ v2_2.toInt) → (v2_2.toInt ≤ 1601) → 9624 * (1601 - v2_2.toInt) + 9622 < (n : Int) → ZW X (d + 20) 5 false (some .boolean) cX5_readTest (zRI N [(2, 3, 0), (2, 3, 1), (20, 21, 1), (41, 42, 1), (21, 22, 1000), (42, 43, 1000), (2, 3, 7)] M0 (0) (1) (fun _ _ => True)) (2, [some (.ref 2), some (.int 0), some (.int v2_2), o2_3], [], M)) ∧
      (∀ (M : zM) (v11_2 : Int32) (v11_3 : Int32), zJ N [(2, 3, 0), (2, 3, 1), (20, 21, 1), (41, 42, 1), (21, 22, 1000), (42, 43, 1000), (2, 3, 7)] M0 M → ((0 : Int) ≤ v11_2.toInt) → (v11_2.toInt ≤ 1600) → ((0 : Int) ≤ v11_3.toInt) → (v11_3.toInt ≤ 1601) → 9624 * (1601 - v11_2.toInt) + 6 * (1601 - v11_3.toInt) + 3 < (n : Int) → ZW X (d + 20) 5 false (some .boolean) cX5_readTest (zRI N [(2, 3, 0), (2, 3, 1), (20, 21, 1), (41, 42, 1), (21, 22, 1000), (42, 43, 1000), (2, 3, 7)] M0 (0) (1) (fun _ _ => True)) (11, [some (.ref 2), some (.int 0), some (.int v11_2), some (.int v11_3)], [], M)) ∧
      (∀ (M : zM) (v44_2 : Int32) (v44_3 : Int32), zJ N [(2, 3, 0), (2, 3, 1), (20, 21, 1), (41, 42, 1), (21, 22, 1000), (42, 43, 1000), (2, 3, 7)] M0 M → ((0 : Int) ≤ v44_2.toInt) → (v44_2.toInt ≤ 1600) → ((0 : Int) ≤ v44_3.toInt) → (v44_3.toInt ≤ 1600) → 9624 * (1601 - v44_2.toInt) + 6 * (1601 - v44_3.toInt) + 2 < (n : Int) → ZW X (d + 20) 5 false (some .boolean) cX5_readTest (zRI N [(2, 3, 0), (2, 3, 1), (20, 21, 1), (41, 42, 1), (21, 22, 1000), (42, 43, 1000), (2, 3, 7)] M0 (0) (1) (fun _ _ => True)) (44, [some (.ref 2), some (.int 0), some (.int v44_2), some (.int v44_3)], [], M)) ∧
      (∀ (M : zM) (v66_2 : Int32) (u66_3 : Int32), zJ N [(2, 3, 0), (2, 3, 1), (20, 21, 1), (41, 42, 1), (21, 22, 1000), (42, 43, 1000), (2, 3, 7)] M0 M → ((0 : Int) ≤ v66_2.toInt) → (v66_2.toInt ≤ 1600) → 9624 * (1601 - v66_2.toInt) + 1 < (n : Int) → ZW X (d + 20) 5 false (some .boolean) cX5_readTest (zRI N [(2, 3, 0), (2, 3, 1), (20, 21, 1), (41, 42, 1), (21, 22, 1000), (42, 43, 1000), (2, 3, 7)] M0 (0) (1) (fun _ _ => True)) (66, [some (.ref 2), some (.int 0), some (.int v66_2), some (.int u66_3)], [], M)) := by
    intro n
    induction n with
    | zero =>
      exact ⟨(fun M v2_2 o2_3 hJ v2_20 v2_21 hn => absurd hn (by omega)), (fun M v11_2 v11_3 hJ v11_20 v11_21 v11_30 v11_31 hn => absurd hn (by omega)), (fun M v44_2 v44_3 hJ v44_20 v44_21 v44_30 v44_31 hn => absurd hn (by omega)), (fun M v66_2 u66_3 hJ v66_20 v66_21 hn => absurd hn (by omega))⟩
    | succ n ih =>
      obtain ⟨ih2, ih11, ih44, ih66⟩ := ih
      refine ⟨?_, ?_, ?_, ?_⟩
      · intro M v2_2 o2_3 hJ v2_20 v2_21 hn
        refine w_lo dX5_readTest_2 rfl rfl rfl rfl ?_
        refine w_si dX5_readTest_3 (c := 1600) (by decide) ?_
        rcases zcut (1600 : Int) v2_2.toInt with h1 | h1
        · skip
          refine w_cgt_t dX5_readTest_6 (t := 104) rfl (by have := zt_1600; omega) ?_
          refine w_ic dX5_readTest_104 zi_1 ?_
          refine w_en dX5_readTest_105 rfl ?_
          exact ⟨_, _, rfl, (by have := zt_1; omega), (by have := zt_1; omega), hJ, trivial⟩
        · skip
          refine w_cgt_f dX5_readTest_6 (t := 104) rfl (by have := zt_1600; omega) ?_
          refine w_ic dX5_readTest_9 zi_0 ?_
          refine w_lo (ml' := [some (.ref 2), some (.int 0), some (.int v2_2), some (.int 0)]) dX5_readTest_10 rfl rfl rfl rfl ?_
          exact ih11 M v2_2 0 hJ (by omega) (by omega) (by have := zt_0; omega) (by have := zt_0; omega) (by have := zt_0; omega)
      · intro M v11_2 v11_3 hJ v11_20 v11_21 v11_30 v11_31 hn
        refine w_lo dX5_readTest_11 rfl rfl rfl rfl ?_
        refine w_si dX5_readTest_12 (c := 1600) (by decide) ?_
        rcases zcut (1600 : Int) v11_3.toInt with h2 | h2
        · skip
          refine w_cgt_t dX5_readTest_15 (t := 66) rfl (by have := zt_1600; omega) ?_
          exact ih66 M v11_2 v11_3 hJ (by omega) (by omega) (by have := zt_0; omega)
        · skip
          refine w_cgt_f dX5_readTest_15 (t := 66) rfl (by have := zt_1600; omega) ?_
          refine w_lo dX5_readTest_18 rfl rfl rfl rfl ?_
          refine w_lo dX5_readTest_19 rfl rfl rfl rfl ?_
          refine w_iv dX5_readTest_20 rfl rfl (As := [.int 0]) rfl rfl hJ.1.1 zs_2 (Nat.le_of_ble_eq_true rfl) ?_
          refine ZV.imp (k_1301_c0 hN hJ.1) ?_
          rintro _ ⟨x6, M3, rfl, h7, h8, hJ4, hq5⟩
          have hJ9 := zJ_trans hJ hJ4 (zSub_cons (fun _ _ h h' hk => zIR_e (by omega) (by omega) hk) (zSub_cons (fun _ _ h h' hk => zIR_s (zIR_e (by omega) (by omega) hk)) (zSub_cons (fun _ _ h h' hk => zIR_s (zIR_s (zIR_e (by omega) (by omega) hk))) (zSub_cons (fun _ _ h h' hk => zIR_s (zIR_s (zIR_s (zIR_e (by omega) (by omega) hk)))) (zSub_cons (fun _ _ h h' hk => zIR_s (zIR_s (zIR_s (zIR_s (zIR_a (by omega) (by omega)))))) (zSub_cons (fun _ _ h h' hk => zIR_s (zIR_s (zIR_s (zIR_s (zIR_s (zIR_a (by omega) (by omega))))))) (zSub_cons (fun _ _ h h' hk => zIR_s (zIR_s (zIR_s (zIR_s (zIR_s (zIR_s (zIR_e (by omega) (by omega) hk))))))) zSub_nil)))))))
          show ZW _ _ _ _ _ _ _ (23, [some (.ref 2), some (.int 0), some (.int v11_2), some (.int v11_3)], [.int x6], M3)
          rcases Int.decEq x6.toInt (0 : Int) with h10 | h10
          · skip
            refine w_ine_t dX5_readTest_23 (t := 28) rfl (by omega) ?_
            refine w_lo dX5_readTest_28 rfl rfl rfl rfl ?_
            rcases zcut (0 : Int) v11_3.toInt with h11 | h11
            · skip
              refine w_ile_f dX5_readTest_29 (t := 44) rfl (by omega) ?_
              refine w_lo dX5_readTest_32 rfl rfl rfl rfl ?_
              obtain ⟨b12, f13, h14⟩ := zd_2_8 hJ9.1
              have h15 := zDm_b h14
              refine w_gf dX5_readTest_33 rfl hJ9.1.1 zs_2 f13 ?_
              refine w_gf dX5_readTest_36 rfl hJ9.1.1 (zs_1_0 h14) (zr_1_0_15 h14 hJ9.1) ?_
              refine w_bi dX5_readTest_39 (c := (-17)) (by decide) ?_
              refine w_iv dX5_readTest_41 rfl rfl (As := [.int (-17)]) rfl rfl hJ9.1.1 (zs_1_13 h14) (Nat.le_of_ble_eq_true rfl) ?_
              refine ZV.imp (k_515 (b12 + 13) (zLw_of h14) (-17) hN hJ9.1) ?_
              rintro _ ⟨M16, rfl, hJ17, hq18⟩
              have hJ19 := zJ_trans hJ9 hJ17 (zSub_cons (fun _ _ h h' hk => ((zDm_or h14).elim (fun e => zIR_s (zIR_s (zIR_e (by omega) (by omega) hk))) (fun e => zIR_s (zIR_s (zIR_s (zIR_e (by omega) (by omega) hk)))))) (zSub_cons (fun _ _ h h' hk => ((zDm_or h14).elim (fun e => zIR_s (zIR_s (zIR_s (zIR_s (zIR_a (by omega) (by omega)))))) (fun e => zIR_s (zIR_s (zIR_s (zIR_s (zIR_s (zIR_a (by omega) (by omega))))))))) zSub_nil))
              show ZW _ _ _ _ _ _ _ (44, [some (.ref 2), some (.int 0), some (.int v11_2), some (.int v11_3)], [], M16)
              exact ih44 M16 v11_2 v11_3 hJ19 (by omega) (by omega) (by omega) (by omega) (by have := zt_0; omega)
            · skip
              refine w_ile_t dX5_readTest_29 (t := 44) rfl (by omega) ?_
              exact ih44 M3 v11_2 v11_3 hJ9 (by omega) (by omega) (by omega) (by omega) (by have := zt_0; omega)
          · skip
            refine w_ine_f dX5_readTest_23 (t := 28) rfl (by omega) ?_
            refine w_ic dX5_readTest_26 zi_0 ?_
            refine w_en dX5_readTest_27 rfl ?_
            exact ⟨_, _, rfl, (by have := zt_0; omega), (by have := zt_0; omega), hJ9, trivial⟩
      · intro M v44_2 v44_3 hJ v44_20 v44_21 v44_30 v44_31 hn
        refine w_lo dX5_readTest_44 rfl rfl rfl rfl ?_
        refine w_iv dX5_readTest_45 rfl rfl (As := []) rfl rfl hJ.1.1 zs_2 (Nat.le_of_ble_eq_true rfl) ?_
        refine ZV.imp (k_1287 hN hJ.1) ?_
        rintro _ ⟨x23, M20, rfl, h24, h25, hJ21, hq22⟩
        have hJ26 := zJ_trans hJ hJ21 zSub_nil
        show ZW _ _ _ _ _ _ _ (48, [some (.ref 2), some (.int 0), some (.int v44_2), some (.int v44_3)], [.int x23], M20)
        refine w_bi dX5_readTest_48 (c := 22) (by decide) ?_
        rcases Int.decEq x23.toInt (22 : Int) with h27 | h27
        · skip
          refine w_ceq_f dX5_readTest_50 (t := 56) rfl (by have := zt_22; omega) ?_
          refine w_gt dX5_readTest_53 (t := 66) rfl ?_
          exact ih66 M20 v44_2 v44_3 hJ26 (by omega) (by omega) (by have := zt_0; omega)
        · skip
          refine w_ceq_t dX5_readTest_50 (t := 56) rfl (by have := zt_22; omega) ?_
          refine w_lo dX5_readTest_56 rfl rfl rfl rfl ?_
          refine w_iv dX5_readTest_57 rfl rfl (As := []) rfl rfl hJ26.1.1 zs_2 (Nat.le_of_ble_eq_true rfl) ?_
          refine ZV.imp (k_1289 hN hJ26.1) ?_
          rintro _ ⟨M28, rfl, hJ29, hq30⟩
          have hJ31 := zJ_trans hJ26 hJ29 (zSub_cons (fun _ _ h h' hk => zIR_s (zIR_s (zIR_s (zIR_s (zIR_s (zIR_s (zIR_e (by omega) (by omega) hk))))))) zSub_nil)
          show ZW _ _ _ _ _ _ _ (60, [some (.ref 2), some (.int 0), some (.int v44_2), some (.int v44_3)], [], M28)
          refine w_inc (kk := 3) dX5_readTest_60 rfl (m := 1) (by decide) (by omega) ?_
          intro x32 h33
          refine ⟨_, rfl, ?_⟩
          show ZW _ _ _ _ _ _ _ (63, [some (.ref 2), some (.int 0), some (.int v44_2), some (.int x32)], [], M28)
          refine w_gt dX5_readTest_63 (t := 11) rfl ?_
          exact ih11 M28 v44_2 x32 hJ31 (by omega) (by omega) (by omega) (by omega) (by have := zt_0; omega)
      · intro M v66_2 u66_3 hJ v66_20 v66_21 hn
        refine w_lo dX5_readTest_66 rfl rfl rfl rfl ?_
        rcases zcut (0 : Int) v66_2.toInt with h34 | h34
        · skip
          refine w_ile_f dX5_readTest_67 (t := 82) rfl (by omega) ?_
          refine w_lo dX5_readTest_70 rfl rfl rfl rfl ?_
          obtain ⟨b35, f36, h37⟩ := zd_2_8 hJ.1
          have h38 := zDm_b h37
          refine w_gf dX5_readTest_71 rfl hJ.1.1 zs_2 f36 ?_
          refine w_gf dX5_readTest_74 rfl hJ.1.1 (zs_1_0 h37) (zr_1_0_15 h37 hJ.1) ?_
          refine w_bi dX5_readTest_77 (c := (-18)) (by decide) ?_
          refine w_iv dX5_readTest_79 rfl rfl (As := [.int (-18)]) rfl rfl hJ.1.1 (zs_1_13 h37) (Nat.le_of_ble_eq_true rfl) ?_
          refine ZV.imp (k_515 (b35 + 13) (zLw_of h37) (-18) hN hJ.1) ?_
          rintro _ ⟨M39, rfl, hJ40, hq41⟩
          have hJ42 := zJ_trans hJ hJ40 (zSub_cons (fun _ _ h h' hk => ((zDm_or h37).elim (fun e => zIR_s (zIR_s (zIR_e (by omega) (by omega) hk))) (fun e => zIR_s (zIR_s (zIR_s (zIR_e (by omega) (by omega) hk)))))) (zSub_cons (fun _ _ h h' hk => ((zDm_or h37).elim (fun e => zIR_s (zIR_s (zIR_s (zIR_s (zIR_a (by omega) (by omega)))))) (fun e => zIR_s (zIR_s (zIR_s (zIR_s (zIR_s (zIR_a (by omega) (by omega))))))))) zSub_nil))
          show ZW _ _ _ _ _ _ _ (82, [some (.ref 2), some (.int 0), some (.int v66_2), some (.int u66_3)], [], M39)
          refine w_lo dX5_readTest_82 rfl rfl rfl rfl ?_
          refine w_iv dX5_readTest_83 rfl rfl (As := []) rfl rfl hJ42.1.1 zs_2 (Nat.le_of_ble_eq_true rfl) ?_
          refine ZV.imp (k_1287 hN hJ42.1) ?_
          rintro _ ⟨x46, M43, rfl, h47, h48, hJ44, hq45⟩
          have hJ49 := zJ_trans hJ42 hJ44 zSub_nil
          show ZW _ _ _ _ _ _ _ (86, [some (.ref 2), some (.int 0), some (.int v66_2), some (.int u66_3)], [.int x46], M43)
          refine w_bi dX5_readTest_86 (c := 21) (by decide) ?_
          rcases Int.decEq x46.toInt (21 : Int) with h50 | h50
          · skip
            refine w_ceq_f dX5_readTest_88 (t := 94) rfl (by have := zt_21; omega) ?_
            refine w_gt dX5_readTest_91 (t := 104) rfl ?_
            refine w_ic dX5_readTest_104 zi_1 ?_
            refine w_en dX5_readTest_105 rfl ?_
            exact ⟨_, _, rfl, (by have := zt_1; omega), (by have := zt_1; omega), hJ49, trivial⟩
          · skip
            refine w_ceq_t dX5_readTest_88 (t := 94) rfl (by have := zt_21; omega) ?_
            refine w_lo dX5_readTest_94 rfl rfl rfl rfl ?_
            refine w_iv dX5_readTest_95 rfl rfl (As := []) rfl rfl hJ49.1.1 zs_2 (Nat.le_of_ble_eq_true rfl) ?_
            refine ZV.imp (k_1289 hN hJ49.1) ?_
            rintro _ ⟨M51, rfl, hJ52, hq53⟩
            have hJ54 := zJ_trans hJ49 hJ52 (zSub_cons (fun _ _ h h' hk => zIR_s (zIR_s (zIR_s (zIR_s (zIR_s (zIR_s (zIR_e (by omega) (by omega) hk))))))) zSub_nil)
            show ZW _ _ _ _ _ _ _ (98, [some (.ref 2), some (.int 0), some (.int v66_2), some (.int u66_3)], [], M51)
            refine w_inc (kk := 2) dX5_readTest_98 rfl (m := 1) (by decide) (by omega) ?_
            intro x55 h56
            refine ⟨_, rfl, ?_⟩
            show ZW _ _ _ _ _ _ _ (101, [some (.ref 2), some (.int 0), some (.int x55), some (.int u66_3)], [], M51)
            refine w_gt dX5_readTest_101 (t := 2) rfl ?_
            exact ih2 M51 x55 (some (.int u66_3)) hJ54 (by omega) (by omega) (by have := zt_0; omega)
        · skip
          refine w_ile_t dX5_readTest_67 (t := 82) rfl (by omega) ?_
          refine w_lo dX5_readTest_82 rfl rfl rfl rfl ?_
          refine w_iv dX5_readTest_83 rfl rfl (As := []) rfl rfl hJ.1.1 zs_2 (Nat.le_of_ble_eq_true rfl) ?_
          refine ZV.imp (k_1287 hN hJ.1) ?_
          rintro _ ⟨x60, M57, rfl, h61, h62, hJ58, hq59⟩
          have hJ63 := zJ_trans hJ hJ58 zSub_nil
          show ZW _ _ _ _ _ _ _ (86, [some (.ref 2), some (.int 0), some (.int v66_2), some (.int u66_3)], [.int x60], M57)
          refine w_bi dX5_readTest_86 (c := 21) (by decide) ?_
          rcases Int.decEq x60.toInt (21 : Int) with h64 | h64
          · skip
            refine w_ceq_f dX5_readTest_88 (t := 94) rfl (by have := zt_21; omega) ?_
            refine w_gt dX5_readTest_91 (t := 104) rfl ?_
            refine w_ic dX5_readTest_104 zi_1 ?_
            refine w_en dX5_readTest_105 rfl ?_
            exact ⟨_, _, rfl, (by have := zt_1; omega), (by have := zt_1; omega), hJ63, trivial⟩
          · skip
            refine w_ceq_t dX5_readTest_88 (t := 94) rfl (by have := zt_21; omega) ?_
            refine w_lo dX5_readTest_94 rfl rfl rfl rfl ?_
            refine w_iv dX5_readTest_95 rfl rfl (As := []) rfl rfl hJ63.1.1 zs_2 (Nat.le_of_ble_eq_true rfl) ?_
            refine ZV.imp (k_1289 hN hJ63.1) ?_
            rintro _ ⟨M65, rfl, hJ66, hq67⟩
            have hJ68 := zJ_trans hJ63 hJ66 (zSub_cons (fun _ _ h h' hk => zIR_s (zIR_s (zIR_s (zIR_s (zIR_s (zIR_s (zIR_e (by omega) (by omega) hk))))))) zSub_nil)
            show ZW _ _ _ _ _ _ _ (98, [some (.ref 2), some (.int 0), some (.int v66_2), some (.int u66_3)], [], M65)
            refine w_inc (kk := 2) dX5_readTest_98 rfl (m := 1) (by decide) (by omega) ?_
            intro x69 h70
            refine ⟨_, rfl, ?_⟩
            show ZW _ _ _ _ _ _ _ (101, [some (.ref 2), some (.int 0), some (.int x69), some (.int u66_3)], [], M65)
            refine w_gt dX5_readTest_101 (t := 2) rfl ?_
            exact ih2 M65 x69 (some (.int u66_3)) hJ68 (by omega) (by omega) (by have := zt_0; omega)
  obtain ⟨ih2, ih11, ih44, ih66⟩ := main 15436899
  show ZW _ _ _ _ _ _ _ (0, [some (.ref 2), some (.int 0), none, none], [], M0)
  refine w_ic dX5_readTest_0 zi_0 ?_
  refine w_lo (ml' := [some (.ref 2), some (.int 0), some (.int 0), none]) dX5_readTest_1 rfl rfl rfl rfl ?_
  exact ih2 M0 0 none hJ0 (by have := zt_0; omega) (by have := zt_0; omega) (by have := zt_0; omega)
set_option maxRecDepth 100000 in
theorem k_514 {X : List Int32} {d N : Nat} {M0 : zM} (t : Nat) (ht : zLw t) (a0 : Int32) (ha00 : (0 : Int) ≤ a0.toInt) (ha01 : a0.toInt ≤ 1) (hN : N ≤ 600) (hB0 : zB N M0) : ZV X (d + 1) 514 [.ref t, .int a0] M0 (zRV N [(t + 2, t + 4, 1000)] M0 (fun _ => True)) := by
  have hbt := zLw_b ht
  have hJ0 : zJ N [(t + 2, t + 4, 1000)] M0 M0 := zJ_refl hB0
  refine ZV.of (ini := false) rfl (Nat.le_of_ble_eq_true rfl) (by decide +kernel) ?_
  show ZW _ _ _ _ _ _ _ (0, [some (.ref t), some (.int a0)], [], M0)
  refine w_lo dX2_beginSum_0 rfl rfl rfl rfl ?_
  refine w_gfi dX2_beginSum_1 rfl hJ0.1 (zs_2_0 ht) (Nat.le_of_ble_eq_true rfl) (zo_2_0_0 ht) ?_
  intro x1 f2 h3 h4
  refine w_bi dX2_beginSum_4 (c := 8) (by decide) ?_
  rcases zcut x1.toInt (8 : Int) with h5 | h5
  · skip
    refine w_cge_f dX2_beginSum_6 (t := 32) rfl (by have := zt_8; omega) ?_
    refine w_lo dX2_beginSum_9 rfl rfl rfl rfl ?_
    refine w_gf dX2_beginSum_10 rfl hJ0.1.1 (zs_2_0 ht) (zr_2_0_3 ht hJ0.1) ?_
    refine w_lo dX2_beginSum_13 rfl rfl rfl rfl ?_
    refine w_gf dX2_beginSum_14 rfl hJ0.1.1 (zs_2_0 ht) f2 ?_
    refine w_lo dX2_beginSum_17 rfl rfl rfl rfl ?_
    refine w_bsi dX2_beginSum_18 hJ0 (zs_2_2 ht) (by omega) (by omega) (zu_2_2 ht) (by omega) (by omega) (zIR_a (by omega) (by omega)) ?_
    intro M6 hJ7 f8 hn9
    refine w_lo dX2_beginSum_19 rfl rfl rfl rfl ?_
    refine w_gf dX2_beginSum_20 rfl hJ7.1.1 (zs_2_0 ht) (zr_2_0_4 ht hJ7.1) ?_
    refine w_lo dX2_beginSum_23 rfl rfl rfl rfl ?_
    have f10 := (hn9 (t) 0 (Or.inl (by omega))).trans (f2)
    refine w_gf dX2_beginSum_24 rfl hJ7.1.1 (zs_2_0 ht) f10 ?_
    refine w_lo dX2_beginSum_27 rfl rfl rfl rfl ?_
    refine w_gfi dX2_beginSum_28 rfl hJ7.1 (zs_2_0 ht) (Nat.le_of_ble_eq_true rfl) (zo_2_0_1 ht) ?_
    intro x11 f12 h13 h14
    refine w_isi dX2_beginSum_31 hJ7 (zs_2_3 ht) (by omega) (by omega) (zu_2_3 ht) (by omega) (by omega) (zIR_a (by omega) (by omega)) ?_
    intro M15 hJ16 f17 hn18
    refine w_en dX2_beginSum_32 rfl ?_
    exact ⟨_, rfl, hJ16, trivial⟩
  · skip
    refine w_cge_t dX2_beginSum_6 (t := 32) rfl (by have := zt_8; omega) ?_
    refine w_en dX2_beginSum_32 rfl ?_
    exact ⟨_, rfl, hJ0, trivial⟩
set_option maxRecDepth 100000 in
theorem k_516 {X : List Int32} {d N : Nat} {M0 : zM} (t : Nat) (ht : zLw t) (hN : N ≤ 600) (hB0 : zB N M0) : ZV X (d + 1) 516 [.ref t] M0 (zRV N [(t + 4, t + 5, 1000)] M0 (fun _ => True)) := by
  have hbt := zLw_b ht
  have hJ0 : zJ N [(t + 4, t + 5, 1000)] M0 M0 := zJ_refl hB0
  refine ZV.of (ini := false) rfl (Nat.le_of_ble_eq_true rfl) (by decide +kernel) ?_
  show ZW _ _ _ _ _ _ _ (0, [some (.ref t)], [], M0)
  refine w_lo dX2_beginTest_0 rfl rfl rfl rfl ?_
  refine w_gfi dX2_beginTest_1 rfl hJ0.1 (zs_2_0 ht) (Nat.le_of_ble_eq_true rfl) (zo_2_0_0 ht) ?_
  intro x1 f2 h3 h4
  refine w_bi dX2_beginTest_4 (c := 8) (by decide) ?_
  rcases zcut x1.toInt (8 : Int) with h5 | h5
  · skip
    refine w_cge_f dX2_beginTest_6 (t := 22) rfl (by have := zt_8; omega) ?_
    refine w_lo dX2_beginTest_9 rfl rfl rfl rfl ?_
    refine w_gf dX2_beginTest_10 rfl hJ0.1.1 (zs_2_0 ht) (zr_2_0_5 ht hJ0.1) ?_
    refine w_lo dX2_beginTest_13 rfl rfl rfl rfl ?_
    refine w_gf dX2_beginTest_14 rfl hJ0.1.1 (zs_2_0 ht) f2 ?_
    refine w_lo dX2_beginTest_17 rfl rfl rfl rfl ?_
    refine w_gfi dX2_beginTest_18 rfl hJ0.1 (zs_2_0 ht) (Nat.le_of_ble_eq_true rfl) (zo_2_0_1 ht) ?_
    intro x6 f7 h8 h9
    refine w_isi dX2_beginTest_21 hJ0 (zs_2_4 ht) (by omega) (by omega) (zu_2_4 ht) (by omega) (by omega) (zIR_a (by omega) (by omega)) ?_
    intro M10 hJ11 f12 hn13
    refine w_en dX2_beginTest_22 rfl ?_
    exact ⟨_, rfl, hJ11, trivial⟩
  · skip
    refine w_cge_t dX2_beginTest_6 (t := 22) rfl (by have := zt_8; omega) ?_
    refine w_en dX2_beginTest_22 rfl ?_
    exact ⟨_, rfl, hJ0, trivial⟩
set_option maxRecDepth 100000 in
theorem k_517 {X : List Int32} {d N : Nat} {M0 : zM} (t : Nat) (ht : zLw t) (hN : N ≤ 600) (hB0 : zB N M0) : ZV X (d + 1) 517 [.ref t] M0 (zRV N [(t, t + 1, 0), (t + 5, t + 6, 1000)] M0 (fun _ => True)) := by
  have hbt := zLw_b ht
  have hJ0 : zJ N [(t, t + 1, 0), (t + 5, t + 6, 1000)] M0 M0 := zJ_refl hB0
  refine ZV.of (ini := false) rfl (Nat.le_of_ble_eq_true rfl) (by decide +kernel) ?_
  show ZW _ _ _ _ _ _ _ (0, [some (.ref t)], [], M0)
  refine w_lo dX2_close_0 rfl rfl rfl rfl ?_
  refine w_gfi dX2_close_1 rfl hJ0.1 (zs_2_0 ht) (Nat.le_of_ble_eq_true rfl) (zo_2_0_0 ht) ?_
  intro x1 f2 h3 h4
  refine w_bi dX2_close_4 (c := 8) (by decide) ?_
  rcases zcut x1.toInt (8 : Int) with h5 | h5
  · skip
    refine w_cge_f dX2_close_6 (t := 32) rfl (by have := zt_8; omega) ?_
    refine w_lo dX2_close_9 rfl rfl rfl rfl ?_
    refine w_gf dX2_close_10 rfl hJ0.1.1 (zs_2_0 ht) (zr_2_0_6 ht hJ0.1) ?_
    refine w_lo dX2_close_13 rfl rfl rfl rfl ?_
    refine w_gf dX2_close_14 rfl hJ0.1.1 (zs_2_0 ht) f2 ?_
    refine w_lo dX2_close_17 rfl rfl rfl rfl ?_
    refine w_gfi dX2_close_18 rfl hJ0.1 (zs_2_0 ht) (Nat.le_of_ble_eq_true rfl) (zo_2_0_1 ht) ?_
    intro x6 f7 h8 h9
    refine w_isi dX2_close_21 hJ0 (zs_2_5 ht) (by omega) (by omega) (zu_2_5 ht) (by omega) (by omega) (zIR_s (zIR_a (by omega) (by omega))) ?_
    intro M10 hJ11 f12 hn13
    refine w_lo dX2_close_22 rfl rfl rfl rfl ?_
    refine w_pu dX2_close_23 rfl rfl ?_
    have f14 := (hn13 (t) 0 (Or.inl (by omega))).trans (f2)
    refine w_gf dX2_close_24 rfl hJ11.1.1 (zs_2_0 ht) f14 ?_
    refine w_ic dX2_close_27 zi_1 ?_
    refine w_add dX2_close_28 (by have := zt_1; omega) ?_
    intro x15 h16
    have := zt_1
    refine w_pfi dX2_close_29 rfl hJ11 (zs_2_0 ht) (Nat.le_of_ble_eq_true rfl) (zo_2_0_0 ht) (by omega) (by omega) (zIR_k (by omega) (by omega)) rfl rfl rfl ?_
    intro M17 hJ18 f19 hn20
    refine w_en dX2_close_32 rfl ?_
    exact ⟨_, rfl, hJ18, trivial⟩
  · skip
    refine w_cge_t dX2_close_6 (t := 32) rfl (by have := zt_8; omega) ?_
    refine w_en dX2_close_32 rfl ?_
    exact ⟨_, rfl, hJ0, trivial⟩
set_option maxRecDepth 100000 in
theorem k_1296 {X : List Int32} {d N : Nat} {M0 : zM} (a0 : Int32) (ha00 : (0 : Int) ≤ a0.toInt) (ha01 : a0.toInt ≤ 1) (hN : N ≤ 600) (hB0 : zB N M0) : ZV X (d + 22) 1296 [.ref 2, .int a0] M0 (zRI N [(2, 3, 0), (20, 21, 0), (41, 42, 0), (2, 3, 1), (20, 21, 1), (41, 42, 1), (21, 26, 1000), (42, 47, 1000), (2, 3, 7)] M0 (0) (1) (fun _ _ => True)) := by
  have hJ0 : zJ N [(2, 3, 0), (20, 21, 0), (41, 42, 0), (2, 3, 1), (20, 21, 1), (41, 42, 1), (21, 26, 1000), (42, 47, 1000), (2, 3, 7)] M0 M0 := zJ_refl hB0
  refine ZV.of (ini := false) rfl (Nat.le_of_ble_eq_true rfl) (by decide +kernel) ?_
  show ZW _ _ _ _ _ _ _ (0, [some (.ref 2), some (.int a0)], [], M0)
  refine w_lo dX5_readLaw_0 rfl rfl rfl rfl ?_
  obtain ⟨b1, f2, h3⟩ := zd_2_8 hJ0.1
  have h4 := zDm_b h3
  refine w_gf dX5_readLaw_1 rfl hJ0.1.1 zs_2 f2 ?_
  refine w_gf dX5_readLaw_4 rfl hJ0.1.1 (zs_1_0 h3) (zr_1_0_15 h3 hJ0.1) ?_
  refine w_gfi dX5_readLaw_7 rfl hJ0.1 (zs_1_13 h3) (Nat.le_of_ble_eq_true rfl) (zo_1_13_0 h3) ?_
  intro x5 f6 h7 h8
  refine w_bi dX5_readLaw_10 (c := 8) (by decide) ?_
  rcases zcut x5.toInt (8 : Int) with h9 | h9
  · skip
    refine w_clt_t dX5_readLaw_12 (t := 21) rfl (by have := zt_8; omega) ?_
    refine w_lo dX5_readLaw_21 rfl rfl rfl rfl ?_
    refine w_iv dX5_readLaw_22 rfl rfl (As := []) rfl rfl hJ0.1.1 zs_2 (Nat.le_of_ble_eq_true rfl) ?_
    refine ZV.imp (k_1289 hN hJ0.1) ?_
    rintro _ ⟨M10, rfl, hJ11, hq12⟩
    have hJ13 := zJ_trans hJ0 hJ11 (zSub_cons (fun _ _ h h' hk => zIR_s (zIR_s (zIR_s (zIR_s (zIR_s (zIR_s (zIR_s (zIR_s (zIR_e (by omega) (by omega) hk))))))))) zSub_nil)
    show ZW _ _ _ _ _ _ _ (25, [some (.ref 2), some (.int a0)], [], M10)
    refine w_lo dX5_readLaw_25 rfl rfl rfl rfl ?_
    have f14 := (hJ11.2 (2) 8 (zNI_k (by decide) (by decide) zNI_nil)).trans (f2)
    refine w_gf dX5_readLaw_26 rfl hJ13.1.1 zs_2 f14 ?_
    refine w_gf dX5_readLaw_29 rfl hJ13.1.1 (zs_1_0 h3) (zr_1_0_15 h3 hJ13.1) ?_
    refine w_lo dX5_readLaw_32 rfl rfl rfl rfl ?_
    refine w_iv dX5_readLaw_33 rfl rfl (As := [.int a0]) rfl rfl hJ13.1.1 (zs_1_13 h3) (Nat.le_of_ble_eq_true rfl) ?_
    refine ZV.imp (k_514 (b1 + 13) (zLw_of h3) a0 (by omega) (by omega) hN hJ13.1) ?_
    rintro _ ⟨M15, rfl, hJ16, hq17⟩
    have hJ18 := zJ_trans hJ13 hJ16 (zSub_cons (fun _ _ h h' hk => ((zDm_or h3).elim (fun e => zIR_s (zIR_s (zIR_s (zIR_s (zIR_s (zIR_s (zIR_a (by omega) (by omega)))))))) (fun e => zIR_s (zIR_s (zIR_s (zIR_s (zIR_s (zIR_s (zIR_s (zIR_a (by omega) (by omega))))))))))) zSub_nil)
    show ZW _ _ _ _ _ _ _ (36, [some (.ref 2), some (.int a0)], [], M15)
    refine w_lo dX5_readLaw_36 rfl rfl rfl rfl ?_
    refine w_ic dX5_readLaw_37 zi_0 ?_
    refine w_iv dX5_readLaw_38 rfl rfl (As := [.int 0]) rfl rfl hJ18.1.1 zs_2 (Nat.le_of_ble_eq_true rfl) ?_
    refine ZV.imp (k_1297_c0 hN hJ18.1) ?_
    rintro _ ⟨x22, M19, rfl, h23, h24, hJ20, hq21⟩
    have hJ25 := zJ_trans hJ18 hJ20 (zSub_cons (fun _ _ h h' hk => zIR_e (by omega) (by omega) hk) (zSub_cons (fun _ _ h h' hk => zIR_s (zIR_s (zIR_s (zIR_e (by omega) (by omega) hk)))) (zSub_cons (fun _ _ h h' hk => zIR_s (zIR_s (zIR_s (zIR_s (zIR_e (by omega) (by omega) hk))))) (zSub_cons (fun _ _ h h' hk => zIR_s (zIR_s (zIR_s (zIR_s (zIR_s (zIR_e (by omega) (by omega) hk)))))) (zSub_cons (fun _ _ h h' hk => zIR_s (zIR_s (zIR_s (zIR_s (zIR_s (zIR_s (zIR_a (by omega) (by omega)))))))) (zSub_cons (fun _ _ h h' hk => zIR_s (zIR_s (zIR_s (zIR_s (zIR_s (zIR_s (zIR_s (zIR_a (by omega) (by omega))))))))) (zSub_cons (fun _ _ h h' hk => zIR_s (zIR_s (zIR_s (zIR_s (zIR_s (zIR_s (zIR_s (zIR_s (zIR_e (by omega) (by omega) hk))))))))) zSub_nil)))))))
    show ZW _ _ _ _ _ _ _ (41, [some (.ref 2), some (.int a0)], [.int x22], M19)
    rcases Int.decEq x22.toInt (0 : Int) with h26 | h26
    · skip
      refine w_ieq_f dX5_readLaw_41 (t := 53) rfl (by omega) ?_
      refine w_lo dX5_readLaw_44 rfl rfl rfl rfl ?_
      refine w_bi dX5_readLaw_45 (c := 20) (by decide) ?_
      refine w_iv dX5_readLaw_47 rfl rfl (As := [.int 20]) rfl rfl hJ25.1.1 zs_2 (Nat.le_of_ble_eq_true rfl) ?_
      refine ZV.imp (k_1291 20 (by have := zt_20; omega) (by have := zt_20; omega) hN hJ25.1) ?_
      rintro _ ⟨x30, M27, rfl, h31, h32, hJ28, hq29⟩
      have hJ33 := zJ_trans hJ25 hJ28 (zSub_cons (fun _ _ h h' hk => zIR_e (by omega) (by omega) hk) (zSub_cons (fun _ _ h h' hk => zIR_s (zIR_s (zIR_s (zIR_e (by omega) (by omega) hk)))) (zSub_cons (fun _ _ h h' hk => zIR_s (zIR_s (zIR_s (zIR_s (zIR_s (zIR_s (zIR_s (zIR_s (zIR_e (by omega) (by omega) hk))))))))) zSub_nil)))
      show ZW _ _ _ _ _ _ _ (50, [some (.ref 2), some (.int a0)], [.int x30], M27)
      rcases Int.decEq x30.toInt (0 : Int) with h34 | h34
      · skip
        refine w_ine_t dX5_readLaw_50 (t := 55) rfl (by omega) ?_
        refine w_lo dX5_readLaw_55 rfl rfl rfl rfl ?_
        have f35 := (hJ28.2 (2) 8 (zNI_k (by decide) (by decide) (zNI_k (by decide) (by decide) (zNI_k (by decide) (by decide) zNI_nil)))).trans ((hJ20.2 (2) 8 (zNI_k (by decide) (by decide) (zNI_k (by decide) (by decide) (zNI_k (by decide) (by decide) (zNI_k (by decide) (by decide) (zNI (by omega) (zNI (by omega) (zNI_k (by decide) (by decide) zNI_nil)))))))).trans ((hJ16.2 (2) 8 (zNI (by omega) zNI_nil)).trans (f14)))
        refine w_gf dX5_readLaw_56 rfl hJ33.1.1 zs_2 f35 ?_
        refine w_gf dX5_readLaw_59 rfl hJ33.1.1 (zs_1_0 h3) (zr_1_0_15 h3 hJ33.1) ?_
        refine w_iv dX5_readLaw_62 rfl rfl (As := []) rfl rfl hJ33.1.1 (zs_1_13 h3) (Nat.le_of_ble_eq_true rfl) ?_
        refine ZV.imp (k_516 (b1 + 13) (zLw_of h3) hN hJ33.1) ?_
        rintro _ ⟨M36, rfl, hJ37, hq38⟩
        have hJ39 := zJ_trans hJ33 hJ37 (zSub_cons (fun _ _ h h' hk => ((zDm_or h3).elim (fun e => zIR_s (zIR_s (zIR_s (zIR_s (zIR_s (zIR_s (zIR_a (by omega) (by omega)))))))) (fun e => zIR_s (zIR_s (zIR_s (zIR_s (zIR_s (zIR_s (zIR_s (zIR_a (by omega) (by omega))))))))))) zSub_nil)
        show ZW _ _ _ _ _ _ _ (65, [some (.ref 2), some (.int a0)], [], M36)
        refine w_lo dX5_readLaw_65 rfl rfl rfl rfl ?_
        refine w_ic dX5_readLaw_66 zi_0 ?_
        refine w_iv dX5_readLaw_67 rfl rfl (As := [.int 0]) rfl rfl hJ39.1.1 zs_2 (Nat.le_of_ble_eq_true rfl) ?_
        refine ZV.imp (k_1300_c0 hN hJ39.1) ?_
        rintro _ ⟨x43, M40, rfl, h44, h45, hJ41, hq42⟩
        have hJ46 := zJ_trans hJ39 hJ41 (zSub_cons (fun _ _ h h' hk => zIR_e (by omega) (by omega) hk) (zSub_cons (fun _ _ h h' hk => zIR_s (zIR_s (zIR_s (zIR_e (by omega) (by omega) hk)))) (zSub_cons (fun _ _ h h' hk => zIR_s (zIR_s (zIR_s (zIR_s (zIR_e (by omega) (by omega) hk))))) (zSub_cons (fun _ _ h h' hk => zIR_s (zIR_s (zIR_s (zIR_s (zIR_s (zIR_e (by omega) (by omega) hk)))))) (zSub_cons (fun _ _ h h' hk => zIR_s (zIR_s (zIR_s (zIR_s (zIR_s (zIR_s (zIR_a (by omega) (by omega)))))))) (zSub_cons (fun _ _ h h' hk => zIR_s (zIR_s (zIR_s (zIR_s (zIR_s (zIR_s (zIR_s (zIR_a (by omega) (by omega))))))))) (zSub_cons (fun _ _ h h' hk => zIR_s (zIR_s (zIR_s (zIR_s (zIR_s (zIR_s (zIR_s (zIR_s (zIR_e (by omega) (by omega) hk))))))))) zSub_nil)))))))
        show ZW _ _ _ _ _ _ _ (70, [some (.ref 2), some (.int a0)], [.int x43], M40)
        rcases Int.decEq x43.toInt (0 : Int) with h47 | h47
        · skip
          refine w_ine_t dX5_readLaw_70 (t := 75) rfl (by omega) ?_
          refine w_lo dX5_readLaw_75 rfl rfl rfl rfl ?_
          have f48 := (hJ41.2 (2) 8 (zNI_k (by decide) (by decide) (zNI_k (by decide) (by decide) (zNI_k (by decide) (by decide) (zNI_k (by decide) (by decide) (zNI (by omega) (zNI (by omega) (zNI_k (by decide) (by decide) zNI_nil)))))))).trans ((hJ37.2 (2) 8 (zNI (by omega) zNI_nil)).trans (f35))
          refine w_gf dX5_readLaw_76 rfl hJ46.1.1 zs_2 f48 ?_
          refine w_gf dX5_readLaw_79 rfl hJ46.1.1 (zs_1_0 h3) (zr_1_0_15 h3 hJ46.1) ?_
          refine w_iv dX5_readLaw_82 rfl rfl (As := []) rfl rfl hJ46.1.1 (zs_1_13 h3) (Nat.le_of_ble_eq_true rfl) ?_
          refine ZV.imp (k_517 (b1 + 13) (zLw_of h3) hN hJ46.1) ?_
          rintro _ ⟨M49, rfl, hJ50, hq51⟩
          have hJ52 := zJ_trans hJ46 hJ50 (zSub_cons (fun _ _ h h' hk => ((zDm_or h3).elim (fun e => zIR_s (zIR_e (by omega) (by omega) hk)) (fun e => zIR_s (zIR_s (zIR_e (by omega) (by omega) hk))))) (zSub_cons (fun _ _ h h' hk => ((zDm_or h3).elim (fun e => zIR_s (zIR_s (zIR_s (zIR_s (zIR_s (zIR_s (zIR_a (by omega) (by omega)))))))) (fun e => zIR_s (zIR_s (zIR_s (zIR_s (zIR_s (zIR_s (zIR_s (zIR_a (by omega) (by omega))))))))))) zSub_nil))
          show ZW _ _ _ _ _ _ _ (85, [some (.ref 2), some (.int a0)], [], M49)
          refine w_ic dX5_readLaw_85 zi_1 ?_
          refine w_en dX5_readLaw_86 rfl ?_
          exact ⟨_, _, rfl, (by have := zt_1; omega), (by have := zt_1; omega), hJ52, trivial⟩
        · skip
          refine w_ine_f dX5_readLaw_70 (t := 75) rfl (by omega) ?_
          refine w_ic dX5_readLaw_73 zi_0 ?_
          refine w_en dX5_readLaw_74 rfl ?_
          exact ⟨_, _, rfl, (by have := zt_0; omega), (by have := zt_0; omega), hJ46, trivial⟩
      · skip
        refine w_ine_f dX5_readLaw_50 (t := 55) rfl (by omega) ?_
        refine w_ic dX5_readLaw_53 zi_0 ?_
        refine w_en dX5_readLaw_54 rfl ?_
        exact ⟨_, _, rfl, (by have := zt_0; omega), (by have := zt_0; omega), hJ33, trivial⟩
    · skip
      refine w_ieq_t dX5_readLaw_41 (t := 53) rfl (by omega) ?_
      refine w_ic dX5_readLaw_53 zi_0 ?_
      refine w_en dX5_readLaw_54 rfl ?_
      exact ⟨_, _, rfl, (by have := zt_0; omega), (by have := zt_0; omega), hJ25, trivial⟩
  · skip
    refine w_clt_f dX5_readLaw_12 (t := 21) rfl (by have := zt_8; omega) ?_
    refine w_lo dX5_readLaw_15 rfl rfl rfl rfl ?_
    refine w_ic dX5_readLaw_16 zi_5 ?_
    refine w_iv dX5_readLaw_17 rfl rfl (As := [.int 5]) rfl rfl hJ0.1.1 zs_2 (Nat.le_of_ble_eq_true rfl) ?_
    refine ZV.imp (k_1286 5 (by have := zt_5; omega) (by have := zt_5; omega) hN hJ0.1) ?_
    rintro _ ⟨x56, M53, rfl, h57, h58, hJ54, hq55⟩
    have hJ59 := zJ_trans hJ0 hJ54 (zSub_cons (fun _ _ h h' hk => zIR_e (by omega) (by omega) hk) (zSub_cons (fun _ _ h h' hk => zIR_s (zIR_s (zIR_s (zIR_e (by omega) (by omega) hk)))) zSub_nil))
    show ZW _ _ _ _ _ _ _ (20, [some (.ref 2), some (.int a0)], [.int x56], M53)
    refine w_eni dX5_readLaw_20 rfl (znb (by omega) (by omega)) ?_
    exact ⟨_, _, rfl, (by omega), (by omega), hJ59, trivial⟩
set_option maxRecDepth 100000 in
theorem k_513 {X : List Int32} {d N : Nat} {M0 : zM} (t : Nat) (ht : zLw t) (hN : N ≤ 600) (hB0 : zB N M0) : ZV X (d + 1) 513 [.ref t] M0 (zRV N [(t, t + 1, 0), (t, t + 1, 1)] M0 (fun _ => True)) := by
  have hbt := zLw_b ht
  have hJ0 : zJ N [(t, t + 1, 0), (t, t + 1, 1)] M0 M0 := zJ_refl hB0
  refine ZV.of (ini := false) rfl (Nat.le_of_ble_eq_true rfl) (by decide +kernel) ?_
  show ZW _ _ _ _ _ _ _ (0, [some (.ref t)], [], M0)
  refine w_lo dX2_empty_0 rfl rfl rfl rfl ?_
  refine w_ic dX2_empty_1 zi_0 ?_
  refine w_pfi dX2_empty_2 rfl hJ0 (zs_2_0 ht) (Nat.le_of_ble_eq_true rfl) (zo_2_0_0 ht) (by have := zt_0; omega) (by have := zt_0; omega) (zIR_k (by omega) (by omega)) rfl rfl rfl ?_
  intro M1 hJ2 f3 hn4
  refine w_lo dX2_empty_5 rfl rfl rfl rfl ?_
  refine w_ic dX2_empty_6 zi_0 ?_
  refine w_pfi dX2_empty_7 rfl hJ2 (zs_2_0 ht) (Nat.le_of_ble_eq_true rfl) (zo_2_0_1 ht) (by have := zt_0; omega) (by have := zt_0; omega) (zIR_s (zIR_k (by omega) (by omega))) rfl rfl rfl ?_
  intro M5 hJ6 f7 hn8
  refine w_en dX2_empty_10 rfl ?_
  exact ⟨_, rfl, hJ6, trivial⟩
set_option maxRecDepth 100000 in
theorem k_257 {X : List Int32} {d N : Nat} {M0 : zM} (t : Nat) (ht : zDm t) (hN : N ≤ 600) (hB0 : zB N M0) : ZV X (d + 2) 257 [.ref t] M0 (zRV N [(t, t + 1, 0), (t + 13, t + 14, 0), (t, t + 1, 1), (t + 13, t + 14, 1), (t + 12, t + 13, 1000), (t, t + 1, 2)] M0 (fun _ => True)) := by
  have hbt := zDm_b ht
  have hJ0 : zJ N [(t, t + 1, 0), (t + 13, t + 14, 0), (t, t + 1, 1), (t + 13, t + 14, 1), (t + 12, t + 13, 1000), (t, t + 1, 2)] M0 M0 := zJ_refl hB0
  refine ZV.of (ini := false) rfl (Nat.le_of_ble_eq_true rfl) (by decide +kernel) ?_
  show ZW _ _ _ _ _ _ _ (0, [some (.ref t)], [], M0)
  refine w_lo dX1_empty_0 rfl rfl rfl rfl ?_
  refine w_ic dX1_empty_1 zi_0 ?_
  refine w_pfi dX1_empty_2 rfl hJ0 (zs_1_0 ht) (Nat.le_of_ble_eq_true rfl) (zo_1_0_0 ht) (by have := zt_0; omega) (by have := zt_0; omega) (zIR_k (by omega) (by omega)) rfl rfl rfl ?_
  intro M1 hJ2 f3 hn4
  refine w_lo dX1_empty_5 rfl rfl rfl rfl ?_
  refine w_ic dX1_empty_6 zi_0 ?_
  refine w_pfi dX1_empty_7 rfl hJ2 (zs_1_0 ht) (Nat.le_of_ble_eq_true rfl) (zo_1_0_1 ht) (by have := zt_0; omega) (by have := zt_0; omega) (zIR_s (zIR_s (zIR_k (by omega) (by omega)))) rfl rfl rfl ?_
  intro M5 hJ6 f7 hn8
  refine w_lo dX1_empty_10 rfl rfl rfl rfl ?_
  refine w_ic dX1_empty_11 zi_0 ?_
  refine w_pfi dX1_empty_12 rfl hJ6 (zs_1_0 ht) (Nat.le_of_ble_eq_true rfl) (zo_1_0_2 ht) (by have := zt_0; omega) (by have := zt_0; omega) (zIR_s (zIR_s (zIR_s (zIR_s (zIR_s (zIR_k (by omega) (by omega))))))) rfl rfl rfl ?_
  intro M9 hJ10 f11 hn12
  refine w_lo dX1_empty_15 rfl rfl rfl rfl ?_
  refine w_gf dX1_empty_16 rfl hJ10.1.1 (zs_1_0 ht) (zr_1_0_14 ht hJ10.1) ?_
  refine w_ic dX1_empty_19 zi_0 ?_
  refine w_ss dX1_empty_20 rfl rfl (As := [.ref (t + 12), .int 0]) rfl rfl (Nat.le_of_ble_eq_true rfl) ?_
  refine ZV.imp (k_3072 (t + 12) _ _ _ (zs_1_12 ht) (zu_1_12 ht) (Nat.le_of_ble_eq_true rfl) (by decide) (by decide) 0 (by have := zt_0; omega) (by have := zt_0; omega) hN hJ10.1) ?_
  rintro _ ⟨M13, rfl, hJ14, hq15⟩
  have hJ16 := zJ_trans hJ10 hJ14 (zSub_cons (fun _ _ h h' hk => zIR_s (zIR_s (zIR_s (zIR_s (zIR_a (by omega) (by omega)))))) zSub_nil)
  show ZW _ _ _ _ _ _ _ (23, [some (.ref t)], [], M13)
  refine w_lo dX1_empty_23 rfl rfl rfl rfl ?_
  refine w_gf dX1_empty_24 rfl hJ16.1.1 (zs_1_0 ht) (zr_1_0_15 ht hJ16.1) ?_
  refine w_iv dX1_empty_27 rfl rfl (As := []) rfl rfl hJ16.1.1 (zs_1_13 ht) (Nat.le_of_ble_eq_true rfl) ?_
  refine ZV.imp (k_513 (t + 13) (zLw_of ht) hN hJ16.1) ?_
  rintro _ ⟨M17, rfl, hJ18, hq19⟩
  have hJ20 := zJ_trans hJ16 hJ18 (zSub_cons (fun _ _ h h' hk => zIR_s (zIR_e (by omega) (by omega) hk)) (zSub_cons (fun _ _ h h' hk => zIR_s (zIR_s (zIR_s (zIR_e (by omega) (by omega) hk)))) zSub_nil))
  show ZW _ _ _ _ _ _ _ (30, [some (.ref t)], [], M17)
  refine w_en dX1_empty_30 rfl ?_
  exact ⟨_, rfl, hJ20, trivial⟩
set_option maxRecDepth 100000 in
theorem k_1281 {X : List Int32} {d N : Nat} {M0 : zM} (a1 : Int32) (ha10 : (0 : Int) ≤ a1.toInt) (ha11 : a1.toInt ≤ 1600) (hN : N ≤ 600) (hB0 : zB N M0) : ZV X (d + 23) 1281 [.ref 2, .ref 1, .int a1] M0 (zRI N [(2, 3, 0), (7, 8, 0), (20, 21, 0), (28, 29, 0), (41, 42, 0), (2, 3, 1), (7, 8, 1), (20, 21, 1), (28, 29, 1), (41, 42, 1), (2, 3, 10), (4, 7, 1000), (8, 20, 1000), (21, 26, 1000), (29, 41, 1000), (42, 47, 1000), (7, 8, 2), (28, 29, 2), (2, 3, 6), (2, 3, 7), (2, 3, 9)] M0 (0) (1) (fun _ _ => True)) := by
  have hJ0 : zJ N [(2, 3, 0), (7, 8, 0), (20, 21, 0), (28, 29, 0), (41, 42, 0), (2, 3, 1), (7, 8, 1), (20, 21, 1), (28, 29, 1), (41, 42, 1), (2, 3, 10), (4, 7, 1000), (8, 20, 1000), (21, 26, 1000), (29, 41, 1000), (42, 47, 1000), (7, 8, 2), (28, 29, 2), (2, 3, 6), (2, 3, 7), (2, 3, 9)] M0 M0 := zJ_refl hB0
  refine ZV.of (ini := false) rfl (Nat.le_of_ble_eq_true rfl) (by decide +kernel) ?_
  have main : ∀ n : Nat,
      (∀ (M : zM) (o30_1 : Option Value) (u30_2 : Int32) (v30_3 : Int32) (o30_4 : Option Value), zJ N [(2, 3, 0), (7, 8, 0), (20, 21, 0), (28, 29, 0), (41, 42, 0), (2, 3, 1), (7, 8, 1), (20, 21, 1), (28, 29, 1), (41, 42, 1), (2, 3, 10), (4, 7, 1000), (8, 20, 1000), (21, 26, 1000), (29, 41, 1000), (42, 47, 1000), (7, 8, 2), (28, 29, 2), (2, 3, 6), (2, 3, 7), (2, 3, 9)] M0 M → ((0 : Int) ≤ v30_3.toInt) → (v30_3.toInt ≤ 90) → 3 * (90 - v30_3.toInt) + 1 < (n : Int) → ZW X (d + 22) 5 false (some .boolean) cX5_read (zRI N [(2, 3, 0), (7, 8, 0), (20, 21, 0), (28, 29, 0), (41, 42, 0), (2, 3, 1), (7, 8, 1), (20, 21, 1), (28, 29, 1), (41, 42, 1), (2, 3, 10), (4, 7, 1000), (8, 20, 1000), (21, 26, 1000), (29, 41, 1000), (42, 47, 1000), (7, 8, 2), (28, 29, 2), (2, 3, 6), (2, 3, 7), (2, 3, 9)] M0 (0) (1) (fun _ _ => True)) (30, [some (.ref 2), o30_1, some (.int u30_2), some (.int v30_3), o30_4], [], M)) := by
    intro n
    induction n with
    | zero =>
      exact (fun M o30_1 u30_2 v30_3 o30_4 hJ v30_30 v30_31 hn => absurd hn (by omega))
    | succ n ih =>
      have ih30 := ih
      · intro M o30_1 u30_2 v30_3 o30_4 hJ v30_30 v30_31 hn
        refine w_lo dX5_read_30 rfl rfl rfl rfl ?_
        refine w_bi dX5_read_31 (c := 90) (by decide) ?_
        refine w_cgt_f dX5_read_33 (t := 226) rfl (by have := zt_90; omega) ?_
        refine w_lo dX5_read_36 rfl rfl rfl rfl ?_
        refine w_gf dX5_read_37 rfl hJ.1.1 zs_2 (zr_2_3 hJ.1) ?_
        refine w_lo dX5_read_40 rfl rfl rfl rfl ?_
        refine w_gfi dX5_read_41 rfl hJ.1 zs_2 (Nat.le_of_ble_eq_true rfl) zo_2_7 ?_
        intro x1 f2 h3 h4
        refine w_iai dX5_read_44 hJ.1 zs_4 (by omega) (by omega) zu_4 ?_
        intro x8 f5 h6 h7
        rcases Int.decEq x8.toInt (0 : Int) with h9 | h9
        · skip
          refine w_ine_t dX5_read_45 (t := 58) rfl (by omega) ?_
          refine w_lo dX5_read_58 rfl rfl rfl rfl ?_
          refine w_bi dX5_read_59 (c := 90) (by decide) ?_
          rcases Int.decEq v30_3.toInt (90 : Int) with h10 | h10
          · skip
            refine w_cne_t dX5_read_61 (t := 70) rfl (by have := zt_90; omega) ?_
            refine w_lo dX5_read_70 rfl rfl rfl rfl ?_
            refine w_iv dX5_read_71 rfl rfl (As := []) rfl rfl hJ.1.1 zs_2 (Nat.le_of_ble_eq_true rfl) ?_
            refine ZV.imp (k_1287 hN hJ.1) ?_
            rintro _ ⟨x14, M11, rfl, h15, h16, hJ12, hq13⟩
            have hJ17 := zJ_trans hJ hJ12 zSub_nil
            show ZW _ _ _ _ _ _ _ (74, [some (.ref 2), o30_1, some (.int u30_2), some (.int v30_3), o30_4], [.int x14], M11)
            rcases Int.decEq x14.toInt (7 : Int) with h18 | h18
            rotate_left
            · skip
              refine w_ts dX5_read_74 (t := 140) (j := 7) h18 (by decide) ?_
              refine w_lo dX5_read_140 rfl rfl rfl rfl ?_
              refine w_iv dX5_read_141 rfl rfl (As := []) rfl rfl hJ17.1.1 zs_2 (Nat.le_of_ble_eq_true rfl) ?_
              refine ZV.imp (k_1288 hN hJ17.1) ?_
              rintro _ ⟨x22, M19, rfl, h23, h24, hJ20, hq21⟩
              have hJ25 := zJ_trans hJ17 hJ20 (zSub_cons (fun _ _ h h' hk => zIR_e (by omega) (by omega) hk) (zSub_cons (fun _ _ h h' hk => zIR_s (zIR_s (zIR_s (zIR_s (zIR_s (zIR_e (by omega) (by omega) hk)))))) (zSub_cons (fun _ _ h h' hk => zIR_s (zIR_s (zIR_s (zIR_s (zIR_s (zIR_s (zIR_e (by omega) (by omega) hk))))))) (zSub_cons (fun _ _ h h' hk => zIR_s (zIR_s (zIR_s (zIR_s (zIR_s (zIR_s (zIR_s (zIR_s (zIR_e (by omega) (by omega) hk))))))))) (zSub_cons (fun _ _ h h' hk => zIR_s (zIR_s (zIR_s (zIR_s (zIR_s (zIR_s (zIR_s (zIR_s (zIR_s (zIR_s (zIR_e (by omega) (by omega) hk))))))))))) (zSub_cons (fun _ _ h h' hk => zIR_s (zIR_s (zIR_s (zIR_s (zIR_s (zIR_s (zIR_s (zIR_s (zIR_s (zIR_s (zIR_s (zIR_s (zIR_a (by omega) (by omega)))))))))))))) (zSub_cons (fun _ _ h h' hk => zIR_s (zIR_s (zIR_s (zIR_s (zIR_s (zIR_s (zIR_s (zIR_s (zIR_s (zIR_s (zIR_s (zIR_s (zIR_s (zIR_s (zIR_a (by omega) (by omega)))))))))))))))) (zSub_cons (fun _ _ h h' hk => zIR_s (zIR_s (zIR_s (zIR_s (zIR_s (zIR_s (zIR_s (zIR_s (zIR_s (zIR_s (zIR_s (zIR_s (zIR_s (zIR_s (zIR_s (zIR_s (zIR_s (zIR_s (zIR_s (zIR_e (by omega) (by omega) hk)))))))))))))))))))) (zSub_cons (fun _ _ h h' hk => zIR_s (zIR_s (zIR_s (zIR_s (zIR_s (zIR_s (zIR_s (zIR_s (zIR_s (zIR_s (zIR_s (zIR_s (zIR_s (zIR_s (zIR_s (zIR_s (zIR_s (zIR_s (zIR_s (zIR_s (zIR_e (by omega) (by omega) hk))))))))))))))))))))) zSub_nil)))))))))
              show ZW _ _ _ _ _ _ _ (144, [some (.ref 2), o30_1, some (.int u30_2), some (.int v30_3), o30_4], [.int x22], M19)
              refine w_lo (ml' := [some (.ref 2), o30_1, some (.int u30_2), some (.int v30_3), some (.int x22)]) dX5_read_144 rfl rfl rfl rfl ?_
              refine w_gt dX5_read_146 (t := 194) rfl ?_
              refine w_lo dX5_read_194 rfl rfl rfl rfl ?_
              rcases Int.decEq x22.toInt (0 : Int) with h26 | h26
              · skip
                refine w_ine_t dX5_read_196 (t := 201) rfl (by omega) ?_
                refine w_lo dX5_read_201 rfl rfl rfl rfl ?_
                refine w_bi dX5_read_202 (c := 59) (by decide) ?_
                refine w_iv dX5_read_204 rfl rfl (As := [.int 59]) rfl rfl hJ25.1.1 zs_2 (Nat.le_of_ble_eq_true rfl) ?_
                refine ZV.imp (k_1299 59 (by have := zt_59; omega) (by have := zt_59; omega) hN hJ25.1) ?_
                rintro _ ⟨x30, M27, rfl, h31, h32, hJ28, hq29⟩
                have hJ33 := zJ_trans hJ25 hJ28 zSub_nil
                show ZW _ _ _ _ _ _ _ (207, [some (.ref 2), o30_1, some (.int u30_2), some (.int v30_3), some (.int x22)], [.int x30], M27)
                rcases Int.decEq x30.toInt (0 : Int) with h34 | h34
                · skip
                  refine w_ine_t dX5_read_207 (t := 216) rfl (by omega) ?_
                  refine w_lo dX5_read_216 rfl rfl rfl rfl ?_
                  refine w_iv dX5_read_217 rfl rfl (As := []) rfl rfl hJ33.1.1 zs_2 (Nat.le_of_ble_eq_true rfl) ?_
                  refine ZV.imp (k_1289 hN hJ33.1) ?_
                  rintro _ ⟨M35, rfl, hJ36, hq37⟩
                  have hJ38 := zJ_trans hJ33 hJ36 (zSub_cons (fun _ _ h h' hk => zIR_s (zIR_s (zIR_s (zIR_s (zIR_s (zIR_s (zIR_s (zIR_s (zIR_s (zIR_s (zIR_s (zIR_s (zIR_s (zIR_s (zIR_s (zIR_s (zIR_s (zIR_s (zIR_s (zIR_e (by omega) (by omega) hk)))))))))))))))))))) zSub_nil)
                  show ZW _ _ _ _ _ _ _ (220, [some (.ref 2), o30_1, some (.int u30_2), some (.int v30_3), some (.int x22)], [], M35)
                  refine w_inc (kk := 3) dX5_read_220 rfl (m := 1) (by decide) (by omega) ?_
                  intro x39 h40
                  refine ⟨_, rfl, ?_⟩
                  show ZW _ _ _ _ _ _ _ (223, [some (.ref 2), o30_1, some (.int u30_2), some (.int x39), some (.int x22)], [], M35)
                  refine w_gt dX5_read_223 (t := 30) rfl ?_
                  exact ih30 M35 o30_1 u30_2 x39 (some (.int x22)) hJ38 (by omega) (by omega) (by omega)
                · skip
                  refine w_ine_f dX5_read_207 (t := 216) rfl (by omega) ?_
                  refine w_lo dX5_read_210 rfl rfl rfl rfl ?_
                  refine w_ic dX5_read_211 zi_1 ?_
                  refine w_iv dX5_read_212 rfl rfl (As := [.int 1]) rfl rfl hJ33.1.1 zs_2 (Nat.le_of_ble_eq_true rfl) ?_
                  refine ZV.imp (k_1286 1 (by have := zt_1; omega) (by have := zt_1; omega) hN hJ33.1) ?_
                  rintro _ ⟨x44, M41, rfl, h45, h46, hJ42, hq43⟩
                  have hJ47 := zJ_trans hJ33 hJ42 (zSub_cons (fun _ _ h h' hk => zIR_e (by omega) (by omega) hk) (zSub_cons (fun _ _ h h' hk => zIR_s (zIR_s (zIR_s (zIR_s (zIR_s (zIR_e (by omega) (by omega) hk)))))) zSub_nil))
                  show ZW _ _ _ _ _ _ _ (215, [some (.ref 2), o30_1, some (.int u30_2), some (.int v30_3), some (.int x22)], [.int x44], M41)
                  refine w_eni dX5_read_215 rfl (znb (by omega) (by omega)) ?_
                  exact ⟨_, _, rfl, (by omega), (by omega), hJ47, trivial⟩
              · skip
                refine w_ine_f dX5_read_196 (t := 201) rfl (by omega) ?_
                refine w_ic dX5_read_199 zi_0 ?_
                refine w_en dX5_read_200 rfl ?_
                exact ⟨_, _, rfl, (by have := zt_0; omega), (by have := zt_0; omega), hJ25, trivial⟩
            rcases Int.decEq x14.toInt (8 : Int) with h48 | h48
            rotate_left
            · skip
              refine w_ts dX5_read_74 (t := 187) (j := 8) h48 (by decide) ?_
              refine w_lo dX5_read_187 rfl rfl rfl rfl ?_
              refine w_ic dX5_read_188 zi_1 ?_
              refine w_iv dX5_read_189 rfl rfl (As := [.int 1]) rfl rfl hJ17.1.1 zs_2 (Nat.le_of_ble_eq_true rfl) ?_
              refine ZV.imp (k_1286 1 (by have := zt_1; omega) (by have := zt_1; omega) hN hJ17.1) ?_
              rintro _ ⟨x52, M49, rfl, h53, h54, hJ50, hq51⟩
              have hJ55 := zJ_trans hJ17 hJ50 (zSub_cons (fun _ _ h h' hk => zIR_e (by omega) (by omega) hk) (zSub_cons (fun _ _ h h' hk => zIR_s (zIR_s (zIR_s (zIR_s (zIR_s (zIR_e (by omega) (by omega) hk)))))) zSub_nil))
              show ZW _ _ _ _ _ _ _ (192, [some (.ref 2), o30_1, some (.int u30_2), some (.int v30_3), o30_4], [.int x52], M49)
              refine w_lo (ml' := [some (.ref 2), o30_1, some (.int u30_2), some (.int v30_3), some (.int x52)]) dX5_read_192 rfl rfl rfl rfl ?_
              refine w_lo dX5_read_194 rfl rfl rfl rfl ?_
              refine w_ine_f dX5_read_196 (t := 201) rfl (by omega) ?_
              refine w_ic dX5_read_199 zi_0 ?_
              refine w_en dX5_read_200 rfl ?_
              exact ⟨_, _, rfl, (by have := zt_0; omega), (by have := zt_0; omega), hJ55, trivial⟩
            rcases Int.decEq x14.toInt (9 : Int) with h56 | h56
            rotate_left
            · skip
              refine w_ts dX5_read_74 (t := 187) (j := 9) h56 (by decide) ?_
              refine w_lo dX5_read_187 rfl rfl rfl rfl ?_
              refine w_ic dX5_read_188 zi_1 ?_
              refine w_iv dX5_read_189 rfl rfl (As := [.int 1]) rfl rfl hJ17.1.1 zs_2 (Nat.le_of_ble_eq_true rfl) ?_
              refine ZV.imp (k_1286 1 (by have := zt_1; omega) (by have := zt_1; omega) hN hJ17.1) ?_
              rintro _ ⟨x60, M57, rfl, h61, h62, hJ58, hq59⟩
              have hJ63 := zJ_trans hJ17 hJ58 (zSub_cons (fun _ _ h h' hk => zIR_e (by omega) (by omega) hk) (zSub_cons (fun _ _ h h' hk => zIR_s (zIR_s (zIR_s (zIR_s (zIR_s (zIR_e (by omega) (by omega) hk)))))) zSub_nil))
              show ZW _ _ _ _ _ _ _ (192, [some (.ref 2), o30_1, some (.int u30_2), some (.int v30_3), o30_4], [.int x60], M57)
              refine w_lo (ml' := [some (.ref 2), o30_1, some (.int u30_2), some (.int v30_3), some (.int x60)]) dX5_read_192 rfl rfl rfl rfl ?_
              refine w_lo dX5_read_194 rfl rfl rfl rfl ?_
              refine w_ine_f dX5_read_196 (t := 201) rfl (by omega) ?_
              refine w_ic dX5_read_199 zi_0 ?_
              refine w_en dX5_read_200 rfl ?_
              exact ⟨_, _, rfl, (by have := zt_0; omega), (by have := zt_0; omega), hJ63, trivial⟩
            rcases Int.decEq x14.toInt (10 : Int) with h64 | h64
            rotate_left
            · skip
              refine w_ts dX5_read_74 (t := 187) (j := 10) h64 (by decide) ?_
              refine w_lo dX5_read_187 rfl rfl rfl rfl ?_
              refine w_ic dX5_read_188 zi_1 ?_
              refine w_iv dX5_read_189 rfl rfl (As := [.int 1]) rfl rfl hJ17.1.1 zs_2 (Nat.le_of_ble_eq_true rfl) ?_
              refine ZV.imp (k_1286 1 (by have := zt_1; omega) (by have := zt_1; omega) hN hJ17.1) ?_
              rintro _ ⟨x68, M65, rfl, h69, h70, hJ66, hq67⟩
              have hJ71 := zJ_trans hJ17 hJ66 (zSub_cons (fun _ _ h h' hk => zIR_e (by omega) (by omega) hk) (zSub_cons (fun _ _ h h' hk => zIR_s (zIR_s (zIR_s (zIR_s (zIR_s (zIR_e (by omega) (by omega) hk)))))) zSub_nil))
              show ZW _ _ _ _ _ _ _ (192, [some (.ref 2), o30_1, some (.int u30_2), some (.int v30_3), o30_4], [.int x68], M65)
              refine w_lo (ml' := [some (.ref 2), o30_1, some (.int u30_2), some (.int v30_3), some (.int x68)]) dX5_read_192 rfl rfl rfl rfl ?_
              refine w_lo dX5_read_194 rfl rfl rfl rfl ?_
              refine w_ine_f dX5_read_196 (t := 201) rfl (by omega) ?_
              refine w_ic dX5_read_199 zi_0 ?_
              refine w_en dX5_read_200 rfl ?_
              exact ⟨_, _, rfl, (by have := zt_0; omega), (by have := zt_0; omega), hJ71, trivial⟩
            rcases Int.decEq x14.toInt (11 : Int) with h72 | h72
            rotate_left
            · skip
              refine w_ts dX5_read_74 (t := 187) (j := 11) h72 (by decide) ?_
              refine w_lo dX5_read_187 rfl rfl rfl rfl ?_
              refine w_ic dX5_read_188 zi_1 ?_
              refine w_iv dX5_read_189 rfl rfl (As := [.int 1]) rfl rfl hJ17.1.1 zs_2 (Nat.le_of_ble_eq_true rfl) ?_
              refine ZV.imp (k_1286 1 (by have := zt_1; omega) (by have := zt_1; omega) hN hJ17.1) ?_
              rintro _ ⟨x76, M73, rfl, h77, h78, hJ74, hq75⟩
              have hJ79 := zJ_trans hJ17 hJ74 (zSub_cons (fun _ _ h h' hk => zIR_e (by omega) (by omega) hk) (zSub_cons (fun _ _ h h' hk => zIR_s (zIR_s (zIR_s (zIR_s (zIR_s (zIR_e (by omega) (by omega) hk)))))) zSub_nil))
              show ZW _ _ _ _ _ _ _ (192, [some (.ref 2), o30_1, some (.int u30_2), some (.int v30_3), o30_4], [.int x76], M73)
              refine w_lo (ml' := [some (.ref 2), o30_1, some (.int u30_2), some (.int v30_3), some (.int x76)]) dX5_read_192 rfl rfl rfl rfl ?_
              refine w_lo dX5_read_194 rfl rfl rfl rfl ?_
              refine w_ine_f dX5_read_196 (t := 201) rfl (by omega) ?_
              refine w_ic dX5_read_199 zi_0 ?_
              refine w_en dX5_read_200 rfl ?_
              exact ⟨_, _, rfl, (by have := zt_0; omega), (by have := zt_0; omega), hJ79, trivial⟩
            rcases Int.decEq x14.toInt (12 : Int) with h80 | h80
            rotate_left
            · skip
              refine w_ts dX5_read_74 (t := 149) (j := 12) h80 (by decide) ?_
              refine w_lo dX5_read_149 rfl rfl rfl rfl ?_
              refine w_iv dX5_read_150 rfl rfl (As := []) rfl rfl hJ17.1.1 zs_2 (Nat.le_of_ble_eq_true rfl) ?_
              refine ZV.imp (k_1294 hN hJ17.1) ?_
              rintro _ ⟨x84, M81, rfl, h85, h86, hJ82, hq83⟩
              have hJ87 := zJ_trans hJ17 hJ82 (zSub_cons (fun _ _ h h' hk => zIR_e (by omega) (by omega) hk) (zSub_cons (fun _ _ h h' hk => zIR_s (zIR_s (zIR_s (zIR_s (zIR_s (zIR_e (by omega) (by omega) hk)))))) (zSub_cons (fun _ _ h h' hk => zIR_s (zIR_s (zIR_s (zIR_s (zIR_s (zIR_s (zIR_s (zIR_s (zIR_s (zIR_s (zIR_e (by omega) (by omega) hk))))))))))) (zSub_cons (fun _ _ h h' hk => zIR_s (zIR_s (zIR_s (zIR_s (zIR_s (zIR_s (zIR_s (zIR_s (zIR_s (zIR_s (zIR_s (zIR_s (zIR_a (by omega) (by omega)))))))))))))) (zSub_cons (fun _ _ h h' hk => zIR_s (zIR_s (zIR_s (zIR_s (zIR_s (zIR_s (zIR_s (zIR_s (zIR_s (zIR_s (zIR_s (zIR_s (zIR_s (zIR_s (zIR_a (by omega) (by omega)))))))))))))))) (zSub_cons (fun _ _ h h' hk => zIR_s (zIR_s (zIR_s (zIR_s (zIR_s (zIR_s (zIR_s (zIR_s (zIR_s (zIR_s (zIR_s (zIR_s (zIR_s (zIR_s (zIR_s (zIR_s (zIR_s (zIR_s (zIR_s (zIR_e (by omega) (by omega) hk)))))))))))))))))))) zSub_nil))))))
              show ZW _ _ _ _ _ _ _ (153, [some (.ref 2), o30_1, some (.int u30_2), some (.int v30_3), o30_4], [.int x84], M81)
              refine w_lo (ml' := [some (.ref 2), o30_1, some (.int u30_2), some (.int v30_3), some (.int x84)]) dX5_read_153 rfl rfl rfl rfl ?_
              refine w_gt dX5_read_155 (t := 194) rfl ?_
              refine w_lo dX5_read_194 rfl rfl rfl rfl ?_
              rcases Int.decEq x84.toInt (0 : Int) with h88 | h88
              · skip
                refine w_ine_t dX5_read_196 (t := 201) rfl (by omega) ?_
                refine w_lo dX5_read_201 rfl rfl rfl rfl ?_
                refine w_bi dX5_read_202 (c := 59) (by decide) ?_
                refine w_iv dX5_read_204 rfl rfl (As := [.int 59]) rfl rfl hJ87.1.1 zs_2 (Nat.le_of_ble_eq_true rfl) ?_
                refine ZV.imp (k_1299 59 (by have := zt_59; omega) (by have := zt_59; omega) hN hJ87.1) ?_
                rintro _ ⟨x92, M89, rfl, h93, h94, hJ90, hq91⟩
                have hJ95 := zJ_trans hJ87 hJ90 zSub_nil
                show ZW _ _ _ _ _ _ _ (207, [some (.ref 2), o30_1, some (.int u30_2), some (.int v30_3), some (.int x84)], [.int x92], M89)
                rcases Int.decEq x92.toInt (0 : Int) with h96 | h96
                · skip
                  refine w_ine_t dX5_read_207 (t := 216) rfl (by omega) ?_
                  refine w_lo dX5_read_216 rfl rfl rfl rfl ?_
                  refine w_iv dX5_read_217 rfl rfl (As := []) rfl rfl hJ95.1.1 zs_2 (Nat.le_of_ble_eq_true rfl) ?_
                  refine ZV.imp (k_1289 hN hJ95.1) ?_
                  rintro _ ⟨M97, rfl, hJ98, hq99⟩
                  have hJ100 := zJ_trans hJ95 hJ98 (zSub_cons (fun _ _ h h' hk => zIR_s (zIR_s (zIR_s (zIR_s (zIR_s (zIR_s (zIR_s (zIR_s (zIR_s (zIR_s (zIR_s (zIR_s (zIR_s (zIR_s (zIR_s (zIR_s (zIR_s (zIR_s (zIR_s (zIR_e (by omega) (by omega) hk)))))))))))))))))))) zSub_nil)
                  show ZW _ _ _ _ _ _ _ (220, [some (.ref 2), o30_1, some (.int u30_2), some (.int v30_3), some (.int x84)], [], M97)
                  refine w_inc (kk := 3) dX5_read_220 rfl (m := 1) (by decide) (by omega) ?_
                  intro x101 h102
                  refine ⟨_, rfl, ?_⟩
                  show ZW _ _ _ _ _ _ _ (223, [some (.ref 2), o30_1, some (.int u30_2), some (.int x101), some (.int x84)], [], M97)
                  refine w_gt dX5_read_223 (t := 30) rfl ?_
                  exact ih30 M97 o30_1 u30_2 x101 (some (.int x84)) hJ100 (by omega) (by omega) (by omega)
                · skip
                  refine w_ine_f dX5_read_207 (t := 216) rfl (by omega) ?_
                  refine w_lo dX5_read_210 rfl rfl rfl rfl ?_
                  refine w_ic dX5_read_211 zi_1 ?_
                  refine w_iv dX5_read_212 rfl rfl (As := [.int 1]) rfl rfl hJ95.1.1 zs_2 (Nat.le_of_ble_eq_true rfl) ?_
                  refine ZV.imp (k_1286 1 (by have := zt_1; omega) (by have := zt_1; omega) hN hJ95.1) ?_
                  rintro _ ⟨x106, M103, rfl, h107, h108, hJ104, hq105⟩
                  have hJ109 := zJ_trans hJ95 hJ104 (zSub_cons (fun _ _ h h' hk => zIR_e (by omega) (by omega) hk) (zSub_cons (fun _ _ h h' hk => zIR_s (zIR_s (zIR_s (zIR_s (zIR_s (zIR_e (by omega) (by omega) hk)))))) zSub_nil))
                  show ZW _ _ _ _ _ _ _ (215, [some (.ref 2), o30_1, some (.int u30_2), some (.int v30_3), some (.int x84)], [.int x106], M103)
                  refine w_eni dX5_read_215 rfl (znb (by omega) (by omega)) ?_
                  exact ⟨_, _, rfl, (by omega), (by omega), hJ109, trivial⟩
              · skip
                refine w_ine_f dX5_read_196 (t := 201) rfl (by omega) ?_
                refine w_ic dX5_read_199 zi_0 ?_
                refine w_en dX5_read_200 rfl ?_
                exact ⟨_, _, rfl, (by have := zt_0; omega), (by have := zt_0; omega), hJ87, trivial⟩
            rcases Int.decEq x14.toInt (13 : Int) with h110 | h110
            rotate_left
            · skip
              refine w_ts dX5_read_74 (t := 187) (j := 13) h110 (by decide) ?_
              refine w_lo dX5_read_187 rfl rfl rfl rfl ?_
              refine w_ic dX5_read_188 zi_1 ?_
              refine w_iv dX5_read_189 rfl rfl (As := [.int 1]) rfl rfl hJ17.1.1 zs_2 (Nat.le_of_ble_eq_true rfl) ?_
              refine ZV.imp (k_1286 1 (by have := zt_1; omega) (by have := zt_1; omega) hN hJ17.1) ?_
              rintro _ ⟨x114, M111, rfl, h115, h116, hJ112, hq113⟩
              have hJ117 := zJ_trans hJ17 hJ112 (zSub_cons (fun _ _ h h' hk => zIR_e (by omega) (by omega) hk) (zSub_cons (fun _ _ h h' hk => zIR_s (zIR_s (zIR_s (zIR_s (zIR_s (zIR_e (by omega) (by omega) hk)))))) zSub_nil))
              show ZW _ _ _ _ _ _ _ (192, [some (.ref 2), o30_1, some (.int u30_2), some (.int v30_3), o30_4], [.int x114], M111)
              refine w_lo (ml' := [some (.ref 2), o30_1, some (.int u30_2), some (.int v30_3), some (.int x114)]) dX5_read_192 rfl rfl rfl rfl ?_
              refine w_lo dX5_read_194 rfl rfl rfl rfl ?_
              refine w_ine_f dX5_read_196 (t := 201) rfl (by omega) ?_
              refine w_ic dX5_read_199 zi_0 ?_
              refine w_en dX5_read_200 rfl ?_
              exact ⟨_, _, rfl, (by have := zt_0; omega), (by have := zt_0; omega), hJ117, trivial⟩
            rcases Int.decEq x14.toInt (14 : Int) with h118 | h118
            rotate_left
            · skip
              refine w_ts dX5_read_74 (t := 158) (j := 14) h118 (by decide) ?_
              refine w_lo dX5_read_158 rfl rfl rfl rfl ?_
              refine w_iv dX5_read_159 rfl rfl (As := []) rfl rfl hJ17.1.1 zs_2 (Nat.le_of_ble_eq_true rfl) ?_
              refine ZV.imp (k_1295 hN hJ17.1) ?_
              rintro _ ⟨x122, M119, rfl, h123, h124, hJ120, hq121⟩
              have hJ125 := zJ_trans hJ17 hJ120 (zSub_cons (fun _ _ h h' hk => zIR_e (by omega) (by omega) hk) (zSub_cons (fun _ _ h h' hk => zIR_s (zIR_s (zIR_s (zIR_s (zIR_s (zIR_e (by omega) (by omega) hk)))))) (zSub_cons (fun _ _ h h' hk => zIR_s (zIR_s (zIR_s (zIR_s (zIR_s (zIR_s (zIR_s (zIR_s (zIR_s (zIR_s (zIR_e (by omega) (by omega) hk))))))))))) (zSub_cons (fun _ _ h h' hk => zIR_s (zIR_s (zIR_s (zIR_s (zIR_s (zIR_s (zIR_s (zIR_s (zIR_s (zIR_s (zIR_s (zIR_s (zIR_a (by omega) (by omega)))))))))))))) (zSub_cons (fun _ _ h h' hk => zIR_s (zIR_s (zIR_s (zIR_s (zIR_s (zIR_s (zIR_s (zIR_s (zIR_s (zIR_s (zIR_s (zIR_s (zIR_s (zIR_s (zIR_a (by omega) (by omega)))))))))))))))) (zSub_cons (fun _ _ h h' hk => zIR_s (zIR_s (zIR_s (zIR_s (zIR_s (zIR_s (zIR_s (zIR_s (zIR_s (zIR_s (zIR_s (zIR_s (zIR_s (zIR_s (zIR_s (zIR_s (zIR_e (by omega) (by omega) hk))))))))))))))))) (zSub_cons (fun _ _ h h' hk => zIR_s (zIR_s (zIR_s (zIR_s (zIR_s (zIR_s (zIR_s (zIR_s (zIR_s (zIR_s (zIR_s (zIR_s (zIR_s (zIR_s (zIR_s (zIR_s (zIR_s (zIR_e (by omega) (by omega) hk)))))))))))))))))) (zSub_cons (fun _ _ h h' hk => zIR_s (zIR_s (zIR_s (zIR_s (zIR_s (zIR_s (zIR_s (zIR_s (zIR_s (zIR_s (zIR_s (zIR_s (zIR_s (zIR_s (zIR_s (zIR_s (zIR_s (zIR_s (zIR_s (zIR_e (by omega) (by omega) hk)))))))))))))))))))) (zSub_cons (fun _ _ h h' hk => zIR_s (zIR_s (zIR_s (zIR_s (zIR_s (zIR_s (zIR_s (zIR_s (zIR_s (zIR_s (zIR_s (zIR_s (zIR_s (zIR_s (zIR_s (zIR_s (zIR_s (zIR_s (zIR_s (zIR_s (zIR_e (by omega) (by omega) hk))))))))))))))))))))) zSub_nil)))))))))
              show ZW _ _ _ _ _ _ _ (162, [some (.ref 2), o30_1, some (.int u30_2), some (.int v30_3), o30_4], [.int x122], M119)
              refine w_lo (ml' := [some (.ref 2), o30_1, some (.int u30_2), some (.int v30_3), some (.int x122)]) dX5_read_162 rfl rfl rfl rfl ?_
              refine w_gt dX5_read_164 (t := 194) rfl ?_
              refine w_lo dX5_read_194 rfl rfl rfl rfl ?_
              rcases Int.decEq x122.toInt (0 : Int) with h126 | h126
              · skip
                refine w_ine_t dX5_read_196 (t := 201) rfl (by omega) ?_
                refine w_lo dX5_read_201 rfl rfl rfl rfl ?_
                refine w_bi dX5_read_202 (c := 59) (by decide) ?_
                refine w_iv dX5_read_204 rfl rfl (As := [.int 59]) rfl rfl hJ125.1.1 zs_2 (Nat.le_of_ble_eq_true rfl) ?_
                refine ZV.imp (k_1299 59 (by have := zt_59; omega) (by have := zt_59; omega) hN hJ125.1) ?_
                rintro _ ⟨x130, M127, rfl, h131, h132, hJ128, hq129⟩
                have hJ133 := zJ_trans hJ125 hJ128 zSub_nil
                show ZW _ _ _ _ _ _ _ (207, [some (.ref 2), o30_1, some (.int u30_2), some (.int v30_3), some (.int x122)], [.int x130], M127)
                rcases Int.decEq x130.toInt (0 : Int) with h134 | h134
                · skip
                  refine w_ine_t dX5_read_207 (t := 216) rfl (by omega) ?_
                  refine w_lo dX5_read_216 rfl rfl rfl rfl ?_
                  refine w_iv dX5_read_217 rfl rfl (As := []) rfl rfl hJ133.1.1 zs_2 (Nat.le_of_ble_eq_true rfl) ?_
                  refine ZV.imp (k_1289 hN hJ133.1) ?_
                  rintro _ ⟨M135, rfl, hJ136, hq137⟩
                  have hJ138 := zJ_trans hJ133 hJ136 (zSub_cons (fun _ _ h h' hk => zIR_s (zIR_s (zIR_s (zIR_s (zIR_s (zIR_s (zIR_s (zIR_s (zIR_s (zIR_s (zIR_s (zIR_s (zIR_s (zIR_s (zIR_s (zIR_s (zIR_s (zIR_s (zIR_s (zIR_e (by omega) (by omega) hk)))))))))))))))))))) zSub_nil)
                  show ZW _ _ _ _ _ _ _ (220, [some (.ref 2), o30_1, some (.int u30_2), some (.int v30_3), some (.int x122)], [], M135)
                  refine w_inc (kk := 3) dX5_read_220 rfl (m := 1) (by decide) (by omega) ?_
                  intro x139 h140
                  refine ⟨_, rfl, ?_⟩
                  show ZW _ _ _ _ _ _ _ (223, [some (.ref 2), o30_1, some (.int u30_2), some (.int x139), some (.int x122)], [], M135)
                  refine w_gt dX5_read_223 (t := 30) rfl ?_
                  exact ih30 M135 o30_1 u30_2 x139 (some (.int x122)) hJ138 (by omega) (by omega) (by omega)
                · skip
                  refine w_ine_f dX5_read_207 (t := 216) rfl (by omega) ?_
                  refine w_lo dX5_read_210 rfl rfl rfl rfl ?_
                  refine w_ic dX5_read_211 zi_1 ?_
                  refine w_iv dX5_read_212 rfl rfl (As := [.int 1]) rfl rfl hJ133.1.1 zs_2 (Nat.le_of_ble_eq_true rfl) ?_
                  refine ZV.imp (k_1286 1 (by have := zt_1; omega) (by have := zt_1; omega) hN hJ133.1) ?_
                  rintro _ ⟨x144, M141, rfl, h145, h146, hJ142, hq143⟩
                  have hJ147 := zJ_trans hJ133 hJ142 (zSub_cons (fun _ _ h h' hk => zIR_e (by omega) (by omega) hk) (zSub_cons (fun _ _ h h' hk => zIR_s (zIR_s (zIR_s (zIR_s (zIR_s (zIR_e (by omega) (by omega) hk)))))) zSub_nil))
                  show ZW _ _ _ _ _ _ _ (215, [some (.ref 2), o30_1, some (.int u30_2), some (.int v30_3), some (.int x122)], [.int x144], M141)
                  refine w_eni dX5_read_215 rfl (znb (by omega) (by omega)) ?_
                  exact ⟨_, _, rfl, (by omega), (by omega), hJ147, trivial⟩
              · skip
                refine w_ine_f dX5_read_196 (t := 201) rfl (by omega) ?_
                refine w_ic dX5_read_199 zi_0 ?_
                refine w_en dX5_read_200 rfl ?_
                exact ⟨_, _, rfl, (by have := zt_0; omega), (by have := zt_0; omega), hJ125, trivial⟩
            rcases Int.decEq x14.toInt (15 : Int) with h148 | h148
            rotate_left
            · skip
              refine w_ts dX5_read_74 (t := 187) (j := 15) h148 (by decide) ?_
              refine w_lo dX5_read_187 rfl rfl rfl rfl ?_
              refine w_ic dX5_read_188 zi_1 ?_
              refine w_iv dX5_read_189 rfl rfl (As := [.int 1]) rfl rfl hJ17.1.1 zs_2 (Nat.le_of_ble_eq_true rfl) ?_
              refine ZV.imp (k_1286 1 (by have := zt_1; omega) (by have := zt_1; omega) hN hJ17.1) ?_
              rintro _ ⟨x152, M149, rfl, h153, h154, hJ150, hq151⟩
              have hJ155 := zJ_trans hJ17 hJ150 (zSub_cons (fun _ _ h h' hk => zIR_e (by omega) (by omega) hk) (zSub_cons (fun _ _ h h' hk => zIR_s (zIR_s (zIR_s (zIR_s (zIR_s (zIR_e (by omega) (by omega) hk)))))) zSub_nil))
              show ZW _ _ _ _ _ _ _ (192, [some (.ref 2), o30_1, some (.int u30_2), some (.int v30_3), o30_4], [.int x152], M149)
              refine w_lo (ml' := [some (.ref 2), o30_1, some (.int u30_2), some (.int v30_3), some (.int x152)]) dX5_read_192 rfl rfl rfl rfl ?_
              refine w_lo dX5_read_194 rfl rfl rfl rfl ?_
              refine w_ine_f dX5_read_196 (t := 201) rfl (by omega) ?_
              refine w_ic dX5_read_199 zi_0 ?_
              refine w_en dX5_read_200 rfl ?_
              exact ⟨_, _, rfl, (by have := zt_0; omega), (by have := zt_0; omega), hJ155, trivial⟩
            rcases Int.decEq x14.toInt (16 : Int) with h156 | h156
            rotate_left
            · skip
              refine w_ts dX5_read_74 (t := 187) (j := 16) h156 (by decide) ?_
              refine w_lo dX5_read_187 rfl rfl rfl rfl ?_
              refine w_ic dX5_read_188 zi_1 ?_
              refine w_iv dX5_read_189 rfl rfl (As := [.int 1]) rfl rfl hJ17.1.1 zs_2 (Nat.le_of_ble_eq_true rfl) ?_
              refine ZV.imp (k_1286 1 (by have := zt_1; omega) (by have := zt_1; omega) hN hJ17.1) ?_
              rintro _ ⟨x160, M157, rfl, h161, h162, hJ158, hq159⟩
              have hJ163 := zJ_trans hJ17 hJ158 (zSub_cons (fun _ _ h h' hk => zIR_e (by omega) (by omega) hk) (zSub_cons (fun _ _ h h' hk => zIR_s (zIR_s (zIR_s (zIR_s (zIR_s (zIR_e (by omega) (by omega) hk)))))) zSub_nil))
              show ZW _ _ _ _ _ _ _ (192, [some (.ref 2), o30_1, some (.int u30_2), some (.int v30_3), o30_4], [.int x160], M157)
              refine w_lo (ml' := [some (.ref 2), o30_1, some (.int u30_2), some (.int v30_3), some (.int x160)]) dX5_read_192 rfl rfl rfl rfl ?_
              refine w_lo dX5_read_194 rfl rfl rfl rfl ?_
              refine w_ine_f dX5_read_196 (t := 201) rfl (by omega) ?_
              refine w_ic dX5_read_199 zi_0 ?_
              refine w_en dX5_read_200 rfl ?_
              exact ⟨_, _, rfl, (by have := zt_0; omega), (by have := zt_0; omega), hJ163, trivial⟩
            rcases Int.decEq x14.toInt (17 : Int) with h164 | h164
            rotate_left
            · skip
              refine w_ts dX5_read_74 (t := 187) (j := 17) h164 (by decide) ?_
              refine w_lo dX5_read_187 rfl rfl rfl rfl ?_
              refine w_ic dX5_read_188 zi_1 ?_
              refine w_iv dX5_read_189 rfl rfl (As := [.int 1]) rfl rfl hJ17.1.1 zs_2 (Nat.le_of_ble_eq_true rfl) ?_
              refine ZV.imp (k_1286 1 (by have := zt_1; omega) (by have := zt_1; omega) hN hJ17.1) ?_
              rintro _ ⟨x168, M165, rfl, h169, h170, hJ166, hq167⟩
              have hJ171 := zJ_trans hJ17 hJ166 (zSub_cons (fun _ _ h h' hk => zIR_e (by omega) (by omega) hk) (zSub_cons (fun _ _ h h' hk => zIR_s (zIR_s (zIR_s (zIR_s (zIR_s (zIR_e (by omega) (by omega) hk)))))) zSub_nil))
              show ZW _ _ _ _ _ _ _ (192, [some (.ref 2), o30_1, some (.int u30_2), some (.int v30_3), o30_4], [.int x168], M165)
              refine w_lo (ml' := [some (.ref 2), o30_1, some (.int u30_2), some (.int v30_3), some (.int x168)]) dX5_read_192 rfl rfl rfl rfl ?_
              refine w_lo dX5_read_194 rfl rfl rfl rfl ?_
              refine w_ine_f dX5_read_196 (t := 201) rfl (by omega) ?_
              refine w_ic dX5_read_199 zi_0 ?_
              refine w_en dX5_read_200 rfl ?_
              exact ⟨_, _, rfl, (by have := zt_0; omega), (by have := zt_0; omega), hJ171, trivial⟩
            rcases Int.decEq x14.toInt (18 : Int) with h172 | h172
            rotate_left
            · skip
              refine w_ts dX5_read_74 (t := 167) (j := 18) h172 (by decide) ?_
              refine w_lo dX5_read_167 rfl rfl rfl rfl ?_
              refine w_ic dX5_read_168 zi_0 ?_
              refine w_iv dX5_read_169 rfl rfl (As := [.int 0]) rfl rfl hJ17.1.1 zs_2 (Nat.le_of_ble_eq_true rfl) ?_
              refine ZV.imp (k_1296 0 (by have := zt_0; omega) (by have := zt_0; omega) hN hJ17.1) ?_
              rintro _ ⟨x176, M173, rfl, h177, h178, hJ174, hq175⟩
              have hJ179 := zJ_trans hJ17 hJ174 (zSub_cons (fun _ _ h h' hk => zIR_e (by omega) (by omega) hk) (zSub_cons (fun _ _ h h' hk => zIR_s (zIR_s (zIR_e (by omega) (by omega) hk))) (zSub_cons (fun _ _ h h' hk => zIR_s (zIR_s (zIR_s (zIR_s (zIR_e (by omega) (by omega) hk))))) (zSub_cons (fun _ _ h h' hk => zIR_s (zIR_s (zIR_s (zIR_s (zIR_s (zIR_e (by omega) (by omega) hk)))))) (zSub_cons (fun _ _ h h' hk => zIR_s (zIR_s (zIR_s (zIR_s (zIR_s (zIR_s (zIR_s (zIR_e (by omega) (by omega) hk)))))))) (zSub_cons (fun _ _ h h' hk => zIR_s (zIR_s (zIR_s (zIR_s (zIR_s (zIR_s (zIR_s (zIR_s (zIR_s (zIR_e (by omega) (by omega) hk)))))))))) (zSub_cons (fun _ _ h h' hk => zIR_s (zIR_s (zIR_s (zIR_s (zIR_s (zIR_s (zIR_s (zIR_s (zIR_s (zIR_s (zIR_s (zIR_s (zIR_s (zIR_a (by omega) (by omega))))))))))))))) (zSub_cons (fun _ _ h h' hk => zIR_s (zIR_s (zIR_s (zIR_s (zIR_s (zIR_s (zIR_s (zIR_s (zIR_s (zIR_s (zIR_s (zIR_s (zIR_s (zIR_s (zIR_s (zIR_a (by omega) (by omega))))))))))))))))) (zSub_cons (fun _ _ h h' hk => zIR_s (zIR_s (zIR_s (zIR_s (zIR_s (zIR_s (zIR_s (zIR_s (zIR_s (zIR_s (zIR_s (zIR_s (zIR_s (zIR_s (zIR_s (zIR_s (zIR_s (zIR_s (zIR_s (zIR_e (by omega) (by omega) hk)))))))))))))))))))) zSub_nil)))))))))
              show ZW _ _ _ _ _ _ _ (172, [some (.ref 2), o30_1, some (.int u30_2), some (.int v30_3), o30_4], [.int x176], M173)
              refine w_lo (ml' := [some (.ref 2), o30_1, some (.int u30_2), some (.int v30_3), some (.int x176)]) dX5_read_172 rfl rfl rfl rfl ?_
              refine w_gt dX5_read_174 (t := 194) rfl ?_
              refine w_lo dX5_read_194 rfl rfl rfl rfl ?_
              rcases Int.decEq x176.toInt (0 : Int) with h180 | h180
              · skip
                refine w_ine_t dX5_read_196 (t := 201) rfl (by omega) ?_
                refine w_lo dX5_read_201 rfl rfl rfl rfl ?_
                refine w_bi dX5_read_202 (c := 59) (by decide) ?_
                refine w_iv dX5_read_204 rfl rfl (As := [.int 59]) rfl rfl hJ179.1.1 zs_2 (Nat.le_of_ble_eq_true rfl) ?_
                refine ZV.imp (k_1299 59 (by have := zt_59; omega) (by have := zt_59; omega) hN hJ179.1) ?_
                rintro _ ⟨x184, M181, rfl, h185, h186, hJ182, hq183⟩
                have hJ187 := zJ_trans hJ179 hJ182 zSub_nil
                show ZW _ _ _ _ _ _ _ (207, [some (.ref 2), o30_1, some (.int u30_2), some (.int v30_3), some (.int x176)], [.int x184], M181)
                rcases Int.decEq x184.toInt (0 : Int) with h188 | h188
                · skip
                  refine w_ine_t dX5_read_207 (t := 216) rfl (by omega) ?_
                  refine w_lo dX5_read_216 rfl rfl rfl rfl ?_
                  refine w_iv dX5_read_217 rfl rfl (As := []) rfl rfl hJ187.1.1 zs_2 (Nat.le_of_ble_eq_true rfl) ?_
                  refine ZV.imp (k_1289 hN hJ187.1) ?_
                  rintro _ ⟨M189, rfl, hJ190, hq191⟩
                  have hJ192 := zJ_trans hJ187 hJ190 (zSub_cons (fun _ _ h h' hk => zIR_s (zIR_s (zIR_s (zIR_s (zIR_s (zIR_s (zIR_s (zIR_s (zIR_s (zIR_s (zIR_s (zIR_s (zIR_s (zIR_s (zIR_s (zIR_s (zIR_s (zIR_s (zIR_s (zIR_e (by omega) (by omega) hk)))))))))))))))))))) zSub_nil)
                  show ZW _ _ _ _ _ _ _ (220, [some (.ref 2), o30_1, some (.int u30_2), some (.int v30_3), some (.int x176)], [], M189)
                  refine w_inc (kk := 3) dX5_read_220 rfl (m := 1) (by decide) (by omega) ?_
                  intro x193 h194
                  refine ⟨_, rfl, ?_⟩
                  show ZW _ _ _ _ _ _ _ (223, [some (.ref 2), o30_1, some (.int u30_2), some (.int x193), some (.int x176)], [], M189)
                  refine w_gt dX5_read_223 (t := 30) rfl ?_
                  exact ih30 M189 o30_1 u30_2 x193 (some (.int x176)) hJ192 (by omega) (by omega) (by omega)
                · skip
                  refine w_ine_f dX5_read_207 (t := 216) rfl (by omega) ?_
                  refine w_lo dX5_read_210 rfl rfl rfl rfl ?_
                  refine w_ic dX5_read_211 zi_1 ?_
                  refine w_iv dX5_read_212 rfl rfl (As := [.int 1]) rfl rfl hJ187.1.1 zs_2 (Nat.le_of_ble_eq_true rfl) ?_
                  refine ZV.imp (k_1286 1 (by have := zt_1; omega) (by have := zt_1; omega) hN hJ187.1) ?_
                  rintro _ ⟨x198, M195, rfl, h199, h200, hJ196, hq197⟩
                  have hJ201 := zJ_trans hJ187 hJ196 (zSub_cons (fun _ _ h h' hk => zIR_e (by omega) (by omega) hk) (zSub_cons (fun _ _ h h' hk => zIR_s (zIR_s (zIR_s (zIR_s (zIR_s (zIR_e (by omega) (by omega) hk)))))) zSub_nil))
                  show ZW _ _ _ _ _ _ _ (215, [some (.ref 2), o30_1, some (.int u30_2), some (.int v30_3), some (.int x176)], [.int x198], M195)
                  refine w_eni dX5_read_215 rfl (znb (by omega) (by omega)) ?_
                  exact ⟨_, _, rfl, (by omega), (by omega), hJ201, trivial⟩
              · skip
                refine w_ine_f dX5_read_196 (t := 201) rfl (by omega) ?_
                refine w_ic dX5_read_199 zi_0 ?_
                refine w_en dX5_read_200 rfl ?_
                exact ⟨_, _, rfl, (by have := zt_0; omega), (by have := zt_0; omega), hJ179, trivial⟩
            rcases Int.decEq x14.toInt (19 : Int) with h202 | h202
            rotate_left
            · skip
              refine w_ts dX5_read_74 (t := 177) (j := 19) h202 (by decide) ?_
              refine w_lo dX5_read_177 rfl rfl rfl rfl ?_
              refine w_ic dX5_read_178 zi_1 ?_
              refine w_iv dX5_read_179 rfl rfl (As := [.int 1]) rfl rfl hJ17.1.1 zs_2 (Nat.le_of_ble_eq_true rfl) ?_
              refine ZV.imp (k_1296 1 (by have := zt_1; omega) (by have := zt_1; omega) hN hJ17.1) ?_
              rintro _ ⟨x206, M203, rfl, h207, h208, hJ204, hq205⟩
              have hJ209 := zJ_trans hJ17 hJ204 (zSub_cons (fun _ _ h h' hk => zIR_e (by omega) (by omega) hk) (zSub_cons (fun _ _ h h' hk => zIR_s (zIR_s (zIR_e (by omega) (by omega) hk))) (zSub_cons (fun _ _ h h' hk => zIR_s (zIR_s (zIR_s (zIR_s (zIR_e (by omega) (by omega) hk))))) (zSub_cons (fun _ _ h h' hk => zIR_s (zIR_s (zIR_s (zIR_s (zIR_s (zIR_e (by omega) (by omega) hk)))))) (zSub_cons (fun _ _ h h' hk => zIR_s (zIR_s (zIR_s (zIR_s (zIR_s (zIR_s (zIR_s (zIR_e (by omega) (by omega) hk)))))))) (zSub_cons (fun _ _ h h' hk => zIR_s (zIR_s (zIR_s (zIR_s (zIR_s (zIR_s (zIR_s (zIR_s (zIR_s (zIR_e (by omega) (by omega) hk)))))))))) (zSub_cons (fun _ _ h h' hk => zIR_s (zIR_s (zIR_s (zIR_s (zIR_s (zIR_s (zIR_s (zIR_s (zIR_s (zIR_s (zIR_s (zIR_s (zIR_s (zIR_a (by omega) (by omega))))))))))))))) (zSub_cons (fun _ _ h h' hk => zIR_s (zIR_s (zIR_s (zIR_s (zIR_s (zIR_s (zIR_s (zIR_s (zIR_s (zIR_s (zIR_s (zIR_s (zIR_s (zIR_s (zIR_s (zIR_a (by omega) (by omega))))))))))))))))) (zSub_cons (fun _ _ h h' hk => zIR_s (zIR_s (zIR_s (zIR_s (zIR_s (zIR_s (zIR_s (zIR_s (zIR_s (zIR_s (zIR_s (zIR_s (zIR_s (zIR_s (zIR_s (zIR_s (zIR_s (zIR_s (zIR_s (zIR_e (by omega) (by omega) hk)))))))))))))))))))) zSub_nil)))))))))
              show ZW _ _ _ _ _ _ _ (182, [some (.ref 2), o30_1, some (.int u30_2), some (.int v30_3), o30_4], [.int x206], M203)
              refine w_lo (ml' := [some (.ref 2), o30_1, some (.int u30_2), some (.int v30_3), some (.int x206)]) dX5_read_182 rfl rfl rfl rfl ?_
              refine w_gt dX5_read_184 (t := 194) rfl ?_
              refine w_lo dX5_read_194 rfl rfl rfl rfl ?_
              rcases Int.decEq x206.toInt (0 : Int) with h210 | h210
              · skip
                refine w_ine_t dX5_read_196 (t := 201) rfl (by omega) ?_
                refine w_lo dX5_read_201 rfl rfl rfl rfl ?_
                refine w_bi dX5_read_202 (c := 59) (by decide) ?_
                refine w_iv dX5_read_204 rfl rfl (As := [.int 59]) rfl rfl hJ209.1.1 zs_2 (Nat.le_of_ble_eq_true rfl) ?_
                refine ZV.imp (k_1299 59 (by have := zt_59; omega) (by have := zt_59; omega) hN hJ209.1) ?_
                rintro _ ⟨x214, M211, rfl, h215, h216, hJ212, hq213⟩
                have hJ217 := zJ_trans hJ209 hJ212 zSub_nil
                show ZW _ _ _ _ _ _ _ (207, [some (.ref 2), o30_1, some (.int u30_2), some (.int v30_3), some (.int x206)], [.int x214], M211)
                rcases Int.decEq x214.toInt (0 : Int) with h218 | h218
                · skip
                  refine w_ine_t dX5_read_207 (t := 216) rfl (by omega) ?_
                  refine w_lo dX5_read_216 rfl rfl rfl rfl ?_
                  refine w_iv dX5_read_217 rfl rfl (As := []) rfl rfl hJ217.1.1 zs_2 (Nat.le_of_ble_eq_true rfl) ?_
                  refine ZV.imp (k_1289 hN hJ217.1) ?_
                  rintro _ ⟨M219, rfl, hJ220, hq221⟩
                  have hJ222 := zJ_trans hJ217 hJ220 (zSub_cons (fun _ _ h h' hk => zIR_s (zIR_s (zIR_s (zIR_s (zIR_s (zIR_s (zIR_s (zIR_s (zIR_s (zIR_s (zIR_s (zIR_s (zIR_s (zIR_s (zIR_s (zIR_s (zIR_s (zIR_s (zIR_s (zIR_e (by omega) (by omega) hk)))))))))))))))))))) zSub_nil)
                  show ZW _ _ _ _ _ _ _ (220, [some (.ref 2), o30_1, some (.int u30_2), some (.int v30_3), some (.int x206)], [], M219)
                  refine w_inc (kk := 3) dX5_read_220 rfl (m := 1) (by decide) (by omega) ?_
                  intro x223 h224
                  refine ⟨_, rfl, ?_⟩
                  show ZW _ _ _ _ _ _ _ (223, [some (.ref 2), o30_1, some (.int u30_2), some (.int x223), some (.int x206)], [], M219)
                  refine w_gt dX5_read_223 (t := 30) rfl ?_
                  exact ih30 M219 o30_1 u30_2 x223 (some (.int x206)) hJ222 (by omega) (by omega) (by omega)
                · skip
                  refine w_ine_f dX5_read_207 (t := 216) rfl (by omega) ?_
                  refine w_lo dX5_read_210 rfl rfl rfl rfl ?_
                  refine w_ic dX5_read_211 zi_1 ?_
                  refine w_iv dX5_read_212 rfl rfl (As := [.int 1]) rfl rfl hJ217.1.1 zs_2 (Nat.le_of_ble_eq_true rfl) ?_
                  refine ZV.imp (k_1286 1 (by have := zt_1; omega) (by have := zt_1; omega) hN hJ217.1) ?_
                  rintro _ ⟨x228, M225, rfl, h229, h230, hJ226, hq227⟩
                  have hJ231 := zJ_trans hJ217 hJ226 (zSub_cons (fun _ _ h h' hk => zIR_e (by omega) (by omega) hk) (zSub_cons (fun _ _ h h' hk => zIR_s (zIR_s (zIR_s (zIR_s (zIR_s (zIR_e (by omega) (by omega) hk)))))) zSub_nil))
                  show ZW _ _ _ _ _ _ _ (215, [some (.ref 2), o30_1, some (.int u30_2), some (.int v30_3), some (.int x206)], [.int x228], M225)
                  refine w_eni dX5_read_215 rfl (znb (by omega) (by omega)) ?_
                  exact ⟨_, _, rfl, (by omega), (by omega), hJ231, trivial⟩
              · skip
                refine w_ine_f dX5_read_196 (t := 201) rfl (by omega) ?_
                refine w_ic dX5_read_199 zi_0 ?_
                refine w_en dX5_read_200 rfl ?_
                exact ⟨_, _, rfl, (by have := zt_0; omega), (by have := zt_0; omega), hJ209, trivial⟩
            refine w_td dX5_read_74 (t := 187) (by omega) rfl ?_
            refine w_lo dX5_read_187 rfl rfl rfl rfl ?_
            refine w_ic dX5_read_188 zi_1 ?_
            refine w_iv dX5_read_189 rfl rfl (As := [.int 1]) rfl rfl hJ17.1.1 zs_2 (Nat.le_of_ble_eq_true rfl) ?_
            refine ZV.imp (k_1286 1 (by have := zt_1; omega) (by have := zt_1; omega) hN hJ17.1) ?_
            rintro _ ⟨x235, M232, rfl, h236, h237, hJ233, hq234⟩
            have hJ238 := zJ_trans hJ17 hJ233 (zSub_cons (fun _ _ h h' hk => zIR_e (by omega) (by omega) hk) (zSub_cons (fun _ _ h h' hk => zIR_s (zIR_s (zIR_s (zIR_s (zIR_s (zIR_e (by omega) (by omega) hk)))))) zSub_nil))
            show ZW _ _ _ _ _ _ _ (192, [some (.ref 2), o30_1, some (.int u30_2), some (.int v30_3), o30_4], [.int x235], M232)
            refine w_lo (ml' := [some (.ref 2), o30_1, some (.int u30_2), some (.int v30_3), some (.int x235)]) dX5_read_192 rfl rfl rfl rfl ?_
            refine w_lo dX5_read_194 rfl rfl rfl rfl ?_
            refine w_ine_f dX5_read_196 (t := 201) rfl (by omega) ?_
            refine w_ic dX5_read_199 zi_0 ?_
            refine w_en dX5_read_200 rfl ?_
            exact ⟨_, _, rfl, (by have := zt_0; omega), (by have := zt_0; omega), hJ238, trivial⟩
          · skip
            refine w_cne_f dX5_read_61 (t := 70) rfl (by have := zt_90; omega) ?_
            refine w_lo dX5_read_64 rfl rfl rfl rfl ?_
            refine w_ic dX5_read_65 zi_5 ?_
            refine w_iv dX5_read_66 rfl rfl (As := [.int 5]) rfl rfl hJ.1.1 zs_2 (Nat.le_of_ble_eq_true rfl) ?_
            refine ZV.imp (k_1286 5 (by have := zt_5; omega) (by have := zt_5; omega) hN hJ.1) ?_
            rintro _ ⟨x242, M239, rfl, h243, h244, hJ240, hq241⟩
            have hJ245 := zJ_trans hJ hJ240 (zSub_cons (fun _ _ h h' hk => zIR_e (by omega) (by omega) hk) (zSub_cons (fun _ _ h h' hk => zIR_s (zIR_s (zIR_s (zIR_s (zIR_s (zIR_e (by omega) (by omega) hk)))))) zSub_nil))
            show ZW _ _ _ _ _ _ _ (69, [some (.ref 2), o30_1, some (.int u30_2), some (.int v30_3), o30_4], [.int x242], M239)
            refine w_eni dX5_read_69 rfl (znb (by omega) (by omega)) ?_
            exact ⟨_, _, rfl, (by omega), (by omega), hJ245, trivial⟩
        · skip
          refine w_ine_f dX5_read_45 (t := 58) rfl (by omega) ?_
          refine w_lo dX5_read_48 rfl rfl rfl rfl ?_
          obtain ⟨b246, f247, h248⟩ := zd_2_8 hJ.1
          have h249 := zDm_b h248
          refine w_gf dX5_read_49 rfl hJ.1.1 zs_2 f247 ?_
          refine w_lo dX5_read_52 rfl rfl rfl rfl ?_
          refine w_pfi dX5_read_53 rfl hJ (zs_1_0 h248) (Nat.le_of_ble_eq_true rfl) (zo_1_0_0 h248) (by omega) (by omega) ((zDm_or h248).elim (fun e => zIR_s (zIR_k (by omega) (by omega))) (fun e => zIR_s (zIR_s (zIR_s (zIR_k (by omega) (by omega)))))) rfl rfl rfl ?_
          intro M250 hJ251 f252 hn253
          refine w_ic dX5_read_56 zi_1 ?_
          refine w_en dX5_read_57 rfl ?_
          exact ⟨_, _, rfl, (by have := zt_1; omega), (by have := zt_1; omega), hJ251, trivial⟩
  have ih30 := main 282
  show ZW _ _ _ _ _ _ _ (0, [some (.ref 2), some (.ref 1), some (.int a1), none, none], [], M0)
  refine w_lo dX5_read_0 rfl rfl rfl rfl ?_
  obtain ⟨b254, f255, h256⟩ := zd_2_8 hJ0.1
  have h257 := zDm_b h256
  refine w_gf dX5_read_1 rfl hJ0.1.1 zs_2 f255 ?_
  refine w_iv dX5_read_4 rfl rfl (As := []) rfl rfl hJ0.1.1 (zs_1_0 h256) (Nat.le_of_ble_eq_true rfl) ?_
  refine ZV.imp (k_257 b254 h256 hN hJ0.1) ?_
  rintro _ ⟨M258, rfl, hJ259, hq260⟩
  have hJ261 := zJ_trans hJ0 hJ259 (zSub_cons (fun _ _ h h' hk => ((zDm_or h256).elim (fun e => zIR_s (zIR_e (by omega) (by omega) hk)) (fun e => zIR_s (zIR_s (zIR_s (zIR_e (by omega) (by omega) hk)))))) (zSub_cons (fun _ _ h h' hk => ((zDm_or h256).elim (fun e => zIR_s (zIR_s (zIR_e (by omega) (by omega) hk))) (fun e => zIR_s (zIR_s (zIR_s (zIR_s (zIR_e (by omega) (by omega) hk))))))) (zSub_cons (fun _ _ h h' hk => ((zDm_or h256).elim (fun e => zIR_s (zIR_s (zIR_s (zIR_s (zIR_s (zIR_s (zIR_e (by omega) (by omega) hk))))))) (fun e => zIR_s (zIR_s (zIR_s (zIR_s (zIR_s (zIR_s (zIR_s (zIR_s (zIR_e (by omega) (by omega) hk))))))))))) (zSub_cons (fun _ _ h h' hk => ((zDm_or h256).elim (fun e => zIR_s (zIR_s (zIR_s (zIR_s (zIR_s (zIR_s (zIR_s (zIR_e (by omega) (by omega) hk)))))))) (fun e => zIR_s (zIR_s (zIR_s (zIR_s (zIR_s (zIR_s (zIR_s (zIR_s (zIR_s (zIR_e (by omega) (by omega) hk)))))))))))) (zSub_cons (fun _ _ h h' hk => ((zDm_or h256).elim (fun e => zIR_s (zIR_s (zIR_s (zIR_s (zIR_s (zIR_s (zIR_s (zIR_s (zIR_s (zIR_s (zIR_s (zIR_s (zIR_a (by omega) (by omega)))))))))))))) (fun e => zIR_s (zIR_s (zIR_s (zIR_s (zIR_s (zIR_s (zIR_s (zIR_s (zIR_s (zIR_s (zIR_s (zIR_s (zIR_s (zIR_s (zIR_a (by omega) (by omega)))))))))))))))))) (zSub_cons (fun _ _ h h' hk => ((zDm_or h256).elim (fun e => zIR_s (zIR_s (zIR_s (zIR_s (zIR_s (zIR_s (zIR_s (zIR_s (zIR_s (zIR_s (zIR_s (zIR_s (zIR_s (zIR_s (zIR_s (zIR_s (zIR_e (by omega) (by omega) hk))))))))))))))))) (fun e => zIR_s (zIR_s (zIR_s (zIR_s (zIR_s (zIR_s (zIR_s (zIR_s (zIR_s (zIR_s (zIR_s (zIR_s (zIR_s (zIR_s (zIR_s (zIR_s (zIR_s (zIR_e (by omega) (by omega) hk)))))))))))))))))))) zSub_nil))))))
  show ZW _ _ _ _ _ _ _ (7, [some (.ref 2), some (.ref 1), some (.int a1), none, none], [], M258)
  refine w_lo dX5_read_7 rfl rfl rfl rfl ?_
  refine w_ic dX5_read_8 zi_0 ?_
  refine w_pfi dX5_read_9 rfl hJ261 zs_2 (Nat.le_of_ble_eq_true rfl) zo_2_0 (by have := zt_0; omega) (by have := zt_0; omega) (zIR_k (by omega) (by omega)) rfl rfl rfl ?_
  intro M262 hJ263 f264 hn265
  refine w_lo dX5_read_12 rfl rfl rfl rfl ?_
  refine w_ic dX5_read_13 zi_m1 ?_
  refine w_pfi dX5_read_14 rfl hJ263 zs_2 (Nat.le_of_ble_eq_true rfl) zo_2_1 (zbot _) (ztop _) (zIR_s (zIR_s (zIR_s (zIR_s (zIR_s (zIR_k (by omega) (by omega))))))) rfl rfl rfl ?_
  intro M266 hJ267 f268 hn269
  refine w_lo dX5_read_17 rfl rfl rfl rfl ?_
  refine w_ic dX5_read_18 zi_0 ?_
  refine w_pfi dX5_read_19 rfl hJ267 zs_2 (Nat.le_of_ble_eq_true rfl) zo_2_7 (by have := zt_0; omega) (by have := zt_0; omega) (zIR_s (zIR_s (zIR_s (zIR_s (zIR_s (zIR_s (zIR_s (zIR_s (zIR_s (zIR_s (zIR_s (zIR_s (zIR_s (zIR_s (zIR_s (zIR_s (zIR_s (zIR_s (zIR_s (zIR_k (by omega) (by omega))))))))))))))))))))) rfl rfl rfl ?_
  intro M270 hJ271 f272 hn273
  refine w_lo dX5_read_22 rfl rfl rfl rfl ?_
  refine w_lo dX5_read_23 rfl rfl rfl rfl ?_
  refine w_lo dX5_read_24 rfl rfl rfl rfl ?_
  refine w_iv dX5_read_25 rfl rfl (As := [.ref 1, .int a1]) rfl rfl hJ271.1.1 zs_2 (Nat.le_of_ble_eq_true rfl) ?_
  refine ZV.imp (k_1282 a1 (by omega) (by omega) hN hJ271.1) ?_
  rintro _ ⟨M274, rfl, hJ275, hq276⟩
  have hJ277 := zJ_trans hJ271 hJ275 (zSub_cons (fun _ _ h h' hk => zIR_s (zIR_s (zIR_s (zIR_s (zIR_s (zIR_s (zIR_s (zIR_s (zIR_s (zIR_s (zIR_s (zIR_a (by omega) (by omega))))))))))))) (zSub_cons (fun _ _ h h' hk => zIR_s (zIR_s (zIR_s (zIR_s (zIR_s (zIR_s (zIR_s (zIR_s (zIR_s (zIR_s (zIR_s (zIR_s (zIR_s (zIR_s (zIR_s (zIR_s (zIR_s (zIR_s (zIR_e (by omega) (by omega) hk))))))))))))))))))) zSub_nil))
  show ZW _ _ _ _ _ _ _ (28, [some (.ref 2), some (.ref 1), some (.int a1), none, none], [], M274)
  refine w_ic dX5_read_28 zi_0 ?_
  refine w_lo (ml' := [some (.ref 2), some (.ref 1), some (.int a1), some (.int 0), none]) dX5_read_29 rfl rfl rfl rfl ?_
  exact ih30 M274 (some (.ref 1)) a1 0 none hJ277 (by have := zt_0; omega) (by have := zt_0; omega) (by have := zt_0; omega)
set_option maxRecDepth 100000 in
theorem k_1538 {X : List Int32} {d N : Nat} {M0 : zM} (t : Nat) (ht : zRp t) (hN : N ≤ 600) (hB0 : zB N M0) : ZV X (d + 1) 1538 [.ref t] M0 (zRI N [] M0 (-2147483648) (2147483647) (fun _ _ => True)) := by
  have hbt := zRp_b ht
  have hJ0 : zJ N [] M0 M0 := zJ_refl hB0
  refine ZV.of (ini := false) rfl (Nat.le_of_ble_eq_true rfl) (by decide +kernel) ?_
  have main : ∀ n : Nat,
      (∀ (M : zM) (v4_1 : Int32) (v4_2 : Int32), zJ N [] M0 M → ((-2147483648 : Int) ≤ v4_1.toInt) → (v4_1.toInt ≤ 2147483647) → ((0 : Int) ≤ v4_2.toInt) → (v4_2.toInt ≤ 12) → 3 * (12 - v4_2.toInt) + 1 < (n : Int) → ZW X (d + 0) 6 false (some .int) cX6_awake (zRI N [] M0 (-2147483648) (2147483647) (fun _ _ => True)) (4, [some (.ref t), some (.int v4_1), some (.int v4_2)], [], M)) := by
    intro n
    induction n with
    | zero =>
      exact (fun M v4_1 v4_2 hJ v4_10 v4_11 v4_20 v4_21 hn => absurd hn (by omega))
    | succ n ih =>
      have ih4 := ih
      · intro M v4_1 v4_2 hJ v4_10 v4_11 v4_20 v4_21 hn
        refine w_lo dX6_awake_4 rfl rfl rfl rfl ?_
        refine w_lo dX6_awake_5 rfl rfl rfl rfl ?_
        refine w_gfi dX6_awake_6 rfl hJ.1 (zs_6_0 ht) (Nat.le_of_ble_eq_true rfl) (zo_6_0_0 ht) ?_
        intro x1 f2 h3 h4
        rcases zcut v4_2.toInt x1.toInt with h5 | h5
        · skip
          refine w_cge_f dX6_awake_9 (t := 35) rfl (by omega) ?_
          refine w_lo dX6_awake_12 rfl rfl rfl rfl ?_
          refine w_lo dX6_awake_13 rfl rfl rfl rfl ?_
          refine w_gf dX6_awake_14 rfl hJ.1.1 (zs_6_0 ht) (zr_6_0_3 ht hJ.1) ?_
          refine w_lo dX6_awake_17 rfl rfl rfl rfl ?_
          refine w_bai dX6_awake_18 hJ.1 (zs_6_2 ht) (by omega) (by omega) (zu_6_2 ht) ?_
          intro x9 f6 h7 h8
          rcases Int.decEq x9.toInt (0 : Int) with h10 | h10
          · skip
            refine w_ieq_f dX6_awake_19 (t := 26) rfl (by omega) ?_
            refine w_ic dX6_awake_22 zi_0 ?_
            refine w_gt dX6_awake_23 (t := 27) rfl ?_
            refine w_add dX6_awake_27 (by have := zt_0; omega) ?_
            intro x11 h12
            have := zt_0
            refine w_lo (ml' := [some (.ref t), some (.int x11), some (.int v4_2)]) dX6_awake_28 rfl rfl rfl rfl ?_
            refine w_inc (kk := 2) dX6_awake_29 rfl (m := 1) (by decide) (by omega) ?_
            intro x13 h14
            refine ⟨_, rfl, ?_⟩
            show ZW _ _ _ _ _ _ _ (32, [some (.ref t), some (.int x11), some (.int x13)], [], M)
            refine w_gt dX6_awake_32 (t := 4) rfl ?_
            exact ih4 M x11 x13 hJ (zbot _) (ztop _) (by omega) (by omega) (by omega)
          · skip
            refine w_ieq_t dX6_awake_19 (t := 26) rfl (by omega) ?_
            refine w_ic dX6_awake_26 zi_1 ?_
            refine w_puI dX6_awake_27 rfl rfl ?_
            intro x15
            refine w_lo (ml' := [some (.ref t), some (.int x15), some (.int v4_2)]) dX6_awake_28 rfl rfl rfl rfl ?_
            refine w_inc (kk := 2) dX6_awake_29 rfl (m := 1) (by decide) (by omega) ?_
            intro x16 h17
            refine ⟨_, rfl, ?_⟩
            show ZW _ _ _ _ _ _ _ (32, [some (.ref t), some (.int x15), some (.int x16)], [], M)
            refine w_gt dX6_awake_32 (t := 4) rfl ?_
            exact ih4 M x15 x16 hJ (zbot _) (ztop _) (by omega) (by omega) (by omega)
        · skip
          refine w_cge_t dX6_awake_9 (t := 35) rfl (by omega) ?_
          refine w_lo dX6_awake_35 rfl rfl rfl rfl ?_
          refine w_eni dX6_awake_36 rfl rfl ?_
          exact ⟨_, _, rfl, (zbot _), (ztop _), hJ, trivial⟩
  have ih4 := main 48
  show ZW _ _ _ _ _ _ _ (0, [some (.ref t), none, none], [], M0)
  refine w_ic dX6_awake_0 zi_0 ?_
  refine w_lo (ml' := [some (.ref t), some (.int 0), none]) dX6_awake_1 rfl rfl rfl rfl ?_
  refine w_ic dX6_awake_2 zi_0 ?_
  refine w_lo (ml' := [some (.ref t), some (.int 0), some (.int 0)]) dX6_awake_3 rfl rfl rfl rfl ?_
  exact ih4 M0 0 0 hJ0 (zbot _) (ztop _) (by have := zt_0; omega) (by have := zt_0; omega) (by have := zt_0; omega)
set_option maxRecDepth 100000 in
theorem k_1540 {X : List Int32} {d N : Nat} {M0 : zM} (t : Nat) (ht : zRp t) (a0 : Int32) (ha00 : (0 : Int) ≤ a0.toInt) (ha01 : a0.toInt ≤ 11) (hN : N ≤ 600) (hB0 : zB N M0) : ZV X (d + 1) 1540 [.ref t, .int a0] M0 (zRI N [] M0 (-1) (11) (fun _ _ => True)) := by
  have hbt := zRp_b ht
  have hJ0 : zJ N [] M0 M0 := zJ_refl hB0
  refine ZV.of (ini := false) rfl (Nat.le_of_ble_eq_true rfl) (by decide +kernel) ?_
  have main : ∀ n : Nat,
      (∀ (M : zM) (v2_1 : Int32) (v2_2 : Int32), zJ N [] M0 M → ((0 : Int) ≤ v2_1.toInt) → (v2_1.toInt ≤ 11) → ((0 : Int) ≤ v2_2.toInt) → (v2_2.toInt ≤ 12) → 3 * (12 - v2_2.toInt) + 1 < (n : Int) → ZW X (d + 0) 6 false (some .int) cX6_placeOf (zRI N [] M0 (-1) (11) (fun _ _ => True)) (2, [some (.ref t), some (.int v2_1), some (.int v2_2)], [], M)) := by
    intro n
    induction n with
    | zero =>
      exact (fun M v2_1 v2_2 hJ v2_10 v2_11 v2_20 v2_21 hn => absurd hn (by omega))
    | succ n ih =>
      have ih2 := ih
      · intro M v2_1 v2_2 hJ v2_10 v2_11 v2_20 v2_21 hn
        refine w_lo dX6_placeOf_2 rfl rfl rfl rfl ?_
        refine w_lo dX6_placeOf_3 rfl rfl rfl rfl ?_
        refine w_gfi dX6_placeOf_4 rfl hJ.1 (zs_6_0 ht) (Nat.le_of_ble_eq_true rfl) (zo_6_0_0 ht) ?_
        intro x1 f2 h3 h4
        rcases zcut v2_2.toInt x1.toInt with h5 | h5
        · skip
          refine w_cge_f dX6_placeOf_7 (t := 28) rfl (by omega) ?_
          refine w_lo dX6_placeOf_10 rfl rfl rfl rfl ?_
          refine w_gf dX6_placeOf_11 rfl hJ.1.1 (zs_6_0 ht) (zr_6_0_2 ht hJ.1) ?_
          refine w_lo dX6_placeOf_14 rfl rfl rfl rfl ?_
          refine w_iai dX6_placeOf_15 hJ.1 (zs_6_1 ht) (by omega) (by omega) (zu_6_1 ht) ?_
          intro x9 f6 h7 h8
          refine w_lo dX6_placeOf_16 rfl rfl rfl rfl ?_
          rcases Int.decEq x9.toInt v2_1.toInt with h10 | h10
          · skip
            refine w_cne_t dX6_placeOf_17 (t := 22) rfl (by omega) ?_
            refine w_inc (kk := 2) dX6_placeOf_22 rfl (m := 1) (by decide) (by omega) ?_
            intro x11 h12
            refine ⟨_, rfl, ?_⟩
            show ZW _ _ _ _ _ _ _ (25, [some (.ref t), some (.int v2_1), some (.int x11)], [], M)
            refine w_gt dX6_placeOf_25 (t := 2) rfl ?_
            exact ih2 M v2_1 x11 hJ (by omega) (by omega) (by omega) (by omega) (by omega)
          · skip
            refine w_cne_f dX6_placeOf_17 (t := 22) rfl (by omega) ?_
            refine w_lo dX6_placeOf_20 rfl rfl rfl rfl ?_
            refine w_eni dX6_placeOf_21 rfl rfl ?_
            exact ⟨_, _, rfl, (by omega), (by omega), hJ, trivial⟩
        · skip
          refine w_cge_t dX6_placeOf_7 (t := 28) rfl (by omega) ?_
          refine w_ic dX6_placeOf_28 zi_m1 ?_
          refine w_en dX6_placeOf_29 rfl ?_
          exact ⟨_, _, rfl, (by have := zt_m1; omega), (by have := zt_m1; omega), hJ, trivial⟩
  have ih2 := main 48
  show ZW _ _ _ _ _ _ _ (0, [some (.ref t), some (.int a0), none], [], M0)
  refine w_ic dX6_placeOf_0 zi_0 ?_
  refine w_lo (ml' := [some (.ref t), some (.int a0), some (.int 0)]) dX6_placeOf_1 rfl rfl rfl rfl ?_
  exact ih2 M0 a0 0 hJ0 (by omega) (by omega) (by have := zt_0; omega) (by have := zt_0; omega) (by have := zt_0; omega)
set_option maxRecDepth 100000 in
theorem k_1541 {X : List Int32} {d N : Nat} {M0 : zM} (t : Nat) (ht : zRp t) (a0 : Int32) (ha00 : (0 : Int) ≤ a0.toInt) (ha01 : a0.toInt ≤ 199) (hN : N ≤ 600) (hB0 : zB N M0) : ZV X (d + 2) 1541 [.ref t, .int a0] M0 (zRI N [] M0 (-2147483648) (2147483647) (fun _ _ => True)) := by
  have hbt := zRp_b ht
  have hJ0 : zJ N [] M0 M0 := zJ_refl hB0
  refine ZV.of (ini := false) rfl (Nat.le_of_ble_eq_true rfl) (by decide +kernel) ?_
  show ZW _ _ _ _ _ _ _ (0, [some (.ref t), some (.int a0)], [], M0)
  refine w_lo dX6_toldTug_0 rfl rfl rfl rfl ?_
  refine w_gf dX6_toldTug_1 rfl hJ0.1.1 (zs_6_0 ht) (zr_6_0_15 ht hJ0.1) ?_
  refine w_lo dX6_toldTug_4 rfl rfl rfl rfl ?_
  refine w_gfc dX6_toldTug_5 rfl hJ0.1 (zs_6_0 ht) (Nat.le_of_ble_eq_true rfl) (zo_6_0_14 ht) ?_
  intro x1 f2 h3 h4
  refine w_lo dX6_toldTug_8 rfl rfl rfl rfl ?_
  refine w_iv dX6_toldTug_9 rfl rfl (As := []) rfl rfl hJ0.1.1 (zs_6_0 ht) (Nat.le_of_ble_eq_true rfl) ?_
  refine ZV.of (ini := false) rfl (Nat.le_of_ble_eq_true rfl) (by decide +kernel) ?_
  show ZW _ _ _ _ _ _ _ (0, [some (.ref t)], [], M0)
  refine w_lo dX6_told_0 rfl rfl rfl rfl ?_
  refine w_gf dX6_told_1 rfl hJ0.1.1 (zs_6_0 ht) f2 ?_
  refine w_si dX6_told_4 (c := 200) (by decide) ?_
  refine w_mnI dX6_told_7 rfl (Nat.le_of_ble_eq_true rfl) ?_
  intro x5 h6 h7 h8
  have := zt_200
  show ZW _ _ _ _ _ _ _ (10, [some (.ref t)], [.int x5], M0)
  refine w_eni dX6_told_10 rfl rfl ?_
  show ZW _ _ _ _ _ _ _ (12, [some (.ref t), some (.int a0)], [.int x5, .int x1, .ref (t + 13)], M0)
  refine w_sub dX6_toldTug_12 (by omega) ?_
  intro x9 h10
  refine w_lo dX6_toldTug_13 rfl rfl rfl rfl ?_
  refine w_add dX6_toldTug_14 (by omega) ?_
  intro x11 h12
  refine w_si dX6_toldTug_15 (c := 200) (by decide) ?_
  refine w_remP dX6_toldTug_18 (by omega) (by have := zt_200; omega) ?_
  intro x13 h14 h15 h16
  have := zt_200
  refine w_iai dX6_toldTug_19 hJ0.1 (zs_6_13 ht) (by omega) (by omega) (zu_6_13 ht) ?_
  intro x20 f17 h18 h19
  refine w_eni dX6_toldTug_20 rfl rfl ?_
  exact ⟨_, _, rfl, (zbot _), (ztop _), hJ0, trivial⟩
set_option maxRecDepth 100000 in
theorem k_1542 {X : List Int32} {d N : Nat} {M0 : zM} (t : Nat) (ht : zRp t) (p0 : Nat) (hp0 : zRp p0) (tv : Int32) (hftv : zvl M0 (p0) 14 = some (.int tv)) (hrtv0 : 0 ≤ tv.toInt) (hrtv1 : tv.toInt ≤ 3000 * (N : Int)) (hN : N ≤ 600) (hB0 : zB N M0) : ZV X (d + 2) 1542 [.ref t, .ref p0] M0 (zRV N [(t, t + 1, 0), (t, t + 1, 1), (t + 1, t + 14, 1000), (t, t + 1, 14)] M0 (fun M' => (∃ w : Int32, zvl M' (t) 14 = some (.int w) ∧ (w.toInt = tv.toInt) ∧ True))) := by
  have hbp0 := zRp_b hp0
  have hbt := zRp_b ht
  have hJ0 : zJ N [(t, t + 1, 0), (t, t + 1, 1), (t + 1, t + 14, 1000), (t, t + 1, 14)] M0 M0 := zJ_refl hB0
  refine ZV.of (ini := false) rfl (Nat.le_of_ble_eq_true rfl) (by decide +kernel) ?_
  show ZW _ _ _ _ _ _ _ (0, [some (.ref t), some (.ref p0)], [], M0)
  refine w_lo dX6_take_0 rfl rfl rfl rfl ?_
  refine w_lo dX6_take_1 rfl rfl rfl rfl ?_
  refine w_gfi dX6_take_2 rfl hJ0.1 (zs_6_0 hp0) (Nat.le_of_ble_eq_true rfl) (zo_6_0_0 hp0) ?_
  intro x1 f2 h3 h4
  refine w_pfi dX6_take_5 rfl hJ0 (zs_6_0 ht) (Nat.le_of_ble_eq_true rfl) (zo_6_0_0 ht) (by omega) (by omega) (zIR_k (by omega) (by omega)) rfl rfl rfl ?_
  intro M5 hJ6 f7 hn8
  refine w_lo dX6_take_8 rfl rfl rfl rfl ?_
  refine w_lo dX6_take_9 rfl rfl rfl rfl ?_
  refine w_gfi dX6_take_10 rfl hJ6.1 (zs_6_0 hp0) (Nat.le_of_ble_eq_true rfl) (zo_6_0_1 hp0) ?_
  intro x9 f10 h11 h12
  refine w_pfi dX6_take_13 rfl hJ6 (zs_6_0 ht) (Nat.le_of_ble_eq_true rfl) (zo_6_0_1 ht) (zbot _) (ztop _) (zIR_s (zIR_k (by omega) (by omega))) rfl rfl rfl ?_
  intro M13 hJ14 f15 hn16
  refine w_lo dX6_take_16 rfl rfl rfl rfl ?_
  refine w_lo dX6_take_17 rfl rfl rfl rfl ?_
  have f17 := (hn16 (p0) 14 (Or.inr (by decide))).trans ((hn8 (p0) 14 (Or.inr (by decide))).trans (hftv))
  refine w_gf dX6_take_18 rfl hJ14.1.1 (zs_6_0 hp0) f17 ?_
  refine w_pfc dX6_take_21 rfl hJ14 (zs_6_0 ht) (Nat.le_of_ble_eq_true rfl) (zo_6_0_14 ht) (by omega) (by omega) (zIR_s (zIR_s (zIR_s (zIR_k (by omega) (by omega))))) rfl rfl rfl ?_
  intro M18 hJ19 f20 hn21
  refine w_lo dX6_take_24 rfl rfl rfl rfl ?_
  refine w_gf dX6_take_25 rfl hJ19.1.1 (zs_6_0 hp0) (zr_6_0_2 hp0 hJ19.1) ?_
  refine w_ic dX6_take_28 zi_0 ?_
  refine w_lo dX6_take_29 rfl rfl rfl rfl ?_
  refine w_gf dX6_take_30 rfl hJ19.1.1 (zs_6_0 ht) (zr_6_0_2 ht hJ19.1) ?_
  refine w_ic dX6_take_33 zi_0 ?_
  refine w_bi dX6_take_34 (c := 12) (by decide) ?_
  refine w_cpG (kd := 10) (Or.inl rfl) dX6_take_36 rfl (Nat.le_of_ble_eq_true rfl) hJ19 (zs_6_1 hp0) (zs_6_1 ht) zt_12 (Nat.le_of_ble_eq_true rfl) (Nat.le_of_ble_eq_true rfl) (zu_6_1 hp0) (zu_6_1 ht) (by decide) (by decide) (fun _ => (zIR_s (zIR_s (zIR_a (by omega) (by omega))))) ?_
  intro M22 hJ23 hn24
  show ZW _ _ _ _ _ _ _ (39, [some (.ref t), some (.ref p0)], [], M22)
  refine w_lo dX6_take_39 rfl rfl rfl rfl ?_
  refine w_gf dX6_take_40 rfl hJ23.1.1 (zs_6_0 hp0) (zr_6_0_3 hp0 hJ23.1) ?_
  refine w_ic dX6_take_43 zi_0 ?_
  refine w_lo dX6_take_44 rfl rfl rfl rfl ?_
  refine w_gf dX6_take_45 rfl hJ23.1.1 (zs_6_0 ht) (zr_6_0_3 ht hJ23.1) ?_
  refine w_ic dX6_take_48 zi_0 ?_
  refine w_bi dX6_take_49 (c := 12) (by decide) ?_
  refine w_cpG (kd := 12) (Or.inr ⟨rfl, rfl, rfl⟩) dX6_take_51 rfl (Nat.le_of_ble_eq_true rfl) hJ23 (zs_6_2 hp0) (zs_6_2 ht) zt_12 (Nat.le_of_ble_eq_true rfl) (Nat.le_of_ble_eq_true rfl) (zu_6_2 hp0) (zu_6_2 ht) (by decide) (by decide) (fun _ => (zIR_s (zIR_s (zIR_a (by omega) (by omega))))) ?_
  intro M25 hJ26 hn27
  show ZW _ _ _ _ _ _ _ (54, [some (.ref t), some (.ref p0)], [], M25)
  refine w_lo dX6_take_54 rfl rfl rfl rfl ?_
  refine w_gf dX6_take_55 rfl hJ26.1.1 (zs_6_0 hp0) (zr_6_0_4 hp0 hJ26.1) ?_
  refine w_ic dX6_take_58 zi_0 ?_
  refine w_lo dX6_take_59 rfl rfl rfl rfl ?_
  refine w_gf dX6_take_60 rfl hJ26.1.1 (zs_6_0 ht) (zr_6_0_4 ht hJ26.1) ?_
  refine w_ic dX6_take_63 zi_0 ?_
  refine w_bi dX6_take_64 (c := 12) (by decide) ?_
  refine w_cpG (kd := 10) (Or.inl rfl) dX6_take_66 rfl (Nat.le_of_ble_eq_true rfl) hJ26 (zs_6_3 hp0) (zs_6_3 ht) zt_12 (Nat.le_of_ble_eq_true rfl) (Nat.le_of_ble_eq_true rfl) (zu_6_3 hp0) (zu_6_3 ht) (by decide) (by decide) (fun _ => (zIR_s (zIR_s (zIR_a (by omega) (by omega))))) ?_
  intro M28 hJ29 hn30
  show ZW _ _ _ _ _ _ _ (69, [some (.ref t), some (.ref p0)], [], M28)
  refine w_lo dX6_take_69 rfl rfl rfl rfl ?_
  refine w_gf dX6_take_70 rfl hJ29.1.1 (zs_6_0 hp0) (zr_6_0_5 hp0 hJ29.1) ?_
  refine w_ic dX6_take_73 zi_0 ?_
  refine w_lo dX6_take_74 rfl rfl rfl rfl ?_
  refine w_gf dX6_take_75 rfl hJ29.1.1 (zs_6_0 ht) (zr_6_0_5 ht hJ29.1) ?_
  refine w_ic dX6_take_78 zi_0 ?_
  refine w_bi dX6_take_79 (c := 12) (by decide) ?_
  refine w_cpG (kd := 10) (Or.inl rfl) dX6_take_81 rfl (Nat.le_of_ble_eq_true rfl) hJ29 (zs_6_4 hp0) (zs_6_4 ht) zt_12 (Nat.le_of_ble_eq_true rfl) (Nat.le_of_ble_eq_true rfl) (zu_6_4 hp0) (zu_6_4 ht) (by decide) (by decide) (fun _ => (zIR_s (zIR_s (zIR_a (by omega) (by omega))))) ?_
  intro M31 hJ32 hn33
  show ZW _ _ _ _ _ _ _ (84, [some (.ref t), some (.ref p0)], [], M31)
  refine w_lo dX6_take_84 rfl rfl rfl rfl ?_
  refine w_gf dX6_take_85 rfl hJ32.1.1 (zs_6_0 hp0) (zr_6_0_6 hp0 hJ32.1) ?_
  refine w_ic dX6_take_88 zi_0 ?_
  refine w_lo dX6_take_89 rfl rfl rfl rfl ?_
  refine w_gf dX6_take_90 rfl hJ32.1.1 (zs_6_0 ht) (zr_6_0_6 ht hJ32.1) ?_
  refine w_ic dX6_take_93 zi_0 ?_
  refine w_bi dX6_take_94 (c := 12) (by decide) ?_
  refine w_cpG (kd := 10) (Or.inl rfl) dX6_take_96 rfl (Nat.le_of_ble_eq_true rfl) hJ32 (zs_6_5 hp0) (zs_6_5 ht) zt_12 (Nat.le_of_ble_eq_true rfl) (Nat.le_of_ble_eq_true rfl) (zu_6_5 hp0) (zu_6_5 ht) (by decide) (by decide) (fun _ => (zIR_s (zIR_s (zIR_a (by omega) (by omega))))) ?_
  intro M34 hJ35 hn36
  show ZW _ _ _ _ _ _ _ (99, [some (.ref t), some (.ref p0)], [], M34)
  refine w_lo dX6_take_99 rfl rfl rfl rfl ?_
  refine w_gf dX6_take_100 rfl hJ35.1.1 (zs_6_0 hp0) (zr_6_0_7 hp0 hJ35.1) ?_
  refine w_ic dX6_take_103 zi_0 ?_
  refine w_lo dX6_take_104 rfl rfl rfl rfl ?_
  refine w_gf dX6_take_105 rfl hJ35.1.1 (zs_6_0 ht) (zr_6_0_7 ht hJ35.1) ?_
  refine w_ic dX6_take_108 zi_0 ?_
  refine w_bi dX6_take_109 (c := 12) (by decide) ?_
  refine w_cpG (kd := 10) (Or.inl rfl) dX6_take_111 rfl (Nat.le_of_ble_eq_true rfl) hJ35 (zs_6_6 hp0) (zs_6_6 ht) zt_12 (Nat.le_of_ble_eq_true rfl) (Nat.le_of_ble_eq_true rfl) (zu_6_6 hp0) (zu_6_6 ht) (by decide) (by decide) (fun _ => (zIR_s (zIR_s (zIR_a (by omega) (by omega))))) ?_
  intro M37 hJ38 hn39
  show ZW _ _ _ _ _ _ _ (114, [some (.ref t), some (.ref p0)], [], M37)
  refine w_lo dX6_take_114 rfl rfl rfl rfl ?_
  refine w_gf dX6_take_115 rfl hJ38.1.1 (zs_6_0 hp0) (zr_6_0_8 hp0 hJ38.1) ?_
  refine w_ic dX6_take_118 zi_0 ?_
  refine w_lo dX6_take_119 rfl rfl rfl rfl ?_
  refine w_gf dX6_take_120 rfl hJ38.1.1 (zs_6_0 ht) (zr_6_0_8 ht hJ38.1) ?_
  refine w_ic dX6_take_123 zi_0 ?_
  refine w_bi dX6_take_124 (c := 12) (by decide) ?_
  refine w_cpG (kd := 10) (Or.inl rfl) dX6_take_126 rfl (Nat.le_of_ble_eq_true rfl) hJ38 (zs_6_7 hp0) (zs_6_7 ht) zt_12 (Nat.le_of_ble_eq_true rfl) (Nat.le_of_ble_eq_true rfl) (zu_6_7 hp0) (zu_6_7 ht) (by decide) (by decide) (fun _ => (zIR_s (zIR_s (zIR_a (by omega) (by omega))))) ?_
  intro M40 hJ41 hn42
  show ZW _ _ _ _ _ _ _ (129, [some (.ref t), some (.ref p0)], [], M40)
  refine w_lo dX6_take_129 rfl rfl rfl rfl ?_
  refine w_gf dX6_take_130 rfl hJ41.1.1 (zs_6_0 hp0) (zr_6_0_9 hp0 hJ41.1) ?_
  refine w_ic dX6_take_133 zi_0 ?_
  refine w_lo dX6_take_134 rfl rfl rfl rfl ?_
  refine w_gf dX6_take_135 rfl hJ41.1.1 (zs_6_0 ht) (zr_6_0_9 ht hJ41.1) ?_
  refine w_ic dX6_take_138 zi_0 ?_
  refine w_bi dX6_take_139 (c := 12) (by decide) ?_
  refine w_cpG (kd := 10) (Or.inl rfl) dX6_take_141 rfl (Nat.le_of_ble_eq_true rfl) hJ41 (zs_6_8 hp0) (zs_6_8 ht) zt_12 (Nat.le_of_ble_eq_true rfl) (Nat.le_of_ble_eq_true rfl) (zu_6_8 hp0) (zu_6_8 ht) (by decide) (by decide) (fun _ => (zIR_s (zIR_s (zIR_a (by omega) (by omega))))) ?_
  intro M43 hJ44 hn45
  show ZW _ _ _ _ _ _ _ (144, [some (.ref t), some (.ref p0)], [], M43)
  refine w_lo dX6_take_144 rfl rfl rfl rfl ?_
  refine w_gf dX6_take_145 rfl hJ44.1.1 (zs_6_0 hp0) (zr_6_0_10 hp0 hJ44.1) ?_
  refine w_ic dX6_take_148 zi_0 ?_
  refine w_lo dX6_take_149 rfl rfl rfl rfl ?_
  refine w_gf dX6_take_150 rfl hJ44.1.1 (zs_6_0 ht) (zr_6_0_10 ht hJ44.1) ?_
  refine w_ic dX6_take_153 zi_0 ?_
  refine w_bi dX6_take_154 (c := 12) (by decide) ?_
  refine w_cpG (kd := 10) (Or.inl rfl) dX6_take_156 rfl (Nat.le_of_ble_eq_true rfl) hJ44 (zs_6_9 hp0) (zs_6_9 ht) zt_12 (Nat.le_of_ble_eq_true rfl) (Nat.le_of_ble_eq_true rfl) (zu_6_9 hp0) (zu_6_9 ht) (by decide) (by decide) (fun _ => (zIR_s (zIR_s (zIR_a (by omega) (by omega))))) ?_
  intro M46 hJ47 hn48
  show ZW _ _ _ _ _ _ _ (159, [some (.ref t), some (.ref p0)], [], M46)
  refine w_lo dX6_take_159 rfl rfl rfl rfl ?_
  refine w_gf dX6_take_160 rfl hJ47.1.1 (zs_6_0 hp0) (zr_6_0_11 hp0 hJ47.1) ?_
  refine w_ic dX6_take_163 zi_0 ?_
  refine w_lo dX6_take_164 rfl rfl rfl rfl ?_
  refine w_gf dX6_take_165 rfl hJ47.1.1 (zs_6_0 ht) (zr_6_0_11 ht hJ47.1) ?_
  refine w_ic dX6_take_168 zi_0 ?_
  refine w_bi dX6_take_169 (c := 12) (by decide) ?_
  refine w_cpG (kd := 10) (Or.inl rfl) dX6_take_171 rfl (Nat.le_of_ble_eq_true rfl) hJ47 (zs_6_10 hp0) (zs_6_10 ht) zt_12 (Nat.le_of_ble_eq_true rfl) (Nat.le_of_ble_eq_true rfl) (zu_6_10 hp0) (zu_6_10 ht) (by decide) (by decide) (fun _ => (zIR_s (zIR_s (zIR_a (by omega) (by omega))))) ?_
  intro M49 hJ50 hn51
  show ZW _ _ _ _ _ _ _ (174, [some (.ref t), some (.ref p0)], [], M49)
  refine w_lo dX6_take_174 rfl rfl rfl rfl ?_
  refine w_lo dX6_take_175 rfl rfl rfl rfl ?_
  refine w_iv dX6_take_176 rfl rfl (As := [.ref p0]) rfl rfl hJ50.1.1 (zs_6_0 ht) (Nat.le_of_ble_eq_true rfl) ?_
  refine ZV.imp (k_1543 t ht p0 hp0 hN hJ50.1) ?_
  rintro _ ⟨M52, rfl, hJ53, hq54⟩
  have hJ55 := zJ_trans hJ50 hJ53 (zSub_cons (fun _ _ h h' hk => zIR_s (zIR_s (zIR_a (by omega) (by omega)))) zSub_nil)
  show ZW _ _ _ _ _ _ _ (179, [some (.ref t), some (.ref p0)], [], M52)
  refine w_lo dX6_take_179 rfl rfl rfl rfl ?_
  refine w_gf dX6_take_180 rfl hJ55.1.1 (zs_6_0 hp0) (zr_6_0_15 hp0 hJ55.1) ?_
  refine w_ic dX6_take_183 zi_0 ?_
  refine w_lo dX6_take_184 rfl rfl rfl rfl ?_
  refine w_gf dX6_take_185 rfl hJ55.1.1 (zs_6_0 ht) (zr_6_0_15 ht hJ55.1) ?_
  refine w_ic dX6_take_188 zi_0 ?_
  refine w_si dX6_take_189 (c := 200) (by decide) ?_
  refine w_cpG (kd := 10) (Or.inl rfl) dX6_take_192 rfl (Nat.le_of_ble_eq_true rfl) hJ55 (zs_6_13 hp0) (zs_6_13 ht) zt_200 (Nat.le_of_ble_eq_true rfl) (Nat.le_of_ble_eq_true rfl) (zu_6_13 hp0) (zu_6_13 ht) (by decide) (by decide) (fun _ => (zIR_s (zIR_s (zIR_a (by omega) (by omega))))) ?_
  intro M56 hJ57 hn58
  show ZW _ _ _ _ _ _ _ (195, [some (.ref t), some (.ref p0)], [], M56)
  refine w_en dX6_take_195 rfl ?_
  have f59 := (hn58 (t) 14 (Or.inl (by omega))).trans ((hJ53.2 (t) 14 (zNI (by omega) zNI_nil)).trans ((hn51 (t) 14 (Or.inl (by omega))).trans ((hn48 (t) 14 (Or.inl (by omega))).trans ((hn45 (t) 14 (Or.inl (by omega))).trans ((hn42 (t) 14 (Or.inl (by omega))).trans ((hn39 (t) 14 (Or.inl (by omega))).trans ((hn36 (t) 14 (Or.inl (by omega))).trans ((hn33 (t) 14 (Or.inl (by omega))).trans ((hn30 (t) 14 (Or.inl (by omega))).trans ((hn27 (t) 14 (Or.inl (by omega))).trans ((hn24 (t) 14 (Or.inl (by omega))).trans (f20))))))))))))
  exact ⟨_, rfl, hJ57, ⟨tv, f59, (by omega), trivial⟩⟩
set_option maxRecDepth 100000 in
theorem k_1544 {X : List Int32} {d N : Nat} {M0 : zM} (t : Nat) (ht : zRp t) (a0 : Int32) (ha00 : (0 : Int) ≤ a0.toInt) (ha01 : a0.toInt ≤ 11) (a1 : Int32) (ha10 : (0 : Int) ≤ a1.toInt) (ha11 : a1.toInt ≤ 5) (a2 : Int32) (a3 : Int32) (ha30 : (-1 : Int) ≤ a3.toInt) (ha31 : a3.toInt ≤ 11) (tv : Int32) (hftv : zvl M0 (t) 14 = some (.int tv)) (hrtv0 : 0 ≤ tv.toInt) (hrtv1 : tv.toInt + 1 ≤ 3000 * (N : Int)) (hN : N ≤ 600) (hB0 : zB N M0) : ZV X (d + 1) 1544 [.ref t, .int a0, .int a1, .int a2, .int a3] M0 (zRV N [(t + 13, t + 14, 1000), (t, t + 1, 14)] M0 (fun M' => (∃ w : Int32, zvl M' (t) 14 = some (.int w) ∧ (w.toInt = tv.toInt + 1) ∧ True))) := by
  have hbt := zRp_b ht
  have hJ0 : zJ N [(t + 13, t + 14, 1000), (t, t + 1, 14)] M0 M0 := zJ_refl hB0
  refine ZV.of (ini := false) rfl (Nat.le_of_ble_eq_true rfl) (by decide +kernel) ?_
  show ZW _ _ _ _ _ _ _ (0, [some (.ref t), some (.int a0), some (.int a1), some (.int a2), some (.int a3)], [], M0)
  refine w_lo dX6_tell_0 rfl rfl rfl rfl ?_
  refine w_gf dX6_tell_1 rfl hJ0.1.1 (zs_6_0 ht) (zr_6_0_15 ht hJ0.1) ?_
  refine w_lo dX6_tell_4 rfl rfl rfl rfl ?_
  refine w_gf dX6_tell_5 rfl hJ0.1.1 (zs_6_0 ht) hftv ?_
  refine w_si dX6_tell_8 (c := 200) (by decide) ?_
  refine w_remP dX6_tell_11 (by omega) (by have := zt_200; omega) ?_
  intro x1 h2 h3 h4
  have := zt_200
  refine w_lo dX6_tell_12 rfl rfl rfl rfl ?_
  refine w_gfi dX6_tell_13 rfl hJ0.1 (zs_6_0 ht) (Nat.le_of_ble_eq_true rfl) (zo_6_0_1 ht) ?_
  intro x5 f6 h7 h8
  refine w_lo dX6_tell_16 rfl rfl rfl rfl ?_
  refine w_bi dX6_tell_17 (c := 10) (by decide) ?_
  refine w_puI dX6_tell_19 rfl rfl ?_
  intro x9
  refine w_puI dX6_tell_20 rfl rfl ?_
  intro x10
  refine w_lo dX6_tell_21 rfl rfl rfl rfl ?_
  refine w_bi dX6_tell_22 (c := 14) (by decide) ?_
  refine w_puI dX6_tell_24 rfl rfl ?_
  intro x11
  refine w_puI dX6_tell_25 rfl rfl ?_
  intro x12
  refine w_lo dX6_tell_26 rfl rfl rfl rfl ?_
  refine w_bi dX6_tell_27 (c := 17) (by decide) ?_
  refine w_puI dX6_tell_29 rfl rfl ?_
  intro x13
  refine w_puI dX6_tell_30 rfl rfl ?_
  intro x14
  refine w_lo dX6_tell_31 rfl rfl rfl rfl ?_
  refine w_bi dX6_tell_33 (c := 27) (by decide) ?_
  refine w_puI dX6_tell_35 rfl rfl ?_
  intro x15
  refine w_puI dX6_tell_36 rfl rfl ?_
  intro x16
  refine w_isi dX6_tell_37 hJ0 (zs_6_13 ht) (by omega) (by omega) (zu_6_13 ht) (zbot _) (ztop _) (zIR_a (by omega) (by omega)) ?_
  intro M17 hJ18 f19 hn20
  refine w_lo dX6_tell_38 rfl rfl rfl rfl ?_
  refine w_pu dX6_tell_39 rfl rfl ?_
  have f21 := (hn20 (t) 14 (Or.inl (by omega))).trans (hftv)
  refine w_gf dX6_tell_40 rfl hJ18.1.1 (zs_6_0 ht) f21 ?_
  refine w_ic dX6_tell_43 zi_1 ?_
  refine w_add dX6_tell_44 (by have := zt_1; omega) ?_
  intro x22 h23
  have := zt_1
  refine w_pfc dX6_tell_45 rfl hJ18 (zs_6_0 ht) (Nat.le_of_ble_eq_true rfl) (zo_6_0_14 ht) (by omega) (by omega) (zIR_s (zIR_k (by omega) (by omega))) rfl rfl rfl ?_
  intro M24 hJ25 f26 hn27
  refine w_en dX6_tell_48 rfl ?_
  exact ⟨_, rfl, hJ25, ⟨x22, f26, (by omega), trivial⟩⟩
set_option maxRecDepth 100000 in
theorem k_1545 {X : List Int32} {d N : Nat} {M0 : zM} (t : Nat) (ht : zRp t) (a0 : Int32) (ha00 : (0 : Int) ≤ a0.toInt) (ha01 : a0.toInt ≤ 11) (a1 : Int32) (ha10 : (1 : Int) ≤ a1.toInt) (ha11 : a1.toInt ≤ 2147483647) (hN : N ≤ 600) (hB0 : zB N M0) : ZV X (d + 1) 1545 [.ref t, .int a0, .int a1] M0 (zRV N [(t + 8, t + 11, 1000)] M0 (fun _ => True)) := by
  have hbt := zRp_b ht
  have hJ0 : zJ N [(t + 8, t + 11, 1000)] M0 M0 := zJ_refl hB0
  refine ZV.of (ini := false) rfl (Nat.le_of_ble_eq_true rfl) (by decide +kernel) ?_
  show ZW _ _ _ _ _ _ _ (0, [some (.ref t), some (.int a0), some (.int a1)], [], M0)
  refine w_lo dX6_feelsForce_0 rfl rfl rfl rfl ?_
  refine w_gf dX6_feelsForce_1 rfl hJ0.1.1 (zs_6_0 ht) (zr_6_0_9 ht hJ0.1) ?_
  refine w_lo dX6_feelsForce_4 rfl rfl rfl rfl ?_
  refine w_pu dX6_feelsForce_5 rfl rfl ?_
  refine w_iai dX6_feelsForce_6 hJ0.1 (zs_6_8 ht) (by omega) (by omega) (zu_6_8 ht) ?_
  intro x4 f1 h2 h3
  refine w_ic dX6_feelsForce_7 zi_1 ?_
  refine w_puI dX6_feelsForce_8 rfl rfl ?_
  intro x5
  refine w_isi dX6_feelsForce_9 hJ0 (zs_6_8 ht) (by omega) (by omega) (zu_6_8 ht) (zbot _) (ztop _) (zIR_a (by omega) (by omega)) ?_
  intro M6 hJ7 f8 hn9
  refine w_lo dX6_feelsForce_10 rfl rfl rfl rfl ?_
  refine w_gf dX6_feelsForce_11 rfl hJ7.1.1 (zs_6_0 ht) (zr_6_0_10 ht hJ7.1) ?_
  refine w_lo dX6_feelsForce_14 rfl rfl rfl rfl ?_
  refine w_lo dX6_feelsForce_15 rfl rfl rfl rfl ?_
  refine w_gf dX6_feelsForce_16 rfl hJ7.1.1 (zs_6_0 ht) (zr_6_0_10 ht hJ7.1) ?_
  refine w_lo dX6_feelsForce_19 rfl rfl rfl rfl ?_
  refine w_iai dX6_feelsForce_20 hJ7.1 (zs_6_9 ht) (by omega) (by omega) (zu_6_9 ht) ?_
  intro x13 f10 h11 h12
  refine w_lo dX6_feelsForce_21 rfl rfl rfl rfl ?_
  refine w_mxI dX6_feelsForce_22 rfl (Nat.le_of_ble_eq_true rfl) ?_
  intro x14 h15 h16 h17
  skip
  show ZW _ _ _ _ _ _ _ (25, [some (.ref t), some (.int a0), some (.int a1)], [.int x14, .int a0, .ref (t + 9)], M6)
  refine w_isi dX6_feelsForce_25 hJ7 (zs_6_9 ht) (by omega) (by omega) (zu_6_9 ht) (by omega) (ztop _) (zIR_a (by omega) (by omega)) ?_
  intro M18 hJ19 f20 hn21
  refine w_lo dX6_feelsForce_26 rfl rfl rfl rfl ?_
  refine w_gf dX6_feelsForce_27 rfl hJ19.1.1 (zs_6_0 ht) (zr_6_0_11 ht hJ19.1) ?_
  refine w_lo dX6_feelsForce_30 rfl rfl rfl rfl ?_
  refine w_me (st' := [.int 1000000, .int a0, .ref (t + 10)]) dX6_feelsForce_31 rfl rfl rfl rfl rfl ?_
  refine w_lo dX6_feelsForce_33 rfl rfl rfl rfl ?_
  refine w_gf dX6_feelsForce_34 rfl hJ19.1.1 (zs_6_0 ht) (zr_6_0_11 ht hJ19.1) ?_
  refine w_lo dX6_feelsForce_37 rfl rfl rfl rfl ?_
  refine w_iai dX6_feelsForce_38 hJ19.1 (zs_6_10 ht) (by omega) (by omega) (zu_6_10 ht) ?_
  intro x25 f22 h23 h24
  refine w_lo dX6_feelsForce_39 rfl rfl rfl rfl ?_
  refine w_puI dX6_feelsForce_40 rfl rfl ?_
  intro x26
  refine w_mnI dX6_feelsForce_41 rfl (Nat.le_of_ble_eq_true rfl) ?_
  intro x27 h28 h29 h30
  have := zt_1000000
  show ZW _ _ _ _ _ _ _ (44, [some (.ref t), some (.int a0), some (.int a1)], [.int x27, .int a0, .ref (t + 10)], M18)
  refine w_isi dX6_feelsForce_44 hJ19 (zs_6_10 ht) (by omega) (by omega) (zu_6_10 ht) (zbot _) (by omega) (zIR_a (by omega) (by omega)) ?_
  intro M31 hJ32 f33 hn34
  refine w_en dX6_feelsForce_45 rfl ?_
  exact ⟨_, rfl, hJ32, trivial⟩
set_option maxRecDepth 100000 in
theorem k_1546 {X : List Int32} {d N : Nat} {M0 : zM} (t : Nat) (ht : zRp t) (a0 : Int32) (ha00 : (0 : Int) ≤ a0.toInt) (ha01 : a0.toInt ≤ 11) (hN : N ≤ 600) (hB0 : zB N M0) : ZV X (d + 1) 1546 [.ref t, .int a0] M0 (zRV N [(t + 2, t + 6, 1000)] M0 (fun _ => True)) := by
  have hbt := zRp_b ht
  have hJ0 : zJ N [(t + 2, t + 6, 1000)] M0 M0 := zJ_refl hB0
  refine ZV.of (ini := false) rfl (Nat.le_of_ble_eq_true rfl) (by decide +kernel) ?_
  show ZW _ _ _ _ _ _ _ (0, [some (.ref t), some (.int a0)], [], M0)
  refine w_lo dX6_getsUp_0 rfl rfl rfl rfl ?_
  refine w_gf dX6_getsUp_1 rfl hJ0.1.1 (zs_6_0 ht) (zr_6_0_3 ht hJ0.1) ?_
  refine w_lo dX6_getsUp_4 rfl rfl rfl rfl ?_
  refine w_ic dX6_getsUp_5 zi_0 ?_
  refine w_bsi dX6_getsUp_6 hJ0 (zs_6_2 ht) (by omega) (by omega) (zu_6_2 ht) (by have := zt_0; omega) (by have := zt_0; omega) (zIR_a (by omega) (by omega)) ?_
  intro M1 hJ2 f3 hn4
  refine w_lo dX6_getsUp_7 rfl rfl rfl rfl ?_
  refine w_gf dX6_getsUp_8 rfl hJ2.1.1 (zs_6_0 ht) (zr_6_0_4 ht hJ2.1) ?_
  refine w_lo dX6_getsUp_11 rfl rfl rfl rfl ?_
  refine w_ic dX6_getsUp_12 zi_m1 ?_
  refine w_isi dX6_getsUp_13 hJ2 (zs_6_3 ht) (by omega) (by omega) (zu_6_3 ht) (by have := zt_m1; omega) (by have := zt_m1; omega) (zIR_a (by omega) (by omega)) ?_
  intro M5 hJ6 f7 hn8
  refine w_lo dX6_getsUp_14 rfl rfl rfl rfl ?_
  refine w_gf dX6_getsUp_15 rfl hJ6.1.1 (zs_6_0 ht) (zr_6_0_5 ht hJ6.1) ?_
  refine w_lo dX6_getsUp_18 rfl rfl rfl rfl ?_
  refine w_ic dX6_getsUp_19 zi_0 ?_
  refine w_isi dX6_getsUp_20 hJ6 (zs_6_4 ht) (by omega) (by omega) (zu_6_4 ht) (zbot _) (ztop _) (zIR_a (by omega) (by omega)) ?_
  intro M9 hJ10 f11 hn12
  refine w_lo dX6_getsUp_21 rfl rfl rfl rfl ?_
  refine w_gf dX6_getsUp_22 rfl hJ10.1.1 (zs_6_0 ht) (zr_6_0_6 ht hJ10.1) ?_
  refine w_lo dX6_getsUp_25 rfl rfl rfl rfl ?_
  refine w_ic dX6_getsUp_26 zi_m1 ?_
  refine w_isi dX6_getsUp_27 hJ10 (zs_6_5 ht) (by omega) (by omega) (zu_6_5 ht) (by have := zt_m1; omega) (by have := zt_m1; omega) (zIR_a (by omega) (by omega)) ?_
  intro M13 hJ14 f15 hn16
  refine w_en dX6_getsUp_28 rfl ?_
  exact ⟨_, rfl, hJ14, trivial⟩
set_option maxRecDepth 100000 in
theorem k_2 {X : List Int32} {d N : Nat} {M0 : zM} (p0 : Nat) (hp0 : zRp p0) (hN : N ≤ 600) (hB0 : zB N M0) : ZV X (d + 3) 2 [.ref 77, .ref p0] M0 (zRV N [(77, 78, 0), (79, 346, 0), (77, 78, 1), (79, 346, 1), (80, 359, 1000), (79, 346, 14)] M0 (fun _ => True)) := by
  have hbp0 := zRp_b hp0
  have hJ0 : zJ N [(77, 78, 0), (79, 346, 0), (77, 78, 1), (79, 346, 1), (80, 359, 1000), (79, 346, 14)] M0 M0 := zJ_refl hB0
  refine ZV.of (ini := false) rfl (Nat.le_of_ble_eq_true rfl) (by decide +kernel) ?_
  have main : ∀ n : Nat,
      (∀ (M : zM) (o19_1 : Option Value) (o19_2 : Option Value), zJ N [(77, 78, 0), (79, 346, 0), (77, 78, 1), (79, 346, 1), (80, 359, 1000), (79, 346, 14)] M0 M → 1 < (n : Int) → ZW X (d + 2) 0 false none cX0_keep (zRV N [(77, 78, 0), (79, 346, 0), (77, 78, 1), (79, 346, 1), (80, 359, 1000), (79, 346, 14)] M0 (fun _ => True)) (19, [some (.ref 77), o19_1, o19_2], [], M)) := by
    intro n
    induction n with
    | zero =>
      exact (fun M o19_1 o19_2 hJ hn => absurd hn (by omega))
    | succ n ih =>
      have ih19 := ih
      · intro M o19_1 o19_2 hJ hn
        refine w_lo dX0_keep_19 rfl rfl rfl rfl ?_
        refine w_lo dX0_keep_20 rfl rfl rfl rfl ?_
        refine w_gfi dX0_keep_21 rfl hJ.1 zs_77 (Nat.le_of_ble_eq_true rfl) zo_77_1 ?_
        intro x1 f2 h3 h4
        refine w_ic dX0_keep_24 zi_1 ?_
        refine w_add dX0_keep_25 (by have := zt_1; omega) ?_
        intro x5 h6
        have := zt_1
        refine w_bi dX0_keep_26 (c := 20) (by decide) ?_
        refine w_remP dX0_keep_28 (by omega) (by have := zt_20; omega) ?_
        intro x7 h8 h9 h10
        have := zt_20
        refine w_pfi dX0_keep_29 rfl hJ zs_77 (Nat.le_of_ble_eq_true rfl) zo_77_1 (by omega) (by omega) (zIR_s (zIR_s (zIR_k (by omega) (by omega)))) rfl rfl rfl ?_
        intro M11 hJ12 f13 hn14
        refine w_lo dX0_keep_32 rfl rfl rfl rfl ?_
        refine w_bi dX0_keep_33 (c := 20) (by decide) ?_
        refine w_lo dX0_keep_35 rfl rfl rfl rfl ?_
        refine w_gfi dX0_keep_36 rfl hJ12.1 zs_77 (Nat.le_of_ble_eq_true rfl) zo_77_0 ?_
        intro x15 f16 h17 h18
        refine w_ic dX0_keep_39 zi_1 ?_
        refine w_add dX0_keep_40 (by have := zt_1; omega) ?_
        intro x19 h20
        have := zt_1
        refine w_mnI dX0_keep_41 rfl (Nat.le_of_ble_eq_true rfl) ?_
        intro x21 h22 h23 h24
        have := zt_20
        show ZW _ _ _ _ _ _ _ (44, [some (.ref 77), o19_1, o19_2], [.int x21, .ref 77], M11)
        refine w_pfi dX0_keep_44 rfl hJ12 zs_77 (Nat.le_of_ble_eq_true rfl) zo_77_0 (by omega) (by omega) (zIR_k (by omega) (by omega)) rfl rfl rfl ?_
        intro M25 hJ26 f27 hn28
        refine w_en dX0_keep_47 rfl ?_
        exact ⟨_, rfl, hJ26, trivial⟩
  have ih19 := main 6
  show ZW _ _ _ _ _ _ _ (0, [some (.ref 77), some (.ref p0), none], [], M0)
  refine w_lo dX0_keep_0 rfl rfl rfl rfl ?_
  refine w_gf dX0_keep_1 rfl hJ0.1.1 zs_77 (zr_77_2 hJ0.1) ?_
  refine w_lo dX0_keep_4 rfl rfl rfl rfl ?_
  refine w_gfi dX0_keep_5 rfl hJ0.1 zs_77 (Nat.le_of_ble_eq_true rfl) zo_77_1 ?_
  intro x29 f30 h31 h32
  refine w_aai dX0_keep_8 hJ0.1 (by omega) (by omega) ?_
  intro b33 h34 h36 h35
  refine w_lo (ml' := [some (.ref 77), some (.ref p0), some (.ref b33)]) dX0_keep_9 rfl rfl rfl rfl ?_
  refine w_lo dX0_keep_10 rfl rfl rfl rfl ?_
  refine w_br dX0_keep_11 (pc' := 14) rfl rfl rfl ?_
  refine w_lo dX0_keep_14 rfl rfl rfl rfl ?_
  refine w_lo dX0_keep_15 rfl rfl rfl rfl ?_
  obtain ⟨x39, f40, h41, h42⟩ := zB_cnt hJ0.1 (zs_6_0 hp0) (Nat.le_of_ble_eq_true rfl) (zo_6_0_14 hp0)
  refine w_iv dX0_keep_16 rfl rfl (As := [.ref p0]) rfl rfl hJ0.1.1 (zs_6_0 h34) (Nat.le_of_ble_eq_true rfl) ?_
  refine ZV.imp (k_1542 b33 h34 p0 hp0 x39 f40 (by omega) (by omega) hN hJ0.1) ?_
  rintro _ ⟨M37, rfl, hJ38, hq43⟩
  have hJ44 := zJ_trans hJ0 hJ38 (zSub_cons (fun _ _ h h' hk => zIR_s (zIR_e (by omega) (by omega) hk)) (zSub_cons (fun _ _ h h' hk => zIR_s (zIR_s (zIR_s (zIR_e (by omega) (by omega) hk)))) (zSub_cons (fun _ _ h h' hk => zIR_s (zIR_s (zIR_s (zIR_s (zIR_a (by omega) (by omega)))))) (zSub_cons (fun _ _ h h' hk => zIR_s (zIR_s (zIR_s (zIR_s (zIR_s (zIR_e (by omega) (by omega) hk)))))) zSub_nil))))
  obtain ⟨x45, f46, h47, -⟩ := hq43
  show ZW _ _ _ _ _ _ _ (19, [some (.ref 77), some (.ref p0), some (.ref b33)], [], M37)
  exact ih19 M37 (some (.ref p0)) (some (.ref b33)) hJ44 (by omega)
set_option maxRecDepth 100000 in
theorem k_2050 {X : List Int32} {d N : Nat} {M0 : zM} (a0 : Int32) (ha00 : (0 : Int) ≤ a0.toInt) (ha01 : a0.toInt ≤ 5) (hN : N ≤ 600) (hB0 : zB N M0) : ZV X (d + 1) 2050 [.ref 0, .int a0] M0 (zRV N [(385, 386, 1000)] M0 (fun _ => True)) := by
  have hJ0 : zJ N [(385, 386, 1000)] M0 M0 := zJ_refl hB0
  refine ZV.of (ini := false) rfl (Nat.le_of_ble_eq_true rfl) (by decide +kernel) ?_
  show ZW _ _ _ _ _ _ _ (0, [some (.ref 0), some (.int a0)], [], M0)
  refine w_lo dX8_refuse_0 rfl rfl rfl rfl ?_
  refine w_ilt_f dX8_refuse_1 (t := 20) rfl (by omega) ?_
  refine w_lo dX8_refuse_4 rfl rfl rfl rfl ?_
  refine w_bi dX8_refuse_5 (c := 6) (by decide) ?_
  refine w_cge_f dX8_refuse_7 (t := 20) rfl (by have := zt_6; omega) ?_
  refine w_lo dX8_refuse_10 rfl rfl rfl rfl ?_
  refine w_gf dX8_refuse_11 rfl hJ0.1.1 zs_0 (zr_0_14 hJ0.1) ?_
  refine w_lo dX8_refuse_14 rfl rfl rfl rfl ?_
  refine w_pu dX8_refuse_15 rfl rfl ?_
  refine w_iai dX8_refuse_16 hJ0.1 zs_385 (by omega) (by omega) zu_385 ?_
  intro x4 f1 h2 h3
  refine w_ic dX8_refuse_17 zi_1 ?_
  refine w_puI dX8_refuse_18 rfl rfl ?_
  intro x5
  refine w_isi dX8_refuse_19 hJ0 zs_385 (by omega) (by omega) zu_385 (zbot _) (ztop _) (zIR_a (by omega) (by omega)) ?_
  intro M6 hJ7 f8 hn9
  refine w_en dX8_refuse_20 rfl ?_
  exact ⟨_, rfl, hJ7, trivial⟩
set_option maxRecDepth 100000 in
theorem k_2051 {X : List Int32} {d N : Nat} {M0 : zM} (a0 : Int32) (lv : Int32) (hflv : zvl M0 (0) 1 = some (.int lv)) (hrlv0 : 0 ≤ lv.toInt) (hrlv1 : lv.toInt + 4 ≤ 1600) (hN : N ≤ 600) (hB0 : zB N M0) : ZV X (d + 1) 2051 [.ref 0, .int a0] M0 (zRV N [(0, 1, 1), (1, 2, 1000)] M0 (fun M' => (∃ w : Int32, zvl M' (0) 1 = some (.int w) ∧ (w.toInt = lv.toInt + 4) ∧ True))) := by
  have hJ0 : zJ N [(0, 1, 1), (1, 2, 1000)] M0 M0 := zJ_refl hB0
  refine ZV.of (ini := false) rfl (Nat.le_of_ble_eq_true rfl) (by decide +kernel) ?_
  have main : ∀ n : Nat,
      (∀ (M : zM) (v3_1 : Int32) (v3_2 : Int32) (t_3 : Int32), zJ N [(0, 1, 1), (1, 2, 1000)] M0 M → ((-2147483648 : Int) ≤ v3_1.toInt) → (v3_1.toInt ≤ 2147483647) → ((-8 : Int) ≤ v3_2.toInt) → (v3_2.toInt ≤ 24) → (zvl M (0) 1 = some (.int t_3)) → (8 * (t_3.toInt - lv.toInt) = 24 - v3_2.toInt) → 3 * (v3_2.toInt - (-8)) + 1 < (n : Int) → ZW X (d + 0) 8 false none cX8_putOnTape (zRV N [(0, 1, 1), (1, 2, 1000)] M0 (fun M' => (∃ w : Int32, zvl M' (0) 1 = some (.int w) ∧ (w.toInt = lv.toInt + 4) ∧ True))) (3, [some (.ref 0), some (.int v3_1), some (.int v3_2)], [], M)) := by
    intro n
    induction n with
    | zero =>
      exact (fun M v3_1 v3_2 t_3 hJ v3_10 v3_11 v3_20 v3_21 hft_3 hrt_30 hn => absurd hn (by omega))
    | succ n ih =>
      have ih3 := ih
      · intro M v3_1 v3_2 t_3 hJ v3_10 v3_11 v3_20 v3_21 hft_3 hrt_30 hn
        refine w_lo dX8_putOnTape_3 rfl rfl rfl rfl ?_
        rcases zcut v3_2.toInt (0 : Int) with h1 | h1
        · skip
          refine w_ilt_t dX8_putOnTape_4 (t := 49) rfl (by omega) ?_
          refine w_en dX8_putOnTape_49 rfl ?_
          exact ⟨_, rfl, hJ, ⟨t_3, hft_3, (by omega), trivial⟩⟩
        · skip
          refine w_ilt_f dX8_putOnTape_4 (t := 49) rfl (by omega) ?_
          refine w_lo dX8_putOnTape_7 rfl rfl rfl rfl ?_
          refine w_gf dX8_putOnTape_8 rfl hJ.1.1 zs_0 hft_3 ?_
          refine w_si dX8_putOnTape_11 (c := 1600) (by decide) ?_
          rcases zcut t_3.toInt (1600 : Int) with h2 | h2
          · skip
            refine w_cge_f dX8_putOnTape_14 (t := 49) rfl (by have := zt_1600; omega) ?_
            refine w_lo dX8_putOnTape_17 rfl rfl rfl rfl ?_
            refine w_gf dX8_putOnTape_18 rfl hJ.1.1 zs_0 (zr_0_0 hJ.1) ?_
            refine w_lo dX8_putOnTape_21 rfl rfl rfl rfl ?_
            refine w_gf dX8_putOnTape_22 rfl hJ.1.1 zs_0 hft_3 ?_
            refine w_lo dX8_putOnTape_25 rfl rfl rfl rfl ?_
            refine w_lo dX8_putOnTape_26 rfl rfl rfl rfl ?_
            refine w_puI dX8_putOnTape_27 rfl rfl ?_
            intro x3
            refine w_si dX8_putOnTape_28 (c := 255) (by decide) ?_
            refine w_and dX8_putOnTape_31 (m := 255) zt_255 (by omega) ?_
            intro x4 h5 h6
            refine w_isi dX8_putOnTape_32 hJ zs_1 (by omega) (by omega) zu_1 (by omega) (by omega) (zIR_s (zIR_a (by omega) (by omega))) ?_
            intro M7 hJ8 f9 hn10
            refine w_lo dX8_putOnTape_33 rfl rfl rfl rfl ?_
            refine w_pu dX8_putOnTape_34 rfl rfl ?_
            have f11 := (hn10 (0) 1 (Or.inl (by omega))).trans (hft_3)
            refine w_gf dX8_putOnTape_35 rfl hJ8.1.1 zs_0 f11 ?_
            refine w_ic dX8_putOnTape_38 zi_1 ?_
            refine w_add dX8_putOnTape_39 (by have := zt_1; omega) ?_
            intro x12 h13
            have := zt_1
            refine w_pfi dX8_putOnTape_40 rfl hJ8 zs_0 (Nat.le_of_ble_eq_true rfl) zo_0_1 (by omega) (by omega) (zIR_k (by omega) (by omega)) rfl rfl rfl ?_
            intro M14 hJ15 f16 hn17
            refine w_inc (kk := 2) dX8_putOnTape_43 rfl (m := -8) (by decide) (by omega) ?_
            intro x18 h19
            refine ⟨_, rfl, ?_⟩
            show ZW _ _ _ _ _ _ _ (46, [some (.ref 0), some (.int v3_1), some (.int x18)], [], M14)
            refine w_gt dX8_putOnTape_46 (t := 3) rfl ?_
            exact ih3 M14 v3_1 x18 x12 hJ15 (zbot _) (ztop _) (by omega) (by omega) f16 (by omega) (by omega)
          · skip
            refine w_cge_t dX8_putOnTape_14 (t := 49) rfl (by have := zt_1600; omega) ?_
            refine w_en dX8_putOnTape_49 rfl ?_
            exact ⟨_, rfl, hJ, ⟨t_3, hft_3, (by omega), trivial⟩⟩
  have ih3 := main 108
  show ZW _ _ _ _ _ _ _ (0, [some (.ref 0), some (.int a0), none], [], M0)
  refine w_bi dX8_putOnTape_0 (c := 24) (by decide) ?_
  refine w_lo (ml' := [some (.ref 0), some (.int a0), some (.int 24)]) dX8_putOnTape_2 rfl rfl rfl rfl ?_
  exact ih3 M0 a0 24 lv hJ0 (zbot _) (ztop _) (by have := zt_24; omega) (by have := zt_24; omega) hflv (by have := zt_24; omega) (by have := zt_24; omega)
set_option maxRecDepth 100000 in
theorem k_2049 {X : List Int32} {d N : Nat} {M0 : zM} (a0 : Int32) (a1 : Int32) (a2 : Int32) (a3 : Int32) (a4 : Int32) (lv : Int32) (hflv : zvl M0 (0) 1 = some (.int lv)) (hrlv0 : 0 ≤ lv.toInt) (hrlv1 : lv.toInt ≤ 1600) (hN : N ≤ 600) (hB0 : zB N M0) : ZV X (d + 2) 2049 [.ref 0, .int a0, .int a1, .int a2, .int a3, .int a4] M0 (zRI N [(0, 1, 1), (1, 2, 1000), (385, 386, 1000)] M0 (-1) (1600) (fun v M' => (∃ w : Int32, zvl M' (0) 1 = some (.int w) ∧ (lv.toInt + 20 ≤ 1600 ∧ w.toInt = lv.toInt + 20 ∧ v.toInt = w.toInt ∨ 1600 < lv.toInt + 20 ∧ w.toInt = lv.toInt ∧ v.toInt = -1) ∧ True))) := by
  have hJ0 : zJ N [(0, 1, 1), (1, 2, 1000), (385, 386, 1000)] M0 M0 := zJ_refl hB0
  refine ZV.of (ini := false) rfl (Nat.le_of_ble_eq_true rfl) (by decide +kernel) ?_
  show ZW _ _ _ _ _ _ _ (0, [some (.ref 0), some (.int a0), some (.int a1), some (.int a2), some (.int a3), some (.int a4)], [], M0)
  refine w_lo dX8_feed_0 rfl rfl rfl rfl ?_
  refine w_gf dX8_feed_1 rfl hJ0.1.1 zs_0 hflv ?_
  refine w_bi dX8_feed_4 (c := 20) (by decide) ?_
  refine w_add dX8_feed_6 (by have := zt_20; omega) ?_
  intro x1 h2
  have := zt_20
  refine w_si dX8_feed_7 (c := 1600) (by decide) ?_
  rcases zcut (1600 : Int) x1.toInt with h3 | h3
  · skip
    refine w_cle_f dX8_feed_10 (t := 20) rfl (by have := zt_1600; omega) ?_
    refine w_lo dX8_feed_13 rfl rfl rfl rfl ?_
    refine w_ic dX8_feed_14 zi_0 ?_
    refine w_iv dX8_feed_15 rfl rfl (As := [.int 0]) rfl rfl hJ0.1.1 zs_0 (Nat.le_of_ble_eq_true rfl) ?_
    refine ZV.imp (k_2050 0 (by have := zt_0; omega) (by have := zt_0; omega) hN hJ0.1) ?_
    rintro _ ⟨M4, rfl, hJ5, hq6⟩
    have hJ7 := zJ_trans hJ0 hJ5 (zSub_cons (fun _ _ h h' hk => zIR_s (zIR_s (zIR_a (by omega) (by omega)))) zSub_nil)
    show ZW _ _ _ _ _ _ _ (18, [some (.ref 0), some (.int a0), some (.int a1), some (.int a2), some (.int a3), some (.int a4)], [], M4)
    refine w_ic dX8_feed_18 zi_m1 ?_
    refine w_en dX8_feed_19 rfl ?_
    have f8 := (hJ5.2 (0) 1 (zNI (by omega) zNI_nil)).trans (hflv)
    exact ⟨_, _, rfl, (by have := zt_m1; omega), (by have := zt_m1; omega), hJ7, ⟨lv, f8, (by have := zt_m1; omega), trivial⟩⟩
  · skip
    refine w_cle_t dX8_feed_10 (t := 20) rfl (by have := zt_1600; omega) ?_
    refine w_lo dX8_feed_20 rfl rfl rfl rfl ?_
    refine w_lo dX8_feed_21 rfl rfl rfl rfl ?_
    refine w_iv dX8_feed_22 rfl rfl (As := [.int a0]) rfl rfl hJ0.1.1 zs_0 (Nat.le_of_ble_eq_true rfl) ?_
    refine ZV.imp (k_2051 a0 lv hflv (by omega) (by omega) hN hJ0.1) ?_
    rintro _ ⟨M9, rfl, hJ10, hq11⟩
    have hJ12 := zJ_trans hJ0 hJ10 (zSub_cons (fun _ _ h h' hk => zIR_e (by omega) (by omega) hk) (zSub_cons (fun _ _ h h' hk => zIR_s (zIR_a (by omega) (by omega))) zSub_nil))
    obtain ⟨x13, f14, h15, -⟩ := hq11
    show ZW _ _ _ _ _ _ _ (25, [some (.ref 0), some (.int a0), some (.int a1), some (.int a2), some (.int a3), some (.int a4)], [], M9)
    refine w_lo dX8_feed_25 rfl rfl rfl rfl ?_
    refine w_lo dX8_feed_26 rfl rfl rfl rfl ?_
    refine w_iv dX8_feed_27 rfl rfl (As := [.int a1]) rfl rfl hJ12.1.1 zs_0 (Nat.le_of_ble_eq_true rfl) ?_
    refine ZV.imp (k_2051 a1 x13 f14 (by omega) (by omega) hN hJ12.1) ?_
    rintro _ ⟨M16, rfl, hJ17, hq18⟩
    have hJ19 := zJ_trans hJ12 hJ17 (zSub_cons (fun _ _ h h' hk => zIR_e (by omega) (by omega) hk) (zSub_cons (fun _ _ h h' hk => zIR_s (zIR_a (by omega) (by omega))) zSub_nil))
    obtain ⟨x20, f21, h22, -⟩ := hq18
    show ZW _ _ _ _ _ _ _ (30, [some (.ref 0), some (.int a0), some (.int a1), some (.int a2), some (.int a3), some (.int a4)], [], M16)
    refine w_lo dX8_feed_30 rfl rfl rfl rfl ?_
    refine w_lo dX8_feed_31 rfl rfl rfl rfl ?_
    refine w_iv dX8_feed_32 rfl rfl (As := [.int a2]) rfl rfl hJ19.1.1 zs_0 (Nat.le_of_ble_eq_true rfl) ?_
    refine ZV.imp (k_2051 a2 x20 f21 (by omega) (by omega) hN hJ19.1) ?_
    rintro _ ⟨M23, rfl, hJ24, hq25⟩
    have hJ26 := zJ_trans hJ19 hJ24 (zSub_cons (fun _ _ h h' hk => zIR_e (by omega) (by omega) hk) (zSub_cons (fun _ _ h h' hk => zIR_s (zIR_a (by omega) (by omega))) zSub_nil))
    obtain ⟨x27, f28, h29, -⟩ := hq25
    show ZW _ _ _ _ _ _ _ (35, [some (.ref 0), some (.int a0), some (.int a1), some (.int a2), some (.int a3), some (.int a4)], [], M23)
    refine w_lo dX8_feed_35 rfl rfl rfl rfl ?_
    refine w_lo dX8_feed_36 rfl rfl rfl rfl ?_
    refine w_iv dX8_feed_38 rfl rfl (As := [.int a3]) rfl rfl hJ26.1.1 zs_0 (Nat.le_of_ble_eq_true rfl) ?_
    refine ZV.imp (k_2051 a3 x27 f28 (by omega) (by omega) hN hJ26.1) ?_
    rintro _ ⟨M30, rfl, hJ31, hq32⟩
    have hJ33 := zJ_trans hJ26 hJ31 (zSub_cons (fun _ _ h h' hk => zIR_e (by omega) (by omega) hk) (zSub_cons (fun _ _ h h' hk => zIR_s (zIR_a (by omega) (by omega))) zSub_nil))
    obtain ⟨x34, f35, h36, -⟩ := hq32
    show ZW _ _ _ _ _ _ _ (41, [some (.ref 0), some (.int a0), some (.int a1), some (.int a2), some (.int a3), some (.int a4)], [], M30)
    refine w_lo dX8_feed_41 rfl rfl rfl rfl ?_
    refine w_lo dX8_feed_42 rfl rfl rfl rfl ?_
    refine w_iv dX8_feed_44 rfl rfl (As := [.int a4]) rfl rfl hJ33.1.1 zs_0 (Nat.le_of_ble_eq_true rfl) ?_
    refine ZV.imp (k_2051 a4 x34 f35 (by omega) (by omega) hN hJ33.1) ?_
    rintro _ ⟨M37, rfl, hJ38, hq39⟩
    have hJ40 := zJ_trans hJ33 hJ38 (zSub_cons (fun _ _ h h' hk => zIR_e (by omega) (by omega) hk) (zSub_cons (fun _ _ h h' hk => zIR_s (zIR_a (by omega) (by omega))) zSub_nil))
    obtain ⟨x41, f42, h43, -⟩ := hq39
    show ZW _ _ _ _ _ _ _ (47, [some (.ref 0), some (.int a0), some (.int a1), some (.int a2), some (.int a3), some (.int a4)], [], M37)
    refine w_lo dX8_feed_47 rfl rfl rfl rfl ?_
    refine w_gf dX8_feed_48 rfl hJ40.1.1 zs_0 f42 ?_
    refine w_eni dX8_feed_51 rfl rfl ?_
    exact ⟨_, _, rfl, (by omega), (by omega), hJ40, ⟨x41, f42, (by omega), trivial⟩⟩
set_option maxRecDepth 100000 in
theorem k_2052 {X : List Int32} {d N : Nat} {M0 : zM} (a0 : Int32) (lv : Int32) (hflv : zvl M0 (0) 1 = some (.int lv)) (hrlv0 : 0 ≤ lv.toInt) (hrlv1 : lv.toInt ≤ 1600) (hN : N ≤ 600) (hB0 : zB N M0) : ZV X (d + 2) 2052 [.ref 0, .int a0] M0 (zRI N [(0, 1, 1), (385, 386, 1000)] M0 (0) (1) (fun v M' => (∃ w : Int32, zvl M' (0) 1 = some (.int w) ∧ (0 ≤ a0.toInt ∧ a0.toInt ≤ lv.toInt ∧ w.toInt = a0.toInt ∧ v.toInt = 1 ∨ (a0.toInt < 0 ∨ lv.toInt < a0.toInt) ∧ w.toInt = lv.toInt ∧ v.toInt = 0) ∧ True))) := by
  have hJ0 : zJ N [(0, 1, 1), (385, 386, 1000)] M0 M0 := zJ_refl hB0
  refine ZV.of (ini := false) rfl (Nat.le_of_ble_eq_true rfl) (by decide +kernel) ?_
  show ZW _ _ _ _ _ _ _ (0, [some (.ref 0), some (.int a0)], [], M0)
  refine w_lo dX8_end_0 rfl rfl rfl rfl ?_
  rcases zcut a0.toInt (0 : Int) with h1 | h1
  · skip
    refine w_ilt_t dX8_end_1 (t := 12) rfl (by omega) ?_
    refine w_lo dX8_end_12 rfl rfl rfl rfl ?_
    refine w_ic dX8_end_13 zi_0 ?_
    refine w_iv dX8_end_14 rfl rfl (As := [.int 0]) rfl rfl hJ0.1.1 zs_0 (Nat.le_of_ble_eq_true rfl) ?_
    refine ZV.imp (k_2050 0 (by have := zt_0; omega) (by have := zt_0; omega) hN hJ0.1) ?_
    rintro _ ⟨M2, rfl, hJ3, hq4⟩
    have hJ5 := zJ_trans hJ0 hJ3 (zSub_cons (fun _ _ h h' hk => zIR_s (zIR_a (by omega) (by omega))) zSub_nil)
    show ZW _ _ _ _ _ _ _ (17, [some (.ref 0), some (.int a0)], [], M2)
    refine w_ic dX8_end_17 zi_0 ?_
    refine w_en dX8_end_18 rfl ?_
    have f6 := (hJ3.2 (0) 1 (zNI (by omega) zNI_nil)).trans (hflv)
    exact ⟨_, _, rfl, (by have := zt_0; omega), (by have := zt_0; omega), hJ5, ⟨lv, f6, (by have := zt_0; omega), trivial⟩⟩
  · skip
    refine w_ilt_f dX8_end_1 (t := 12) rfl (by omega) ?_
    refine w_lo dX8_end_4 rfl rfl rfl rfl ?_
    refine w_lo dX8_end_5 rfl rfl rfl rfl ?_
    refine w_gf dX8_end_6 rfl hJ0.1.1 zs_0 hflv ?_
    rcases zcut lv.toInt a0.toInt with h7 | h7
    · skip
      refine w_cle_f dX8_end_9 (t := 19) rfl (by omega) ?_
      refine w_lo dX8_end_12 rfl rfl rfl rfl ?_
      refine w_ic dX8_end_13 zi_0 ?_
      refine w_iv dX8_end_14 rfl rfl (As := [.int 0]) rfl rfl hJ0.1.1 zs_0 (Nat.le_of_ble_eq_true rfl) ?_
      refine ZV.imp (k_2050 0 (by have := zt_0; omega) (by have := zt_0; omega) hN hJ0.1) ?_
      rintro _ ⟨M8, rfl, hJ9, hq10⟩
      have hJ11 := zJ_trans hJ0 hJ9 (zSub_cons (fun _ _ h h' hk => zIR_s (zIR_a (by omega) (by omega))) zSub_nil)
      show ZW _ _ _ _ _ _ _ (17, [some (.ref 0), some (.int a0)], [], M8)
      refine w_ic dX8_end_17 zi_0 ?_
      refine w_en dX8_end_18 rfl ?_
      have f12 := (hJ9.2 (0) 1 (zNI (by omega) zNI_nil)).trans (hflv)
      exact ⟨_, _, rfl, (by have := zt_0; omega), (by have := zt_0; omega), hJ11, ⟨lv, f12, (by have := zt_0; omega), trivial⟩⟩
    · skip
      refine w_cle_t dX8_end_9 (t := 19) rfl (by omega) ?_
      refine w_lo dX8_end_19 rfl rfl rfl rfl ?_
      refine w_lo dX8_end_20 rfl rfl rfl rfl ?_
      refine w_pfi dX8_end_21 rfl hJ0 zs_0 (Nat.le_of_ble_eq_true rfl) zo_0_1 (by omega) (by omega) (zIR_k (by omega) (by omega)) rfl rfl rfl ?_
      intro M13 hJ14 f15 hn16
      refine w_ic dX8_end_24 zi_1 ?_
      refine w_en dX8_end_25 rfl ?_
      exact ⟨_, _, rfl, (by have := zt_1; omega), (by have := zt_1; omega), hJ14, ⟨a0, f15, (by have := zt_1; omega), trivial⟩⟩
set_option maxRecDepth 100000 in
theorem k_2053 {X : List Int32} {d N : Nat} {M0 : zM}  (hN : N ≤ 600) (hB0 : zB N M0) : ZV X (d + 24) 2053 [.ref 0] M0 (zRI N [(2, 3, 0), (7, 8, 0), (20, 21, 0), (28, 29, 0), (41, 42, 0), (49, 50, 0), (77, 78, 0), (0, 1, 1), (2, 3, 1), (7, 8, 1), (20, 21, 1), (28, 29, 1), (41, 42, 1), (49, 50, 1), (2, 3, 10), (4, 7, 1000), (8, 20, 1000), (21, 26, 1000), (29, 41, 1000), (42, 47, 1000), (50, 62, 1000), (385, 386, 1000), (0, 1, 11), (49, 50, 14), (0, 1, 15), (7, 8, 2), (28, 29, 2), (0, 1, 3), (2, 3, 6), (2, 3, 7), (2, 3, 8), (2, 3, 9)] M0 (-1) (90) (fun v M' => (∃ w : Int32, zvl M' (0) 1 = some (.int w) ∧ (w.toInt = 0) ∧ True))) := by
  have hJ0 : zJ N [(2, 3, 0), (7, 8, 0), (20, 21, 0), (28, 29, 0), (41, 42, 0), (49, 50, 0), (77, 78, 0), (0, 1, 1), (2, 3, 1), (7, 8, 1), (20, 21, 1), (28, 29, 1), (41, 42, 1), (49, 50, 1), (2, 3, 10), (4, 7, 1000), (8, 20, 1000), (21, 26, 1000), (29, 41, 1000), (42, 47, 1000), (50, 62, 1000), (385, 386, 1000), (0, 1, 11), (49, 50, 14), (0, 1, 15), (7, 8, 2), (28, 29, 2), (0, 1, 3), (2, 3, 6), (2, 3, 7), (2, 3, 8), (2, 3, 9)] M0 M0 := zJ_refl hB0
  refine ZV.of (ini := false) rfl (Nat.le_of_ble_eq_true rfl) (by decide +kernel) ?_
  show ZW _ _ _ _ _ _ _ (0, [some (.ref 0), none, none], [], M0)
  refine w_lo dX8_dorm_0 rfl rfl rfl rfl ?_
  refine w_gfi dX8_dorm_1 rfl hJ0.1 zs_0 (Nat.le_of_ble_eq_true rfl) zo_0_1 ?_
  intro x1 f2 h3 h4
  refine w_lo (ml' := [some (.ref 0), some (.int x1), none]) dX8_dorm_4 rfl rfl rfl rfl ?_
  refine w_lo dX8_dorm_5 rfl rfl rfl rfl ?_
  refine w_ic dX8_dorm_6 zi_0 ?_
  refine w_pfi dX8_dorm_7 rfl hJ0 zs_0 (Nat.le_of_ble_eq_true rfl) zo_0_1 (by have := zt_0; omega) (by have := zt_0; omega) (zIR_s (zIR_s (zIR_s (zIR_s (zIR_s (zIR_s (zIR_s (zIR_k (by omega) (by omega))))))))) rfl rfl rfl ?_
  intro M5 hJ6 f7 hn8
  refine w_lo dX8_dorm_10 rfl rfl rfl rfl ?_
  refine w_gf dX8_dorm_11 rfl hJ6.1.1 zs_0 (zr_0_2 hJ6.1) ?_
  refine w_lo dX8_dorm_14 rfl rfl rfl rfl ?_
  refine w_gf dX8_dorm_15 rfl hJ6.1.1 zs_0 (zr_0_0 hJ6.1) ?_
  refine w_lo dX8_dorm_18 rfl rfl rfl rfl ?_
  refine w_iv dX8_dorm_19 rfl rfl (As := [.ref 1, .int x1]) rfl rfl hJ6.1.1 zs_2 (Nat.le_of_ble_eq_true rfl) ?_
  refine ZV.imp (k_1281 x1 (by omega) (by omega) hN hJ6.1) ?_
  rintro _ ⟨x12, M9, rfl, h13, h14, hJ10, hq11⟩
  have hJ15 := zJ_trans hJ6 hJ10 (zSub_cons (fun _ _ h h' hk => zIR_e (by omega) (by omega) hk) (zSub_cons (fun _ _ h h' hk => zIR_s (zIR_e (by omega) (by omega) hk)) (zSub_cons (fun _ _ h h' hk => zIR_s (zIR_s (zIR_e (by omega) (by omega) hk))) (zSub_cons (fun _ _ h h' hk => zIR_s (zIR_s (zIR_s (zIR_e (by omega) (by omega) hk)))) (zSub_cons (fun _ _ h h' hk => zIR_s (zIR_s (zIR_s (zIR_s (zIR_e (by omega) (by omega) hk))))) (zSub_cons (fun _ _ h h' hk => zIR_s (zIR_s (zIR_s (zIR_s (zIR_s (zIR_s (zIR_s (zIR_s (zIR_e (by omega) (by omega) hk))))))))) (zSub_cons (fun _ _ h h' hk => zIR_s (zIR_s (zIR_s (zIR_s (zIR_s (zIR_s (zIR_s (zIR_s (zIR_s (zIR_e (by omega) (by omega) hk)))))))))) (zSub_cons (fun _ _ h h' hk => zIR_s (zIR_s (zIR_s (zIR_s (zIR_s (zIR_s (zIR_s (zIR_s (zIR_s (zIR_s (zIR_e (by omega) (by omega) hk))))))))))) (zSub_cons (fun _ _ h h' hk => zIR_s (zIR_s (zIR_s (zIR_s (zIR_s (zIR_s (zIR_s (zIR_s (zIR_s (zIR_s (zIR_s (zIR_e (by omega) (by omega) hk)))))))))))) (zSub_cons (fun _ _ h h' hk => zIR_s (zIR_s (zIR_s (zIR_s (zIR_s (zIR_s (zIR_s (zIR_s (zIR_s (zIR_s (zIR_s (zIR_s (zIR_e (by omega) (by omega) hk))))))))))))) (zSub_cons (fun _ _ h h' hk => zIR_s (zIR_s (zIR_s (zIR_s (zIR_s (zIR_s (zIR_s (zIR_s (zIR_s (zIR_s (zIR_s (zIR_s (zIR_s (zIR_s (zIR_e (by omega) (by omega) hk))))))))))))))) (zSub_cons (fun _ _ h h' hk => zIR_s (zIR_s (zIR_s (zIR_s (zIR_s (zIR_s (zIR_s (zIR_s (zIR_s (zIR_s (zIR_s (zIR_s (zIR_s (zIR_s (zIR_s (zIR_a (by omega) (by omega))))))))))))))))) (zSub_cons (fun _ _ h h' hk => zIR_s (zIR_s (zIR_s (zIR_s (zIR_s (zIR_s (zIR_s (zIR_s (zIR_s (zIR_s (zIR_s (zIR_s (zIR_s (zIR_s (zIR_s (zIR_s (zIR_a (by omega) (by omega)))))))))))))))))) (zSub_cons (fun _ _ h h' hk => zIR_s (zIR_s (zIR_s (zIR_s (zIR_s (zIR_s (zIR_s (zIR_s (zIR_s (zIR_s (zIR_s (zIR_s (zIR_s (zIR_s (zIR_s (zIR_s (zIR_s (zIR_a (by omega) (by omega))))))))))))))))))) (zSub_cons (fun _ _ h h' hk => zIR_s (zIR_s (zIR_s (zIR_s (zIR_s (zIR_s (zIR_s (zIR_s (zIR_s (zIR_s (zIR_s (zIR_s (zIR_s (zIR_s (zIR_s (zIR_s (zIR_s (zIR_s (zIR_a (by omega) (by omega)))))))))))))))))))) (zSub_cons (fun _ _ h h' hk => zIR_s (zIR_s (zIR_s (zIR_s (zIR_s (zIR_s (zIR_s (zIR_s (zIR_s (zIR_s (zIR_s (zIR_s (zIR_s (zIR_s (zIR_s (zIR_s (zIR_s (zIR_s (zIR_s (zIR_a (by omega) (by omega))))))))))))))))))))) (zSub_cons (fun _ _ h h' hk => zIR_s (zIR_s (zIR_s (zIR_s (zIR_s (zIR_s (zIR_s (zIR_s (zIR_s (zIR_s (zIR_s (zIR_s (zIR_s (zIR_s (zIR_s (zIR_s (zIR_s (zIR_s (zIR_s (zIR_s (zIR_s (zIR_s (zIR_s (zIR_s (zIR_s (zIR_e (by omega) (by omega) hk)))))))))))))))))))))))))) (zSub_cons (fun _ _ h h' hk => zIR_s (zIR_s (zIR_s (zIR_s (zIR_s (zIR_s (zIR_s (zIR_s (zIR_s (zIR_s (zIR_s (zIR_s (zIR_s (zIR_s (zIR_s (zIR_s (zIR_s (zIR_s (zIR_s (zIR_s (zIR_s (zIR_s (zIR_s (zIR_s (zIR_s (zIR_s (zIR_e (by omega) (by omega) hk))))))))))))))))))))))))))) (zSub_cons (fun _ _ h h' hk => zIR_s (zIR_s (zIR_s (zIR_s (zIR_s (zIR_s (zIR_s (zIR_s (zIR_s (zIR_s (zIR_s (zIR_s (zIR_s (zIR_s (zIR_s (zIR_s (zIR_s (zIR_s (zIR_s (zIR_s (zIR_s (zIR_s (zIR_s (zIR_s (zIR_s (zIR_s (zIR_s (zIR_s (zIR_e (by omega) (by omega) hk))))))))))))))))))))))))))))) (zSub_cons (fun _ _ h h' hk => zIR_s (zIR_s (zIR_s (zIR_s (zIR_s (zIR_s (zIR_s (zIR_s (zIR_s (zIR_s (zIR_s (zIR_s (zIR_s (zIR_s (zIR_s (zIR_s (zIR_s (zIR_s (zIR_s (zIR_s (zIR_s (zIR_s (zIR_s (zIR_s (zIR_s (zIR_s (zIR_s (zIR_s (zIR_s (zIR_e (by omega) (by omega) hk)))))))))))))))))))))))))))))) (zSub_cons (fun _ _ h h' hk => zIR_s (zIR_s (zIR_s (zIR_s (zIR_s (zIR_s (zIR_s (zIR_s (zIR_s (zIR_s (zIR_s (zIR_s (zIR_s (zIR_s (zIR_s (zIR_s (zIR_s (zIR_s (zIR_s (zIR_s (zIR_s (zIR_s (zIR_s (zIR_s (zIR_s (zIR_s (zIR_s (zIR_s (zIR_s (zIR_s (zIR_s (zIR_e (by omega) (by omega) hk)))))))))))))))))))))))))))))))) zSub_nil)))))))))))))))))))))
  show ZW _ _ _ _ _ _ _ (22, [some (.ref 0), some (.int x1), none], [.int x12], M9)
  rcases Int.decEq x12.toInt (0 : Int) with h16 | h16
  · skip
    refine w_ine_t dX8_dorm_22 (t := 32) rfl (by omega) ?_
    refine w_lo dX8_dorm_32 rfl rfl rfl rfl ?_
    obtain ⟨b17, f18, h19⟩ := zd_0_3 hJ15.1
    have h20 := zDm_b h19
    refine w_gf dX8_dorm_33 rfl hJ15.1.1 zs_0 f18 ?_
    refine w_lo (ml' := [some (.ref 0), some (.int x1), some (.ref b17)]) dX8_dorm_36 rfl rfl rfl rfl ?_
    refine w_lo dX8_dorm_37 rfl rfl rfl rfl ?_
    refine w_lo dX8_dorm_38 rfl rfl rfl rfl ?_
    refine w_gf dX8_dorm_39 rfl hJ15.1.1 zs_0 (zr_0_2 hJ15.1) ?_
    obtain ⟨b21, f22, h23⟩ := zd_2_8 hJ15.1
    have h24 := zDm_b h23
    refine w_gf dX8_dorm_42 rfl hJ15.1.1 zs_2 f22 ?_
    refine w_pfd dX8_dorm_45 rfl hJ15 zs_0 (Nat.le_of_ble_eq_true rfl) zo_0_3 (zDm_or h23) (zIR_s (zIR_s (zIR_s (zIR_s (zIR_s (zIR_s (zIR_s (zIR_s (zIR_s (zIR_s (zIR_s (zIR_s (zIR_s (zIR_s (zIR_s (zIR_s (zIR_s (zIR_s (zIR_s (zIR_s (zIR_s (zIR_s (zIR_s (zIR_s (zIR_s (zIR_s (zIR_s (zIR_k (by omega) (by omega))))))))))))))))))))))))))))) rfl rfl rfl ?_
    intro M25 hJ26 f27 hn28
    refine w_lo dX8_dorm_48 rfl rfl rfl rfl ?_
    refine w_gf dX8_dorm_49 rfl hJ26.1.1 zs_0 (zr_0_2 hJ26.1) ?_
    refine w_lo dX8_dorm_52 rfl rfl rfl rfl ?_
    refine w_pfd dX8_dorm_53 rfl hJ26 zs_2 (Nat.le_of_ble_eq_true rfl) zo_2_8 (zDm_or h19) (zIR_s (zIR_s (zIR_s (zIR_s (zIR_s (zIR_s (zIR_s (zIR_s (zIR_s (zIR_s (zIR_s (zIR_s (zIR_s (zIR_s (zIR_s (zIR_s (zIR_s (zIR_s (zIR_s (zIR_s (zIR_s (zIR_s (zIR_s (zIR_s (zIR_s (zIR_s (zIR_s (zIR_s (zIR_s (zIR_s (zIR_k (by omega) (by omega)))))))))))))))))))))))))))))))) rfl rfl rfl ?_
    intro M29 hJ30 f31 hn32
    refine w_lo dX8_dorm_56 rfl rfl rfl rfl ?_
    refine w_gf dX8_dorm_57 rfl hJ30.1.1 zs_0 (zr_0_4 hJ30.1) ?_
    refine w_lo dX8_dorm_60 rfl rfl rfl rfl ?_
    have f33 := (hn32 (0) 3 (Or.inr (by decide))).trans (f27)
    refine w_gf dX8_dorm_61 rfl hJ30.1.1 zs_0 f33 ?_
    refine w_iv dX8_dorm_64 rfl rfl (As := [.ref b21]) rfl rfl hJ30.1.1 zs_49 (Nat.le_of_ble_eq_true rfl) ?_
    refine ZV.imp (k_1537 49 hb_6_49 b21 h23 hN hJ30.1) ?_
    rintro _ ⟨M34, rfl, hJ35, hq36⟩
    have hJ37 := zJ_trans hJ30 hJ35 (zSub_cons (fun _ _ h h' hk => zIR_s (zIR_s (zIR_s (zIR_s (zIR_s (zIR_e (by omega) (by omega) hk)))))) (zSub_cons (fun _ _ h h' hk => zIR_s (zIR_s (zIR_s (zIR_s (zIR_s (zIR_s (zIR_s (zIR_s (zIR_s (zIR_s (zIR_s (zIR_s (zIR_s (zIR_e (by omega) (by omega) hk)))))))))))))) (zSub_cons (fun _ _ h h' hk => zIR_s (zIR_s (zIR_s (zIR_s (zIR_s (zIR_s (zIR_s (zIR_s (zIR_s (zIR_s (zIR_s (zIR_s (zIR_s (zIR_s (zIR_s (zIR_s (zIR_s (zIR_s (zIR_s (zIR_s (zIR_a (by omega) (by omega)))))))))))))))))))))) (zSub_cons (fun _ _ h h' hk => zIR_s (zIR_s (zIR_s (zIR_s (zIR_s (zIR_s (zIR_s (zIR_s (zIR_s (zIR_s (zIR_s (zIR_s (zIR_s (zIR_s (zIR_s (zIR_s (zIR_s (zIR_s (zIR_s (zIR_s (zIR_s (zIR_s (zIR_s (zIR_e (by omega) (by omega) hk)))))))))))))))))))))))) zSub_nil))))
    show ZW _ _ _ _ _ _ _ (67, [some (.ref 0), some (.int x1), some (.ref b17)], [], M34)
    refine w_lo dX8_dorm_67 rfl rfl rfl rfl ?_
    refine w_gf dX8_dorm_68 rfl hJ37.1.1 zs_0 (zr_0_6 hJ37.1) ?_
    refine w_iv dX8_dorm_71 rfl rfl (As := []) rfl rfl hJ37.1.1 zs_77 (Nat.le_of_ble_eq_true rfl) ?_
    refine ZV.imp (k_1 hN hJ37.1) ?_
    rintro _ ⟨M38, rfl, hJ39, hq40⟩
    have hJ41 := zJ_trans hJ37 hJ39 (zSub_cons (fun _ _ h h' hk => zIR_s (zIR_s (zIR_s (zIR_s (zIR_s (zIR_s (zIR_e (by omega) (by omega) hk))))))) zSub_nil)
    show ZW _ _ _ _ _ _ _ (74, [some (.ref 0), some (.int x1), some (.ref b17)], [], M38)
    refine w_lo dX8_dorm_74 rfl rfl rfl rfl ?_
    refine w_ic dX8_dorm_75 zi_0 ?_
    refine w_pfi dX8_dorm_76 rfl hJ41 zs_0 (Nat.le_of_ble_eq_true rfl) zo_0_11 (by have := zt_0; omega) (by have := zt_0; omega) (zIR_s (zIR_s (zIR_s (zIR_s (zIR_s (zIR_s (zIR_s (zIR_s (zIR_s (zIR_s (zIR_s (zIR_s (zIR_s (zIR_s (zIR_s (zIR_s (zIR_s (zIR_s (zIR_s (zIR_s (zIR_s (zIR_s (zIR_k (by omega) (by omega)))))))))))))))))))))))) rfl rfl rfl ?_
    intro M42 hJ43 f44 hn45
    refine w_lo dX8_dorm_79 rfl rfl rfl rfl ?_
    refine w_pu dX8_dorm_80 rfl rfl ?_
    refine w_gfi dX8_dorm_81 rfl hJ43.1 zs_0 (Nat.le_of_ble_eq_true rfl) zo_0_15 ?_
    intro x46 f47 h48 h49
    refine w_ic dX8_dorm_84 zi_1 ?_
    refine w_puI dX8_dorm_85 rfl rfl ?_
    intro x50
    refine w_pfi dX8_dorm_86 rfl hJ43 zs_0 (Nat.le_of_ble_eq_true rfl) zo_0_15 (zbot _) (ztop _) (zIR_s (zIR_s (zIR_s (zIR_s (zIR_s (zIR_s (zIR_s (zIR_s (zIR_s (zIR_s (zIR_s (zIR_s (zIR_s (zIR_s (zIR_s (zIR_s (zIR_s (zIR_s (zIR_s (zIR_s (zIR_s (zIR_s (zIR_s (zIR_s (zIR_k (by omega) (by omega)))))))))))))))))))))))))) rfl rfl rfl ?_
    intro M51 hJ52 f53 hn54
    refine w_lo dX8_dorm_89 rfl rfl rfl rfl ?_
    have f55 := (hn54 (0) 3 (Or.inr (by decide))).trans ((hn45 (0) 3 (Or.inr (by decide))).trans ((hJ39.2 (0) 3 (zNI_k (by decide) (by decide) zNI_nil)).trans ((hJ35.2 (0) 3 (zNI_k (by decide) (by decide) (zNI_k (by decide) (by decide) (zNI (by omega) (zNI_k (by decide) (by decide) zNI_nil))))).trans (f33))))
    refine w_gf dX8_dorm_90 rfl hJ52.1.1 zs_0 f55 ?_
    refine w_gfi dX8_dorm_93 rfl hJ52.1 (zs_1_0 h23) (Nat.le_of_ble_eq_true rfl) (zo_1_0_0 h23) ?_
    intro x56 f57 h58 h59
    refine w_eni dX8_dorm_96 rfl rfl ?_
    have f60 := (hn54 (0) 1 (Or.inr (by decide))).trans ((hn45 (0) 1 (Or.inr (by decide))).trans ((hJ39.2 (0) 1 (zNI_k (by decide) (by decide) zNI_nil)).trans ((hJ35.2 (0) 1 (zNI_k (by decide) (by decide) (zNI (by omega) (zNI (by omega) (zNI_k (by decide) (by decide) zNI_nil))))).trans ((hn32 (0) 1 (Or.inr (by decide))).trans ((hn28 (0) 1 (Or.inr (by decide))).trans ((hJ10.2 (0) 1 (zNI_k (by decide) (by decide) (zNI_k (by decide) (by decide) (zNI_k (by decide) (by decide) (zNI_k (by decide) (by decide) (zNI_k (by decide) (by decide) (zNI (by omega) (zNI (by omega) (zNI (by omega) (zNI (by omega) (zNI (by omega) (zNI_k (by decide) (by decide) (zNI (by omega) (zNI (by omega) (zNI (by omega) (zNI (by omega) (zNI (by omega) (zNI_k (by decide) (by decide) (zNI_k (by decide) (by decide) (zNI_k (by decide) (by decide) (zNI_k (by decide) (by decide) (zNI_k (by decide) (by decide) zNI_nil)))))))))))))))))))))).trans (f7)))))))
    exact ⟨_, _, rfl, (by omega), (by omega), hJ52, ⟨0, f60, (by have := zt_0; omega), trivial⟩⟩
  · skip
    refine w_ine_f dX8_dorm_22 (t := 32) rfl (by omega) ?_
    refine w_lo dX8_dorm_25 rfl rfl rfl rfl ?_
    refine w_ic dX8_dorm_26 zi_1 ?_
    refine w_iv dX8_dorm_27 rfl rfl (As := [.int 1]) rfl rfl hJ15.1.1 zs_0 (Nat.le_of_ble_eq_true rfl) ?_
    refine ZV.imp (k_2050 1 (by have := zt_1; omega) (by have := zt_1; omega) hN hJ15.1) ?_
    rintro _ ⟨M61, rfl, hJ62, hq63⟩
    have hJ64 := zJ_trans hJ15 hJ62 (zSub_cons (fun _ _ h h' hk => zIR_s (zIR_s (zIR_s (zIR_s (zIR_s (zIR_s (zIR_s (zIR_s (zIR_s (zIR_s (zIR_s (zIR_s (zIR_s (zIR_s (zIR_s (zIR_s (zIR_s (zIR_s (zIR_s (zIR_s (zIR_s (zIR_a (by omega) (by omega))))))))))))))))))))))) zSub_nil)
    show ZW _ _ _ _ _ _ _ (30, [some (.ref 0), some (.int x1), none], [], M61)
    refine w_ic dX8_dorm_30 zi_m1 ?_
    refine w_en dX8_dorm_31 rfl ?_
    have f65 := (hJ62.2 (0) 1 (zNI (by omega) zNI_nil)).trans ((hJ10.2 (0) 1 (zNI_k (by decide) (by decide) (zNI_k (by decide) (by decide) (zNI_k (by decide) (by decide) (zNI_k (by decide) (by decide) (zNI_k (by decide) (by decide) (zNI (by omega) (zNI (by omega) (zNI (by omega) (zNI (by omega) (zNI (by omega) (zNI_k (by decide) (by decide) (zNI (by omega) (zNI (by omega) (zNI (by omega) (zNI (by omega) (zNI (by omega) (zNI_k (by decide) (by decide) (zNI_k (by decide) (by decide) (zNI_k (by decide) (by decide) (zNI_k (by decide) (by decide) (zNI_k (by decide) (by decide) zNI_nil)))))))))))))))))))))).trans (f7))
    exact ⟨_, _, rfl, (by have := zt_m1; omega), (by have := zt_m1; omega), hJ64, ⟨0, f65, (by have := zt_m1; have := zt_0; omega), trivial⟩⟩
set_option maxRecDepth 100000 in
theorem k_2054 {X : List Int32} {d N : Nat} {M0 : zM} (a0 : Int32) (hN : N ≤ 600) (hB0 : zB N M0) : ZV X (d + 1) 2054 [.ref 0, .int a0] M0 (zRI N [] M0 (-2147483648) (2147483647) (fun _ _ => True)) := by
  have hJ0 : zJ N [] M0 M0 := zJ_refl hB0
  refine ZV.of (ini := false) rfl (Nat.le_of_ble_eq_true rfl) (by decide +kernel) ?_
  show ZW _ _ _ _ _ _ _ (0, [some (.ref 0), some (.int a0)], [], M0)
  refine w_lo dX8_fault_0 rfl rfl rfl rfl ?_
  rcases Int.decEq a0.toInt (0 : Int) with h1 | h1
  rotate_left
  · skip
    refine w_lk dX8_fault_1 rfl (t := 28) (j := 0) h1 (by decide) ?_
    refine w_lo dX8_fault_28 rfl rfl rfl rfl ?_
    refine w_gf dX8_fault_29 rfl hJ0.1.1 zs_0 (zr_0_2 hJ0.1) ?_
    refine w_gfi dX8_fault_32 rfl hJ0.1 zs_2 (Nat.le_of_ble_eq_true rfl) zo_2_0 ?_
    intro x2 f3 h4 h5
    refine w_eni dX8_fault_35 rfl rfl ?_
    exact ⟨_, _, rfl, (zbot _), (ztop _), hJ0, trivial⟩
  rcases Int.decEq a0.toInt (1 : Int) with h6 | h6
  rotate_left
  · skip
    refine w_lk dX8_fault_1 rfl (t := 36) (j := 1) h6 (by decide) ?_
    refine w_lo dX8_fault_36 rfl rfl rfl rfl ?_
    refine w_gf dX8_fault_37 rfl hJ0.1.1 zs_0 (zr_0_2 hJ0.1) ?_
    refine w_gfi dX8_fault_40 rfl hJ0.1 zs_2 (Nat.le_of_ble_eq_true rfl) zo_2_1 ?_
    intro x7 f8 h9 h10
    refine w_eni dX8_fault_43 rfl rfl ?_
    exact ⟨_, _, rfl, (zbot _), (ztop _), hJ0, trivial⟩
  refine w_ld dX8_fault_1 rfl (t := 44) (List.forall_mem_cons.mpr ⟨by show (0 : Int) ≠ _; omega, List.forall_mem_cons.mpr ⟨by show (1 : Int) ≠ _; omega, fun _ h => absurd h List.not_mem_nil⟩⟩) rfl ?_
  refine w_ic dX8_fault_44 zi_m1 ?_
  refine w_en dX8_fault_45 rfl ?_
  exact ⟨_, _, rfl, (zbot _), (ztop _), hJ0, trivial⟩
set_option maxRecDepth 100000 in
theorem k_2056 {X : List Int32} {d N : Nat} {M0 : zM}  (hN : N ≤ 600) (hB0 : zB N M0) : ZV X (d + 1) 2056 [.ref 0] M0 (zRI N [] M0 (-2147483648) (2147483647) (fun _ _ => True)) := by
  have hJ0 : zJ N [] M0 M0 := zJ_refl hB0
  refine ZV.of (ini := false) rfl (Nat.le_of_ble_eq_true rfl) (by decide +kernel) ?_
  have main : ∀ n : Nat,
      (∀ (M : zM) (v4_1 : Int32) (v4_2 : Int32), zJ N [] M0 M → ((-2147483648 : Int) ≤ v4_1.toInt) → (v4_1.toInt ≤ 2147483647) → ((0 : Int) ≤ v4_2.toInt) → (v4_2.toInt ≤ 11) → 3 * (11 - v4_2.toInt) + 1 < (n : Int) → ZW X (d + 0) 8 false (some .int) cX8_tiedKnots (zRI N [] M0 (-2147483648) (2147483647) (fun _ _ => True)) (4, [some (.ref 0), some (.int v4_1), some (.int v4_2)], [], M)) := by
    intro n
    induction n with
    | zero =>
      exact (fun M v4_1 v4_2 hJ v4_10 v4_11 v4_20 v4_21 hn => absurd hn (by omega))
    | succ n ih =>
      have ih4 := ih
      · intro M v4_1 v4_2 hJ v4_10 v4_11 v4_20 v4_21 hn
        refine w_lo dX8_tiedKnots_4 rfl rfl rfl rfl ?_
        refine w_lo dX8_tiedKnots_5 rfl rfl rfl rfl ?_
        refine w_gf dX8_tiedKnots_6 rfl hJ.1.1 zs_0 (zr_0_4 hJ.1) ?_
        refine w_gfi dX8_tiedKnots_9 rfl hJ.1 zs_49 (Nat.le_of_ble_eq_true rfl) zo_49_0 ?_
        intro x1 f2 h3 h4
        refine w_ic dX8_tiedKnots_12 zi_1 ?_
        refine w_sub dX8_tiedKnots_13 (by have := zt_1; omega) ?_
        intro x5 h6
        have := zt_1
        rcases zcut v4_2.toInt x5.toInt with h7 | h7
        · skip
          refine w_cge_f dX8_tiedKnots_14 (t := 43) rfl (by omega) ?_
          refine w_lo dX8_tiedKnots_17 rfl rfl rfl rfl ?_
          refine w_lo dX8_tiedKnots_18 rfl rfl rfl rfl ?_
          refine w_gf dX8_tiedKnots_19 rfl hJ.1.1 zs_0 (zr_0_4 hJ.1) ?_
          refine w_gf dX8_tiedKnots_22 rfl hJ.1.1 zs_49 (zr_49_12 hJ.1) ?_
          refine w_lo dX8_tiedKnots_25 rfl rfl rfl rfl ?_
          refine w_bai dX8_tiedKnots_26 hJ.1 zs_60 (by omega) (by omega) zu_60 ?_
          intro x11 f8 h9 h10
          rcases Int.decEq x11.toInt (0 : Int) with h12 | h12
          · skip
            refine w_ieq_f dX8_tiedKnots_27 (t := 34) rfl (by omega) ?_
            refine w_ic dX8_tiedKnots_30 zi_1 ?_
            refine w_gt dX8_tiedKnots_31 (t := 35) rfl ?_
            refine w_puI dX8_tiedKnots_35 rfl rfl ?_
            intro x13
            refine w_lo (ml' := [some (.ref 0), some (.int x13), some (.int v4_2)]) dX8_tiedKnots_36 rfl rfl rfl rfl ?_
            refine w_inc (kk := 2) dX8_tiedKnots_37 rfl (m := 1) (by decide) (by omega) ?_
            intro x14 h15
            refine ⟨_, rfl, ?_⟩
            show ZW _ _ _ _ _ _ _ (40, [some (.ref 0), some (.int x13), some (.int x14)], [], M)
            refine w_gt dX8_tiedKnots_40 (t := 4) rfl ?_
            exact ih4 M x13 x14 hJ (zbot _) (ztop _) (by omega) (by omega) (by omega)
          · skip
            refine w_ieq_t dX8_tiedKnots_27 (t := 34) rfl (by omega) ?_
            refine w_ic dX8_tiedKnots_34 zi_0 ?_
            refine w_add dX8_tiedKnots_35 (by have := zt_0; omega) ?_
            intro x16 h17
            have := zt_0
            refine w_lo (ml' := [some (.ref 0), some (.int x16), some (.int v4_2)]) dX8_tiedKnots_36 rfl rfl rfl rfl ?_
            refine w_inc (kk := 2) dX8_tiedKnots_37 rfl (m := 1) (by decide) (by omega) ?_
            intro x18 h19
            refine ⟨_, rfl, ?_⟩
            show ZW _ _ _ _ _ _ _ (40, [some (.ref 0), some (.int x16), some (.int x18)], [], M)
            refine w_gt dX8_tiedKnots_40 (t := 4) rfl ?_
            exact ih4 M x16 x18 hJ (zbot _) (ztop _) (by omega) (by omega) (by omega)
        · skip
          refine w_cge_t dX8_tiedKnots_14 (t := 43) rfl (by omega) ?_
          refine w_lo dX8_tiedKnots_43 rfl rfl rfl rfl ?_
          refine w_eni dX8_tiedKnots_44 rfl rfl ?_
          exact ⟨_, _, rfl, (zbot _), (ztop _), hJ, trivial⟩
  have ih4 := main 45
  show ZW _ _ _ _ _ _ _ (0, [some (.ref 0), none, none], [], M0)
  refine w_ic dX8_tiedKnots_0 zi_0 ?_
  refine w_lo (ml' := [some (.ref 0), some (.int 0), none]) dX8_tiedKnots_1 rfl rfl rfl rfl ?_
  refine w_ic dX8_tiedKnots_2 zi_0 ?_
  refine w_lo (ml' := [some (.ref 0), some (.int 0), some (.int 0)]) dX8_tiedKnots_3 rfl rfl rfl rfl ?_
  exact ih4 M0 0 0 hJ0 (zbot _) (ztop _) (by have := zt_0; omega) (by have := zt_0; omega) (by have := zt_0; omega)
set_option maxRecDepth 100000 in
theorem k_2057 {X : List Int32} {d N : Nat} {M0 : zM} (a0 : Int32) (ha00 : (-1 : Int) ≤ a0.toInt) (ha01 : a0.toInt ≤ 5) (hN : N ≤ 600) (hB0 : zB N M0) : ZV X (d + 1) 2057 [.ref 0, .int a0] M0 (zRI N [] M0 (-2147483648) (2147483647) (fun _ _ => True)) := by
  have hJ0 : zJ N [] M0 M0 := zJ_refl hB0
  refine ZV.of (ini := false) rfl (Nat.le_of_ble_eq_true rfl) (by decide +kernel) ?_
  have main : ∀ n : Nat,
      (∀ (M : zM) (v4_1 : Int32) (v4_2 : Int32) (v4_3 : Int32) (o4_4 : Option Value), zJ N [] M0 M → ((-1 : Int) ≤ v4_1.toInt) → (v4_1.toInt ≤ 5) → ((-2147483648 : Int) ≤ v4_2.toInt) → (v4_2.toInt ≤ 2147483647) → ((0 : Int) ≤ v4_3.toInt) → (v4_3.toInt ≤ 12) → 3 * (12 - v4_3.toInt) + 1 < (n : Int) → ZW X (d + 0) 8 false (some .int) cX8_dreamers (zRI N [] M0 (-2147483648) (2147483647) (fun _ _ => True)) (4, [some (.ref 0), some (.int v4_1), some (.int v4_2), some (.int v4_3), o4_4], [], M)) := by
    intro n
    induction n with
    | zero =>
      exact (fun M v4_1 v4_2 v4_3 o4_4 hJ v4_10 v4_11 v4_20 v4_21 v4_30 v4_31 hn => absurd hn (by omega))
    | succ n ih =>
      have ih4 := ih
      · intro M v4_1 v4_2 v4_3 o4_4 hJ v4_10 v4_11 v4_20 v4_21 v4_30 v4_31 hn
        refine w_lo dX8_dreamers_4 rfl rfl rfl rfl ?_
        refine w_lo dX8_dreamers_5 rfl rfl rfl rfl ?_
        obtain ⟨b1, f2, h3⟩ := zd_0_3 hJ.1
        have h4 := zDm_b h3
        refine w_gf dX8_dreamers_6 rfl hJ.1.1 zs_0 f2 ?_
        refine w_gfi dX8_dreamers_9 rfl hJ.1 (zs_1_0 h3) (Nat.le_of_ble_eq_true rfl) (zo_1_0_1 h3) ?_
        intro x5 f6 h7 h8
        rcases zcut v4_3.toInt x5.toInt with h9 | h9
        · skip
          refine w_cge_f dX8_dreamers_12 (t := 57) rfl (by omega) ?_
          refine w_lo dX8_dreamers_15 rfl rfl rfl rfl ?_
          refine w_gf dX8_dreamers_16 rfl hJ.1.1 zs_0 (zr_0_4 hJ.1) ?_
          refine w_gf dX8_dreamers_19 rfl hJ.1.1 zs_49 (zr_49_4 hJ.1) ?_
          refine w_lo dX8_dreamers_22 rfl rfl rfl rfl ?_
          refine w_iai dX8_dreamers_23 hJ.1 zs_52 (by omega) (by omega) zu_52 ?_
          intro x13 f10 h11 h12
          refine w_lo (ml' := [some (.ref 0), some (.int v4_1), some (.int v4_2), some (.int v4_3), some (.int x13)]) dX8_dreamers_24 rfl rfl rfl rfl ?_
          refine w_lo dX8_dreamers_26 rfl rfl rfl rfl ?_
          refine w_lo dX8_dreamers_27 rfl rfl rfl rfl ?_
          refine w_ic dX8_dreamers_29 zi_m1 ?_
          rcases Int.decEq x13.toInt (-1 : Int) with h14 | h14
          · skip
            refine w_ceq_f dX8_dreamers_30 (t := 48) rfl (by have := zt_m1; omega) ?_
            refine w_lo dX8_dreamers_33 rfl rfl rfl rfl ?_
            refine w_ic dX8_dreamers_34 zi_m1 ?_
            rcases Int.decEq v4_1.toInt (-1 : Int) with h15 | h15
            · skip
              refine w_ceq_f dX8_dreamers_35 (t := 44) rfl (by have := zt_m1; omega) ?_
              refine w_lo dX8_dreamers_38 rfl rfl rfl rfl ?_
              refine w_lo dX8_dreamers_40 rfl rfl rfl rfl ?_
              rcases Int.decEq x13.toInt v4_1.toInt with h16 | h16
              · skip
                refine w_cne_t dX8_dreamers_41 (t := 48) rfl (by omega) ?_
                refine w_ic dX8_dreamers_48 zi_0 ?_
                refine w_add dX8_dreamers_49 (by have := zt_0; omega) ?_
                intro x17 h18
                have := zt_0
                refine w_lo (ml' := [some (.ref 0), some (.int v4_1), some (.int x17), some (.int v4_3), some (.int x13)]) dX8_dreamers_50 rfl rfl rfl rfl ?_
                refine w_inc (kk := 3) dX8_dreamers_51 rfl (m := 1) (by decide) (by omega) ?_
                intro x19 h20
                refine ⟨_, rfl, ?_⟩
                show ZW _ _ _ _ _ _ _ (54, [some (.ref 0), some (.int v4_1), some (.int x17), some (.int x19), some (.int x13)], [], M)
                refine w_gt dX8_dreamers_54 (t := 4) rfl ?_
                exact ih4 M v4_1 x17 x19 (some (.int x13)) hJ (by omega) (by omega) (zbot _) (ztop _) (by omega) (by omega) (by omega)
              · skip
                refine w_cne_f dX8_dreamers_41 (t := 48) rfl (by omega) ?_
                refine w_ic dX8_dreamers_44 zi_1 ?_
                refine w_gt dX8_dreamers_45 (t := 49) rfl ?_
                refine w_puI dX8_dreamers_49 rfl rfl ?_
                intro x21
                refine w_lo (ml' := [some (.ref 0), some (.int v4_1), some (.int x21), some (.int v4_3), some (.int x13)]) dX8_dreamers_50 rfl rfl rfl rfl ?_
                refine w_inc (kk := 3) dX8_dreamers_51 rfl (m := 1) (by decide) (by omega) ?_
                intro x22 h23
                refine ⟨_, rfl, ?_⟩
                show ZW _ _ _ _ _ _ _ (54, [some (.ref 0), some (.int v4_1), some (.int x21), some (.int x22), some (.int x13)], [], M)
                refine w_gt dX8_dreamers_54 (t := 4) rfl ?_
                exact ih4 M v4_1 x21 x22 (some (.int x13)) hJ (by omega) (by omega) (zbot _) (ztop _) (by omega) (by omega) (by omega)
            · skip
              refine w_ceq_t dX8_dreamers_35 (t := 44) rfl (by have := zt_m1; omega) ?_
              refine w_ic dX8_dreamers_44 zi_1 ?_
              refine w_gt dX8_dreamers_45 (t := 49) rfl ?_
              refine w_puI dX8_dreamers_49 rfl rfl ?_
              intro x24
              refine w_lo (ml' := [some (.ref 0), some (.int v4_1), some (.int x24), some (.int v4_3), some (.int x13)]) dX8_dreamers_50 rfl rfl rfl rfl ?_
              refine w_inc (kk := 3) dX8_dreamers_51 rfl (m := 1) (by decide) (by omega) ?_
              intro x25 h26
              refine ⟨_, rfl, ?_⟩
              show ZW _ _ _ _ _ _ _ (54, [some (.ref 0), some (.int v4_1), some (.int x24), some (.int x25), some (.int x13)], [], M)
              refine w_gt dX8_dreamers_54 (t := 4) rfl ?_
              exact ih4 M v4_1 x24 x25 (some (.int x13)) hJ (by omega) (by omega) (zbot _) (ztop _) (by omega) (by omega) (by omega)
          · skip
            refine w_ceq_t dX8_dreamers_30 (t := 48) rfl (by have := zt_m1; omega) ?_
            refine w_ic dX8_dreamers_48 zi_0 ?_
            refine w_add dX8_dreamers_49 (by have := zt_0; omega) ?_
            intro x27 h28
            have := zt_0
            refine w_lo (ml' := [some (.ref 0), some (.int v4_1), some (.int x27), some (.int v4_3), some (.int x13)]) dX8_dreamers_50 rfl rfl rfl rfl ?_
            refine w_inc (kk := 3) dX8_dreamers_51 rfl (m := 1) (by decide) (by omega) ?_
            intro x29 h30
            refine ⟨_, rfl, ?_⟩
            show ZW _ _ _ _ _ _ _ (54, [some (.ref 0), some (.int v4_1), some (.int x27), some (.int x29), some (.int x13)], [], M)
            refine w_gt dX8_dreamers_54 (t := 4) rfl ?_
            exact ih4 M v4_1 x27 x29 (some (.int x13)) hJ (by omega) (by omega) (zbot _) (ztop _) (by omega) (by omega) (by omega)
        · skip
          refine w_cge_t dX8_dreamers_12 (t := 57) rfl (by omega) ?_
          refine w_lo dX8_dreamers_57 rfl rfl rfl rfl ?_
          refine w_eni dX8_dreamers_58 rfl rfl ?_
          exact ⟨_, _, rfl, (zbot _), (ztop _), hJ, trivial⟩
  have ih4 := main 48
  show ZW _ _ _ _ _ _ _ (0, [some (.ref 0), some (.int a0), none, none, none], [], M0)
  refine w_ic dX8_dreamers_0 zi_0 ?_
  refine w_lo (ml' := [some (.ref 0), some (.int a0), some (.int 0), none, none]) dX8_dreamers_1 rfl rfl rfl rfl ?_
  refine w_ic dX8_dreamers_2 zi_0 ?_
  refine w_lo (ml' := [some (.ref 0), some (.int a0), some (.int 0), some (.int 0), none]) dX8_dreamers_3 rfl rfl rfl rfl ?_
  exact ih4 M0 a0 0 0 none hJ0 (by omega) (by omega) (zbot _) (ztop _) (by have := zt_0; omega) (by have := zt_0; omega) (by have := zt_0; omega)
set_option maxRecDepth 100000 in
theorem k_2058 {X : List Int32} {d N : Nat} {M0 : zM}  (hN : N ≤ 600) (hB0 : zB N M0) : ZV X (d + 1) 2058 [.ref 0] M0 (zRI N [] M0 (-2147483648) (2147483647) (fun _ _ => True)) := by
  have hJ0 : zJ N [] M0 M0 := zJ_refl hB0
  refine ZV.of (ini := false) rfl (Nat.le_of_ble_eq_true rfl) (by decide +kernel) ?_
  have main : ∀ n : Nat,
      (∀ (M : zM) (v4_1 : Int32) (v4_2 : Int32), zJ N [] M0 M → ((-2147483648 : Int) ≤ v4_1.toInt) → (v4_1.toInt ≤ 2147483647) → ((0 : Int) ≤ v4_2.toInt) → (v4_2.toInt ≤ 12) → 3 * (12 - v4_2.toInt) + 1 < (n : Int) → ZW X (d + 0) 8 false (some .int) cX8_caughtOnes (zRI N [] M0 (-2147483648) (2147483647) (fun _ _ => True)) (4, [some (.ref 0), some (.int v4_1), some (.int v4_2)], [], M)) := by
    intro n
    induction n with
    | zero =>
      exact (fun M v4_1 v4_2 hJ v4_10 v4_11 v4_20 v4_21 hn => absurd hn (by omega))
    | succ n ih =>
      have ih4 := ih
      · intro M v4_1 v4_2 hJ v4_10 v4_11 v4_20 v4_21 hn
        refine w_lo dX8_caughtOnes_4 rfl rfl rfl rfl ?_
        refine w_lo dX8_caughtOnes_5 rfl rfl rfl rfl ?_
        obtain ⟨b1, f2, h3⟩ := zd_0_3 hJ.1
        have h4 := zDm_b h3
        refine w_gf dX8_caughtOnes_6 rfl hJ.1.1 zs_0 f2 ?_
        refine w_gfi dX8_caughtOnes_9 rfl hJ.1 (zs_1_0 h3) (Nat.le_of_ble_eq_true rfl) (zo_1_0_1 h3) ?_
        intro x5 f6 h7 h8
        rcases zcut v4_2.toInt x5.toInt with h9 | h9
        · skip
          refine w_cge_f dX8_caughtOnes_12 (t := 42) rfl (by omega) ?_
          refine w_lo dX8_caughtOnes_15 rfl rfl rfl rfl ?_
          refine w_lo dX8_caughtOnes_16 rfl rfl rfl rfl ?_
          refine w_gf dX8_caughtOnes_17 rfl hJ.1.1 zs_0 (zr_0_4 hJ.1) ?_
          refine w_gf dX8_caughtOnes_20 rfl hJ.1.1 zs_49 (zr_49_6 hJ.1) ?_
          refine w_lo dX8_caughtOnes_23 rfl rfl rfl rfl ?_
          refine w_iai dX8_caughtOnes_24 hJ.1 zs_54 (by omega) (by omega) zu_54 ?_
          intro x13 f10 h11 h12
          refine w_ic dX8_caughtOnes_25 zi_m1 ?_
          rcases Int.decEq x13.toInt (-1 : Int) with h14 | h14
          · skip
            refine w_ceq_f dX8_caughtOnes_26 (t := 33) rfl (by have := zt_m1; omega) ?_
            refine w_ic dX8_caughtOnes_29 zi_1 ?_
            refine w_gt dX8_caughtOnes_30 (t := 34) rfl ?_
            refine w_puI dX8_caughtOnes_34 rfl rfl ?_
            intro x15
            refine w_lo (ml' := [some (.ref 0), some (.int x15), some (.int v4_2)]) dX8_caughtOnes_35 rfl rfl rfl rfl ?_
            refine w_inc (kk := 2) dX8_caughtOnes_36 rfl (m := 1) (by decide) (by omega) ?_
            intro x16 h17
            refine ⟨_, rfl, ?_⟩
            show ZW _ _ _ _ _ _ _ (39, [some (.ref 0), some (.int x15), some (.int x16)], [], M)
            refine w_gt dX8_caughtOnes_39 (t := 4) rfl ?_
            exact ih4 M x15 x16 hJ (zbot _) (ztop _) (by omega) (by omega) (by omega)
          · skip
            refine w_ceq_t dX8_caughtOnes_26 (t := 33) rfl (by have := zt_m1; omega) ?_
            refine w_ic dX8_caughtOnes_33 zi_0 ?_
            refine w_add dX8_caughtOnes_34 (by have := zt_0; omega) ?_
            intro x18 h19
            have := zt_0
            refine w_lo (ml' := [some (.ref 0), some (.int x18), some (.int v4_2)]) dX8_caughtOnes_35 rfl rfl rfl rfl ?_
            refine w_inc (kk := 2) dX8_caughtOnes_36 rfl (m := 1) (by decide) (by omega) ?_
            intro x20 h21
            refine ⟨_, rfl, ?_⟩
            show ZW _ _ _ _ _ _ _ (39, [some (.ref 0), some (.int x18), some (.int x20)], [], M)
            refine w_gt dX8_caughtOnes_39 (t := 4) rfl ?_
            exact ih4 M x18 x20 hJ (zbot _) (ztop _) (by omega) (by omega) (by omega)
        · skip
          refine w_cge_t dX8_caughtOnes_12 (t := 42) rfl (by omega) ?_
          refine w_lo dX8_caughtOnes_42 rfl rfl rfl rfl ?_
          refine w_eni dX8_caughtOnes_43 rfl rfl ?_
          exact ⟨_, _, rfl, (zbot _), (ztop _), hJ, trivial⟩
  have ih4 := main 48
  show ZW _ _ _ _ _ _ _ (0, [some (.ref 0), none, none], [], M0)
  refine w_ic dX8_caughtOnes_0 zi_0 ?_
  refine w_lo (ml' := [some (.ref 0), some (.int 0), none]) dX8_caughtOnes_1 rfl rfl rfl rfl ?_
  refine w_ic dX8_caughtOnes_2 zi_0 ?_
  refine w_lo (ml' := [some (.ref 0), some (.int 0), some (.int 0)]) dX8_caughtOnes_3 rfl rfl rfl rfl ?_
  exact ih4 M0 0 0 hJ0 (zbot _) (ztop _) (by have := zt_0; omega) (by have := zt_0; omega) (by have := zt_0; omega)
set_option maxRecDepth 100000 in
theorem k_2055 {X : List Int32} {d N : Nat} {M0 : zM} (a0 : Int32) (hN : N ≤ 600) (hB0 : zB N M0) : ZV X (d + 2) 2055 [.ref 0, .int a0] M0 (zRI N [] M0 (-2147483648) (2147483647) (fun _ _ => True)) := by
  have hJ0 : zJ N [] M0 M0 := zJ_refl hB0
  refine ZV.of (ini := false) rfl (Nat.le_of_ble_eq_true rfl) (by decide +kernel) ?_
  show ZW _ _ _ _ _ _ _ (0, [some (.ref 0), some (.int a0)], [], M0)
  refine w_lo dX8_has_0 rfl rfl rfl rfl ?_
  rcases Int.decEq a0.toInt (0 : Int) with h1 | h1
  rotate_left
  · skip
    refine w_ts dX8_has_1 (t := 64) (j := 0) h1 (by decide) ?_
    refine w_lo dX8_has_64 rfl rfl rfl rfl ?_
    obtain ⟨b2, f3, h4⟩ := zd_0_3 hJ0.1
    have h5 := zDm_b h4
    refine w_gf dX8_has_65 rfl hJ0.1.1 zs_0 f3 ?_
    refine w_gfi dX8_has_68 rfl hJ0.1 (zs_1_0 h4) (Nat.le_of_ble_eq_true rfl) (zo_1_0_1 h4) ?_
    intro x6 f7 h8 h9
    refine w_eni dX8_has_71 rfl rfl ?_
    exact ⟨_, _, rfl, (zbot _), (ztop _), hJ0, trivial⟩
  rcases Int.decEq a0.toInt (1 : Int) with h10 | h10
  rotate_left
  · skip
    refine w_ts dX8_has_1 (t := 72) (j := 1) h10 (by decide) ?_
    refine w_lo dX8_has_72 rfl rfl rfl rfl ?_
    obtain ⟨b11, f12, h13⟩ := zd_0_3 hJ0.1
    have h14 := zDm_b h13
    refine w_gf dX8_has_73 rfl hJ0.1.1 zs_0 f12 ?_
    refine w_gfi dX8_has_76 rfl hJ0.1 (zs_1_0 h13) (Nat.le_of_ble_eq_true rfl) (zo_1_0_2 h13) ?_
    intro x15 f16 h17 h18
    refine w_eni dX8_has_79 rfl rfl ?_
    exact ⟨_, _, rfl, (zbot _), (ztop _), hJ0, trivial⟩
  rcases Int.decEq a0.toInt (2 : Int) with h19 | h19
  rotate_left
  · skip
    refine w_ts dX8_has_1 (t := 80) (j := 2) h19 (by decide) ?_
    refine w_lo dX8_has_80 rfl rfl rfl rfl ?_
    obtain ⟨b20, f21, h22⟩ := zd_0_3 hJ0.1
    have h23 := zDm_b h22
    refine w_gf dX8_has_81 rfl hJ0.1.1 zs_0 f21 ?_
    refine w_gf dX8_has_84 rfl hJ0.1.1 (zs_1_0 h22) (zr_1_0_15 h22 hJ0.1) ?_
    refine w_gfi dX8_has_87 rfl hJ0.1 (zs_1_13 h22) (Nat.le_of_ble_eq_true rfl) (zo_1_13_0 h22) ?_
    intro x24 f25 h26 h27
    refine w_eni dX8_has_90 rfl rfl ?_
    exact ⟨_, _, rfl, (zbot _), (ztop _), hJ0, trivial⟩
  rcases Int.decEq a0.toInt (3 : Int) with h28 | h28
  rotate_left
  · skip
    refine w_ts dX8_has_1 (t := 91) (j := 3) h28 (by decide) ?_
    refine w_lo dX8_has_91 rfl rfl rfl rfl ?_
    refine w_iv dX8_has_92 rfl rfl (As := []) rfl rfl hJ0.1.1 zs_0 (Nat.le_of_ble_eq_true rfl) ?_
    refine ZV.imp (k_2056 hN hJ0.1) ?_
    rintro _ ⟨x32, M29, rfl, h33, h34, hJ30, hq31⟩
    have hJ35 := zJ_trans hJ0 hJ30 zSub_nil
    show ZW _ _ _ _ _ _ _ (95, [some (.ref 0), some (.int a0)], [.int x32], M29)
    refine w_eni dX8_has_95 rfl rfl ?_
    exact ⟨_, _, rfl, (zbot _), (ztop _), hJ35, trivial⟩
  rcases Int.decEq a0.toInt (4 : Int) with h36 | h36
  rotate_left
  · skip
    refine w_ts dX8_has_1 (t := 96) (j := 4) h36 (by decide) ?_
    refine w_lo dX8_has_96 rfl rfl rfl rfl ?_
    refine w_gf dX8_has_97 rfl hJ0.1.1 zs_0 (zr_0_4 hJ0.1) ?_
    refine w_gfi dX8_has_100 rfl hJ0.1 zs_49 (Nat.le_of_ble_eq_true rfl) zo_49_1 ?_
    intro x37 f38 h39 h40
    refine w_eni dX8_has_103 rfl rfl ?_
    exact ⟨_, _, rfl, (zbot _), (ztop _), hJ0, trivial⟩
  rcases Int.decEq a0.toInt (5 : Int) with h41 | h41
  rotate_left
  · skip
    refine w_ts dX8_has_1 (t := 104) (j := 5) h41 (by decide) ?_
    refine w_lo dX8_has_104 rfl rfl rfl rfl ?_
    refine w_gf dX8_has_105 rfl hJ0.1.1 zs_0 (zr_0_4 hJ0.1) ?_
    refine w_gfi dX8_has_108 rfl hJ0.1 zs_49 (Nat.le_of_ble_eq_true rfl) zo_49_0 ?_
    intro x42 f43 h44 h45
    refine w_lo dX8_has_111 rfl rfl rfl rfl ?_
    refine w_gf dX8_has_112 rfl hJ0.1.1 zs_0 (zr_0_4 hJ0.1) ?_
    refine w_iv dX8_has_115 rfl rfl (As := []) rfl rfl hJ0.1.1 zs_49 (Nat.le_of_ble_eq_true rfl) ?_
    refine ZV.imp (k_1538 49 hb_6_49 hN hJ0.1) ?_
    rintro _ ⟨x49, M46, rfl, h50, h51, hJ47, hq48⟩
    have hJ52 := zJ_trans hJ0 hJ47 zSub_nil
    show ZW _ _ _ _ _ _ _ (118, [some (.ref 0), some (.int a0)], [.int x49, .int x42], M46)
    refine w_puI dX8_has_118 rfl rfl ?_
    intro x53
    refine w_eni dX8_has_119 rfl rfl ?_
    exact ⟨_, _, rfl, (zbot _), (ztop _), hJ52, trivial⟩
  rcases Int.decEq a0.toInt (6 : Int) with h54 | h54
  rotate_left
  · skip
    refine w_ts dX8_has_1 (t := 120) (j := 6) h54 (by decide) ?_
    refine w_lo dX8_has_120 rfl rfl rfl rfl ?_
    refine w_ic dX8_has_121 zi_m1 ?_
    refine w_iv dX8_has_122 rfl rfl (As := [.int (-1)]) rfl rfl hJ0.1.1 zs_0 (Nat.le_of_ble_eq_true rfl) ?_
    refine ZV.imp (k_2057 (-1) (by have := zt_m1; omega) (by have := zt_m1; omega) hN hJ0.1) ?_
    rintro _ ⟨x58, M55, rfl, h59, h60, hJ56, hq57⟩
    have hJ61 := zJ_trans hJ0 hJ56 zSub_nil
    show ZW _ _ _ _ _ _ _ (125, [some (.ref 0), some (.int a0)], [.int x58], M55)
    refine w_eni dX8_has_125 rfl rfl ?_
    exact ⟨_, _, rfl, (zbot _), (ztop _), hJ61, trivial⟩
  rcases Int.decEq a0.toInt (7 : Int) with h62 | h62
  rotate_left
  · skip
    refine w_ts dX8_has_1 (t := 126) (j := 7) h62 (by decide) ?_
    refine w_lo dX8_has_126 rfl rfl rfl rfl ?_
    refine w_iv dX8_has_127 rfl rfl (As := []) rfl rfl hJ0.1.1 zs_0 (Nat.le_of_ble_eq_true rfl) ?_
    refine ZV.imp (k_2058 hN hJ0.1) ?_
    rintro _ ⟨x66, M63, rfl, h67, h68, hJ64, hq65⟩
    have hJ69 := zJ_trans hJ0 hJ64 zSub_nil
    show ZW _ _ _ _ _ _ _ (130, [some (.ref 0), some (.int a0)], [.int x66], M63)
    refine w_eni dX8_has_130 rfl rfl ?_
    exact ⟨_, _, rfl, (zbot _), (ztop _), hJ69, trivial⟩
  rcases Int.decEq a0.toInt (8 : Int) with h70 | h70
  rotate_left
  · skip
    refine w_ts dX8_has_1 (t := 131) (j := 8) h70 (by decide) ?_
    refine w_lo dX8_has_131 rfl rfl rfl rfl ?_
    refine w_gf dX8_has_132 rfl hJ0.1.1 zs_0 (zr_0_4 hJ0.1) ?_
    refine w_iv dX8_has_135 rfl rfl (As := []) rfl rfl hJ0.1.1 zs_49 (Nat.le_of_ble_eq_true rfl) ?_
    refine ZV.of (ini := false) rfl (Nat.le_of_ble_eq_true rfl) (by decide +kernel) ?_
    show ZW _ _ _ _ _ _ _ (0, [some (.ref 49)], [], M0)
    refine w_lo dX6_told_0 rfl rfl rfl rfl ?_
    refine w_gfc dX6_told_1 rfl hJ0.1 zs_49 (Nat.le_of_ble_eq_true rfl) zo_49_14 ?_
    intro x71 f72 h73 h74
    refine w_si dX6_told_4 (c := 200) (by decide) ?_
    refine w_mnI dX6_told_7 rfl (Nat.le_of_ble_eq_true rfl) ?_
    intro x75 h76 h77 h78
    have := zt_200
    show ZW _ _ _ _ _ _ _ (10, [some (.ref 49)], [.int x75], M0)
    refine w_eni dX6_told_10 rfl rfl ?_
    show ZW _ _ _ _ _ _ _ (138, [some (.ref 0), some (.int a0)], [.int x75], M0)
    refine w_eni dX8_has_138 rfl rfl ?_
    exact ⟨_, _, rfl, (zbot _), (ztop _), hJ0, trivial⟩
  rcases Int.decEq a0.toInt (9 : Int) with h79 | h79
  rotate_left
  · skip
    refine w_ts dX8_has_1 (t := 139) (j := 9) h79 (by decide) ?_
    refine w_lo dX8_has_139 rfl rfl rfl rfl ?_
    refine w_gf dX8_has_140 rfl hJ0.1.1 zs_0 (zr_0_6 hJ0.1) ?_
    refine w_gfi dX8_has_143 rfl hJ0.1 zs_77 (Nat.le_of_ble_eq_true rfl) zo_77_0 ?_
    intro x80 f81 h82 h83
    refine w_eni dX8_has_146 rfl rfl ?_
    exact ⟨_, _, rfl, (zbot _), (ztop _), hJ0, trivial⟩
  rcases Int.decEq a0.toInt (10 : Int) with h84 | h84
  rotate_left
  · skip
    refine w_ts dX8_has_1 (t := 147) (j := 10) h84 (by decide) ?_
    refine w_lo dX8_has_147 rfl rfl rfl rfl ?_
    obtain ⟨b85, f86, h87⟩ := zd_0_3 hJ0.1
    have h88 := zDm_b h87
    refine w_gf dX8_has_148 rfl hJ0.1.1 zs_0 f86 ?_
    refine w_gfi dX8_has_151 rfl hJ0.1 (zs_1_0 h87) (Nat.le_of_ble_eq_true rfl) (zo_1_0_1 h87) ?_
    intro x89 f90 h91 h92
    refine w_lo dX8_has_154 rfl rfl rfl rfl ?_
    refine w_iv dX8_has_155 rfl rfl (As := []) rfl rfl hJ0.1.1 zs_0 (Nat.le_of_ble_eq_true rfl) ?_
    refine ZV.imp (k_2056 hN hJ0.1) ?_
    rintro _ ⟨x96, M93, rfl, h97, h98, hJ94, hq95⟩
    have hJ99 := zJ_trans hJ0 hJ94 zSub_nil
    show ZW _ _ _ _ _ _ _ (158, [some (.ref 0), some (.int a0)], [.int x96, .int x89], M93)
    refine w_puI dX8_has_158 rfl rfl ?_
    intro x100
    refine w_eni dX8_has_159 rfl rfl ?_
    exact ⟨_, _, rfl, (zbot _), (ztop _), hJ99, trivial⟩
  rcases Int.decEq a0.toInt (11 : Int) with h101 | h101
  rotate_left
  · skip
    refine w_ts dX8_has_1 (t := 160) (j := 11) h101 (by decide) ?_
    refine w_lo dX8_has_160 rfl rfl rfl rfl ?_
    refine w_gf dX8_has_161 rfl hJ0.1.1 zs_0 (zr_0_7 hJ0.1) ?_
    refine w_gfi dX8_has_164 rfl hJ0.1 zs_359 (Nat.le_of_ble_eq_true rfl) zo_359_0 ?_
    intro x102 f103 h104 h105
    refine w_eni dX8_has_167 rfl rfl ?_
    exact ⟨_, _, rfl, (zbot _), (ztop _), hJ0, trivial⟩
  refine w_td dX8_has_1 (t := 168) (by omega) rfl ?_
  refine w_ic dX8_has_168 zi_m1 ?_
  refine w_en dX8_has_169 rfl ?_
  exact ⟨_, _, rfl, (zbot _), (ztop _), hJ0, trivial⟩
set_option maxRecDepth 100000 in
theorem k_2061 {X : List Int32} {d N : Nat} {M0 : zM} (a0 : Int32) (a1 : Int32) (ha10 : (0 : Int) ≤ a1.toInt) (ha11 : a1.toInt ≤ 5) (hN : N ≤ 600) (hB0 : zB N M0) : ZV X (d + 1) 2061 [.int a0, .int a1] M0 (zRI N [] M0 (0) (31) (fun _ _ => True)) := by
  have hJ0 : zJ N [] M0 M0 := zJ_refl hB0
  refine ZV.of (ini := false) rfl (Nat.le_of_ble_eq_true rfl) (by decide +kernel) ?_
  show ZW _ _ _ _ _ _ _ (0, [some (.int a0), some (.int a1)], [], M0)
  refine w_lo dX8_letterOf_0 rfl rfl rfl rfl ?_
  refine w_ic dX8_letterOf_1 zi_5 ?_
  refine w_lo dX8_letterOf_2 rfl rfl rfl rfl ?_
  refine w_mulc dX8_letterOf_3 zt_5 (by have := zt_5; omega) ?_
  intro x1 h2
  have := zt_5
  refine w_puI dX8_letterOf_4 rfl rfl ?_
  intro x3
  refine w_bi dX8_letterOf_5 (c := 31) (by decide) ?_
  refine w_and dX8_letterOf_7 (m := 31) zt_31 (by omega) ?_
  intro x4 h5 h6
  refine w_eni dX8_letterOf_8 rfl rfl ?_
  exact ⟨_, _, rfl, (by omega), (by omega), hJ0, trivial⟩
set_option maxRecDepth 100000 in
theorem k_2059 {X : List Int32} {d N : Nat} {M0 : zM} (a0 : Int32) (a1 : Int32) (a2 : Int32) (hN : N ≤ 600) (hB0 : zB N M0) : ZV X (d + 2) 2059 [.ref 0, .int a0, .int a1, .int a2] M0 (zRI N [] M0 (-1) (62) (fun _ _ => True)) := by
  have hJ0 : zJ N [] M0 M0 := zJ_refl hB0
  refine ZV.of (ini := false) rfl (Nat.le_of_ble_eq_true rfl) (by decide +kernel) ?_
  have main : ∀ n : Nat,
      (∀ (M : zM) (v38_1 : Int32) (v38_2 : Int32) (v38_3 : Int32), zJ N [] M0 M → ((-2147483648 : Int) ≤ v38_1.toInt) → (v38_1.toInt ≤ 2147483647) → ((-2147483648 : Int) ≤ v38_2.toInt) → (v38_2.toInt ≤ 2147483647) → ((0 : Int) ≤ v38_3.toInt) → (v38_3.toInt ≤ 5) → 1 < (n : Int) → ZW X (d + 1) 8 false (some .int) cX8_letter (zRI N [] M0 (-1) (62) (fun _ _ => True)) (38, [some (.ref 0), some (.int v38_1), some (.int v38_2), some (.int v38_3)], [], M)) := by
    intro n
    induction n with
    | zero =>
      exact (fun M v38_1 v38_2 v38_3 hJ v38_10 v38_11 v38_20 v38_21 v38_30 v38_31 hn => absurd hn (by omega))
    | succ n ih =>
      have ih38 := ih
      · intro M v38_1 v38_2 v38_3 hJ v38_10 v38_11 v38_20 v38_21 v38_30 v38_31 hn
        refine w_lo dX8_letter_38 rfl rfl rfl rfl ?_
        refine w_ic dX8_letter_39 zi_1 ?_
        rcases Int.decEq v38_1.toInt (1 : Int) with h1 | h1
        · skip
          refine w_cne_t dX8_letter_40 (t := 65) rfl (by have := zt_1; omega) ?_
          refine w_ic dX8_letter_65 zi_m1 ?_
          refine w_en dX8_letter_66 rfl ?_
          exact ⟨_, _, rfl, (by have := zt_m1; omega), (by have := zt_m1; omega), hJ, trivial⟩
        · skip
          refine w_cne_f dX8_letter_40 (t := 65) rfl (by have := zt_1; omega) ?_
          refine w_lo dX8_letter_43 rfl rfl rfl rfl ?_
          refine w_lo dX8_letter_44 rfl rfl rfl rfl ?_
          refine w_iv dX8_letter_45 rfl rfl (As := [.int v38_2]) rfl rfl hJ.1.1 zs_0 (Nat.le_of_ble_eq_true rfl) ?_
          refine ZV.of (ini := false) rfl (Nat.le_of_ble_eq_true rfl) (by decide +kernel) ?_
          show ZW _ _ _ _ _ _ _ (0, [some (.ref 0), some (.int v38_2)], [], M)
          refine w_lo dX8_isDream_0 rfl rfl rfl rfl ?_
          rcases zcut v38_2.toInt (0 : Int) with h2 | h2
          · skip
            refine w_ilt_t dX8_isDream_1 (t := 19) rfl (by omega) ?_
            refine w_ic dX8_isDream_19 zi_0 ?_
            refine w_en dX8_isDream_20 rfl ?_
            show ZW _ _ _ _ _ _ _ (48, [some (.ref 0), some (.int v38_1), some (.int v38_2), some (.int v38_3)], [.int 0], M)
            refine w_ieq_t dX8_letter_48 (t := 65) rfl (by have := zt_0; omega) ?_
            refine w_ic dX8_letter_65 zi_m1 ?_
            refine w_en dX8_letter_66 rfl ?_
            exact ⟨_, _, rfl, (by have := zt_m1; omega), (by have := zt_m1; omega), hJ, trivial⟩
          · skip
            refine w_ilt_f dX8_isDream_1 (t := 19) rfl (by omega) ?_
            refine w_lo dX8_isDream_4 rfl rfl rfl rfl ?_
            refine w_lo dX8_isDream_5 rfl rfl rfl rfl ?_
            obtain ⟨b3, f4, h5⟩ := zd_0_3 hJ.1
            have h6 := zDm_b h5
            refine w_gf dX8_isDream_6 rfl hJ.1.1 zs_0 f4 ?_
            refine w_gfi dX8_isDream_9 rfl hJ.1 (zs_1_0 h5) (Nat.le_of_ble_eq_true rfl) (zo_1_0_2 h5) ?_
            intro x7 f8 h9 h10
            rcases zcut v38_2.toInt x7.toInt with h11 | h11
            · skip
              refine w_cge_f dX8_isDream_12 (t := 19) rfl (by omega) ?_
              refine w_ic dX8_isDream_15 zi_1 ?_
              refine w_gt dX8_isDream_16 (t := 20) rfl ?_
              refine w_en dX8_isDream_20 rfl ?_
              show ZW _ _ _ _ _ _ _ (48, [some (.ref 0), some (.int v38_1), some (.int v38_2), some (.int v38_3)], [.int 1], M)
              refine w_ieq_f dX8_letter_48 (t := 65) rfl (by have := zt_1; omega) ?_
              refine w_lo dX8_letter_51 rfl rfl rfl rfl ?_
              refine w_gf dX8_letter_52 rfl hJ.1.1 zs_0 f4 ?_
              refine w_gf dX8_letter_55 rfl hJ.1.1 (zs_1_0 h5) (zr_1_0_9 h5 hJ.1) ?_
              refine w_lo dX8_letter_58 rfl rfl rfl rfl ?_
              refine w_iai dX8_letter_59 hJ.1 (zs_1_7 h5) (by omega) (by omega) (zu_1_7 h5) ?_
              intro x15 f12 h13 h14
              refine w_lo dX8_letter_60 rfl rfl rfl rfl ?_
              refine w_ss dX8_letter_61 rfl rfl (As := [.int x15, .int v38_3]) rfl rfl (Nat.le_of_ble_eq_true rfl) ?_
              refine ZV.imp (k_2061 x15 v38_3 (by omega) (by omega) hN hJ.1) ?_
              rintro _ ⟨x19, M16, rfl, h20, h21, hJ17, hq18⟩
              have hJ22 := zJ_trans hJ hJ17 zSub_nil
              show ZW _ _ _ _ _ _ _ (64, [some (.ref 0), some (.int v38_1), some (.int v38_2), some (.int v38_3)], [.int x19], M16)
              refine w_eni dX8_letter_64 rfl rfl ?_
              exact ⟨_, _, rfl, (by omega), (by omega), hJ22, trivial⟩
            · skip
              refine w_cge_t dX8_isDream_12 (t := 19) rfl (by omega) ?_
              refine w_ic dX8_isDream_19 zi_0 ?_
              refine w_en dX8_isDream_20 rfl ?_
              show ZW _ _ _ _ _ _ _ (48, [some (.ref 0), some (.int v38_1), some (.int v38_2), some (.int v38_3)], [.int 0], M)
              refine w_ieq_t dX8_letter_48 (t := 65) rfl (by have := zt_0; omega) ?_
              refine w_ic dX8_letter_65 zi_m1 ?_
              refine w_en dX8_letter_66 rfl ?_
              exact ⟨_, _, rfl, (by have := zt_m1; omega), (by have := zt_m1; omega), hJ, trivial⟩
  have ih38 := main 6
  show ZW _ _ _ _ _ _ _ (0, [some (.ref 0), some (.int a0), some (.int a1), some (.int a2)], [], M0)
  refine w_lo dX8_letter_0 rfl rfl rfl rfl ?_
  rcases zcut a2.toInt (0 : Int) with h23 | h23
  · skip
    refine w_ilt_t dX8_letter_1 (t := 10) rfl (by omega) ?_
    refine w_ic dX8_letter_10 zi_m1 ?_
    refine w_en dX8_letter_11 rfl ?_
    exact ⟨_, _, rfl, (by have := zt_m1; omega), (by have := zt_m1; omega), hJ0, trivial⟩
  · skip
    refine w_ilt_f dX8_letter_1 (t := 10) rfl (by omega) ?_
    refine w_lo dX8_letter_4 rfl rfl rfl rfl ?_
    refine w_bi dX8_letter_5 (c := 6) (by decide) ?_
    rcases zcut a2.toInt (6 : Int) with h24 | h24
    · skip
      refine w_clt_t dX8_letter_7 (t := 12) rfl (by have := zt_6; omega) ?_
      refine w_lo dX8_letter_12 rfl rfl rfl rfl ?_
      rcases Int.decEq a0.toInt (0 : Int) with h25 | h25
      · skip
        refine w_ine_t dX8_letter_13 (t := 38) rfl (by omega) ?_
        exact ih38 M0 a0 a1 a2 hJ0 (zbot _) (ztop _) (zbot _) (ztop _) (by omega) (by omega) (by omega)
      · skip
        refine w_ine_f dX8_letter_13 (t := 38) rfl (by omega) ?_
        refine w_lo dX8_letter_16 rfl rfl rfl rfl ?_
        refine w_lo dX8_letter_17 rfl rfl rfl rfl ?_
        refine w_iv dX8_letter_18 rfl rfl (As := [.int a1]) rfl rfl hJ0.1.1 zs_0 (Nat.le_of_ble_eq_true rfl) ?_
        refine ZV.of (ini := false) rfl (Nat.le_of_ble_eq_true rfl) (by decide +kernel) ?_
        show ZW _ _ _ _ _ _ _ (0, [some (.ref 0), some (.int a1)], [], M0)
        refine w_lo dX8_isBoy_0 rfl rfl rfl rfl ?_
        rcases zcut a1.toInt (0 : Int) with h26 | h26
        · skip
          refine w_ilt_t dX8_isBoy_1 (t := 19) rfl (by omega) ?_
          refine w_ic dX8_isBoy_19 zi_0 ?_
          refine w_en dX8_isBoy_20 rfl ?_
          show ZW _ _ _ _ _ _ _ (21, [some (.ref 0), some (.int a0), some (.int a1), some (.int a2)], [.int 0], M0)
          refine w_ieq_t dX8_letter_21 (t := 38) rfl (by have := zt_0; omega) ?_
          exact ih38 M0 a0 a1 a2 hJ0 (zbot _) (ztop _) (zbot _) (ztop _) (by omega) (by omega) (by omega)
        · skip
          refine w_ilt_f dX8_isBoy_1 (t := 19) rfl (by omega) ?_
          refine w_lo dX8_isBoy_4 rfl rfl rfl rfl ?_
          refine w_lo dX8_isBoy_5 rfl rfl rfl rfl ?_
          obtain ⟨b27, f28, h29⟩ := zd_0_3 hJ0.1
          have h30 := zDm_b h29
          refine w_gf dX8_isBoy_6 rfl hJ0.1.1 zs_0 f28 ?_
          refine w_gfi dX8_isBoy_9 rfl hJ0.1 (zs_1_0 h29) (Nat.le_of_ble_eq_true rfl) (zo_1_0_1 h29) ?_
          intro x31 f32 h33 h34
          rcases zcut a1.toInt x31.toInt with h35 | h35
          · skip
            refine w_cge_f dX8_isBoy_12 (t := 19) rfl (by omega) ?_
            refine w_ic dX8_isBoy_15 zi_1 ?_
            refine w_gt dX8_isBoy_16 (t := 20) rfl ?_
            refine w_en dX8_isBoy_20 rfl ?_
            show ZW _ _ _ _ _ _ _ (21, [some (.ref 0), some (.int a0), some (.int a1), some (.int a2)], [.int 1], M0)
            refine w_ieq_f dX8_letter_21 (t := 38) rfl (by have := zt_1; omega) ?_
            refine w_lo dX8_letter_24 rfl rfl rfl rfl ?_
            refine w_gf dX8_letter_25 rfl hJ0.1.1 zs_0 f28 ?_
            refine w_gf dX8_letter_28 rfl hJ0.1.1 (zs_1_0 h29) (zr_1_0_3 h29 hJ0.1) ?_
            refine w_lo dX8_letter_31 rfl rfl rfl rfl ?_
            refine w_iai dX8_letter_32 hJ0.1 (zs_1_1 h29) (by omega) (by omega) (zu_1_1 h29) ?_
            intro x39 f36 h37 h38
            refine w_lo dX8_letter_33 rfl rfl rfl rfl ?_
            refine w_ss dX8_letter_34 rfl rfl (As := [.int x39, .int a2]) rfl rfl (Nat.le_of_ble_eq_true rfl) ?_
            refine ZV.imp (k_2061 x39 a2 (by omega) (by omega) hN hJ0.1) ?_
            rintro _ ⟨x43, M40, rfl, h44, h45, hJ41, hq42⟩
            have hJ46 := zJ_trans hJ0 hJ41 zSub_nil
            show ZW _ _ _ _ _ _ _ (37, [some (.ref 0), some (.int a0), some (.int a1), some (.int a2)], [.int x43], M40)
            refine w_eni dX8_letter_37 rfl rfl ?_
            exact ⟨_, _, rfl, (by omega), (by omega), hJ46, trivial⟩
          · skip
            refine w_cge_t dX8_isBoy_12 (t := 19) rfl (by omega) ?_
            refine w_ic dX8_isBoy_19 zi_0 ?_
            refine w_en dX8_isBoy_20 rfl ?_
            show ZW _ _ _ _ _ _ _ (21, [some (.ref 0), some (.int a0), some (.int a1), some (.int a2)], [.int 0], M0)
            refine w_ieq_t dX8_letter_21 (t := 38) rfl (by have := zt_0; omega) ?_
            exact ih38 M0 a0 a1 a2 hJ0 (zbot _) (ztop _) (zbot _) (ztop _) (by omega) (by omega) (by omega)
    · skip
      refine w_clt_f dX8_letter_7 (t := 12) rfl (by have := zt_6; omega) ?_
      refine w_ic dX8_letter_10 zi_m1 ?_
      refine w_en dX8_letter_11 rfl ?_
      exact ⟨_, _, rfl, (by have := zt_m1; omega), (by have := zt_m1; omega), hJ0, trivial⟩
set_option maxRecDepth 100000 in
theorem k_2063 {X : List Int32} {d N : Nat} {M0 : zM} (a0 : Int32) (a1 : Int32) (hN : N ≤ 600) (hB0 : zB N M0) : ZV X (d + 2) 2063 [.ref 0, .int a0, .int a1] M0 (zRI N [] M0 (-2147483648) (2147483647) (fun _ _ => True)) := by
  have hJ0 : zJ N [] M0 M0 := zJ_refl hB0
  refine ZV.of (ini := false) rfl (Nat.le_of_ble_eq_true rfl) (by decide +kernel) ?_
  show ZW _ _ _ _ _ _ _ (0, [some (.ref 0), some (.int a0), some (.int a1)], [], M0)
  refine w_lo dX8_boy_0 rfl rfl rfl rfl ?_
  refine w_lo dX8_boy_1 rfl rfl rfl rfl ?_
  refine w_iv dX8_boy_2 rfl rfl (As := [.int a0]) rfl rfl hJ0.1.1 zs_0 (Nat.le_of_ble_eq_true rfl) ?_
  refine ZV.of (ini := false) rfl (Nat.le_of_ble_eq_true rfl) (by decide +kernel) ?_
  show ZW _ _ _ _ _ _ _ (0, [some (.ref 0), some (.int a0)], [], M0)
  refine w_lo dX8_isBoy_0 rfl rfl rfl rfl ?_
  rcases zcut a0.toInt (0 : Int) with h1 | h1
  · skip
    refine w_ilt_t dX8_isBoy_1 (t := 19) rfl (by omega) ?_
    refine w_ic dX8_isBoy_19 zi_0 ?_
    refine w_en dX8_isBoy_20 rfl ?_
    show ZW _ _ _ _ _ _ _ (5, [some (.ref 0), some (.int a0), some (.int a1)], [.int 0], M0)
    refine w_ine_f dX8_boy_5 (t := 10) rfl (by have := zt_0; omega) ?_
    refine w_ic dX8_boy_8 zi_m1 ?_
    refine w_en dX8_boy_9 rfl ?_
    exact ⟨_, _, rfl, (zbot _), (ztop _), hJ0, trivial⟩
  · skip
    refine w_ilt_f dX8_isBoy_1 (t := 19) rfl (by omega) ?_
    refine w_lo dX8_isBoy_4 rfl rfl rfl rfl ?_
    refine w_lo dX8_isBoy_5 rfl rfl rfl rfl ?_
    obtain ⟨b2, f3, h4⟩ := zd_0_3 hJ0.1
    have h5 := zDm_b h4
    refine w_gf dX8_isBoy_6 rfl hJ0.1.1 zs_0 f3 ?_
    refine w_gfi dX8_isBoy_9 rfl hJ0.1 (zs_1_0 h4) (Nat.le_of_ble_eq_true rfl) (zo_1_0_1 h4) ?_
    intro x6 f7 h8 h9
    rcases zcut a0.toInt x6.toInt with h10 | h10
    · skip
      refine w_cge_f dX8_isBoy_12 (t := 19) rfl (by omega) ?_
      refine w_ic dX8_isBoy_15 zi_1 ?_
      refine w_gt dX8_isBoy_16 (t := 20) rfl ?_
      refine w_en dX8_isBoy_20 rfl ?_
      show ZW _ _ _ _ _ _ _ (5, [some (.ref 0), some (.int a0), some (.int a1)], [.int 1], M0)
      refine w_ine_t dX8_boy_5 (t := 10) rfl (by have := zt_1; omega) ?_
      refine w_lo dX8_boy_10 rfl rfl rfl rfl ?_
      rcases Int.decEq a1.toInt (0 : Int) with h11 | h11
      rotate_left
      · skip
        refine w_ts dX8_boy_11 (t := 76) (j := 0) h11 (by decide) ?_
        refine w_lo dX8_boy_76 rfl rfl rfl rfl ?_
        refine w_gf dX8_boy_77 rfl hJ0.1.1 zs_0 f3 ?_
        refine w_gf dX8_boy_80 rfl hJ0.1.1 (zs_1_0 h4) (zr_1_0_4 h4 hJ0.1) ?_
        refine w_lo dX8_boy_83 rfl rfl rfl rfl ?_
        refine w_iai dX8_boy_84 hJ0.1 (zs_1_2 h4) (by omega) (by omega) (zu_1_2 h4) ?_
        intro x15 f12 h13 h14
        refine w_eni dX8_boy_85 rfl rfl ?_
        exact ⟨_, _, rfl, (zbot _), (ztop _), hJ0, trivial⟩
      rcases Int.decEq a1.toInt (1 : Int) with h16 | h16
      rotate_left
      · skip
        refine w_ts dX8_boy_11 (t := 86) (j := 1) h16 (by decide) ?_
        refine w_lo dX8_boy_86 rfl rfl rfl rfl ?_
        refine w_gf dX8_boy_87 rfl hJ0.1.1 zs_0 f3 ?_
        refine w_gf dX8_boy_90 rfl hJ0.1.1 (zs_1_0 h4) (zr_1_0_5 h4 hJ0.1) ?_
        refine w_lo dX8_boy_93 rfl rfl rfl rfl ?_
        refine w_iai dX8_boy_94 hJ0.1 (zs_1_3 h4) (by omega) (by omega) (zu_1_3 h4) ?_
        intro x20 f17 h18 h19
        refine w_eni dX8_boy_95 rfl rfl ?_
        exact ⟨_, _, rfl, (zbot _), (ztop _), hJ0, trivial⟩
      rcases Int.decEq a1.toInt (2 : Int) with h21 | h21
      rotate_left
      · skip
        refine w_ts dX8_boy_11 (t := 96) (j := 2) h21 (by decide) ?_
        refine w_lo dX8_boy_96 rfl rfl rfl rfl ?_
        refine w_gf dX8_boy_97 rfl hJ0.1.1 zs_0 f3 ?_
        refine w_gf dX8_boy_100 rfl hJ0.1.1 (zs_1_0 h4) (zr_1_0_6 h4 hJ0.1) ?_
        refine w_lo dX8_boy_103 rfl rfl rfl rfl ?_
        refine w_iai dX8_boy_104 hJ0.1 (zs_1_4 h4) (by omega) (by omega) (zu_1_4 h4) ?_
        intro x25 f22 h23 h24
        refine w_eni dX8_boy_105 rfl rfl ?_
        exact ⟨_, _, rfl, (zbot _), (ztop _), hJ0, trivial⟩
      rcases Int.decEq a1.toInt (3 : Int) with h26 | h26
      rotate_left
      · skip
        refine w_ts dX8_boy_11 (t := 106) (j := 3) h26 (by decide) ?_
        refine w_lo dX8_boy_106 rfl rfl rfl rfl ?_
        refine w_gf dX8_boy_107 rfl hJ0.1.1 zs_0 f3 ?_
        refine w_gf dX8_boy_110 rfl hJ0.1.1 (zs_1_0 h4) (zr_1_0_7 h4 hJ0.1) ?_
        refine w_lo dX8_boy_113 rfl rfl rfl rfl ?_
        refine w_iai dX8_boy_114 hJ0.1 (zs_1_5 h4) (by omega) (by omega) (zu_1_5 h4) ?_
        intro x30 f27 h28 h29
        refine w_eni dX8_boy_115 rfl rfl ?_
        exact ⟨_, _, rfl, (zbot _), (ztop _), hJ0, trivial⟩
      rcases Int.decEq a1.toInt (4 : Int) with h31 | h31
      rotate_left
      · skip
        refine w_ts dX8_boy_11 (t := 116) (j := 4) h31 (by decide) ?_
        refine w_lo dX8_boy_116 rfl rfl rfl rfl ?_
        refine w_gf dX8_boy_117 rfl hJ0.1.1 zs_0 f3 ?_
        refine w_gf dX8_boy_120 rfl hJ0.1.1 (zs_1_0 h4) (zr_1_0_8 h4 hJ0.1) ?_
        refine w_lo dX8_boy_123 rfl rfl rfl rfl ?_
        refine w_iai dX8_boy_124 hJ0.1 (zs_1_6 h4) (by omega) (by omega) (zu_1_6 h4) ?_
        intro x35 f32 h33 h34
        refine w_eni dX8_boy_125 rfl rfl ?_
        exact ⟨_, _, rfl, (zbot _), (ztop _), hJ0, trivial⟩
      rcases Int.decEq a1.toInt (5 : Int) with h36 | h36
      rotate_left
      · skip
        refine w_ts dX8_boy_11 (t := 126) (j := 5) h36 (by decide) ?_
        refine w_lo dX8_boy_126 rfl rfl rfl rfl ?_
        refine w_gf dX8_boy_127 rfl hJ0.1.1 zs_0 (zr_0_4 hJ0.1) ?_
        refine w_lo dX8_boy_130 rfl rfl rfl rfl ?_
        refine w_iv dX8_boy_131 rfl rfl (As := [.int a0]) rfl rfl hJ0.1.1 zs_49 (Nat.le_of_ble_eq_true rfl) ?_
        refine ZV.imp (k_1540 49 hb_6_49 a0 (by omega) (by omega) hN hJ0.1) ?_
        rintro _ ⟨x40, M37, rfl, h41, h42, hJ38, hq39⟩
        have hJ43 := zJ_trans hJ0 hJ38 zSub_nil
        show ZW _ _ _ _ _ _ _ (134, [some (.ref 0), some (.int a0), some (.int a1)], [.int x40], M37)
        refine w_eni dX8_boy_134 rfl rfl ?_
        exact ⟨_, _, rfl, (zbot _), (ztop _), hJ43, trivial⟩
      rcases Int.decEq a1.toInt (6 : Int) with h44 | h44
      rotate_left
      · skip
        refine w_ts dX8_boy_11 (t := 135) (j := 6) h44 (by decide) ?_
        refine w_lo dX8_boy_135 rfl rfl rfl rfl ?_
        refine w_gf dX8_boy_136 rfl hJ0.1.1 zs_0 (zr_0_4 hJ0.1) ?_
        refine w_gf dX8_boy_139 rfl hJ0.1.1 zs_49 (zr_49_3 hJ0.1) ?_
        refine w_lo dX8_boy_142 rfl rfl rfl rfl ?_
        refine w_bai dX8_boy_143 hJ0.1 zs_51 (by omega) (by omega) zu_51 ?_
        intro x48 f45 h46 h47
        rcases Int.decEq x48.toInt (0 : Int) with h49 | h49
        · skip
          refine w_ieq_f dX8_boy_144 (t := 151) rfl (by omega) ?_
          refine w_ic dX8_boy_147 zi_1 ?_
          refine w_gt dX8_boy_148 (t := 152) rfl ?_
          refine w_en dX8_boy_152 rfl ?_
          exact ⟨_, _, rfl, (zbot _), (ztop _), hJ0, trivial⟩
        · skip
          refine w_ieq_t dX8_boy_144 (t := 151) rfl (by omega) ?_
          refine w_ic dX8_boy_151 zi_0 ?_
          refine w_en dX8_boy_152 rfl ?_
          exact ⟨_, _, rfl, (zbot _), (ztop _), hJ0, trivial⟩
      rcases Int.decEq a1.toInt (7 : Int) with h50 | h50
      rotate_left
      · skip
        refine w_ts dX8_boy_11 (t := 153) (j := 7) h50 (by decide) ?_
        refine w_lo dX8_boy_153 rfl rfl rfl rfl ?_
        refine w_gf dX8_boy_154 rfl hJ0.1.1 zs_0 (zr_0_4 hJ0.1) ?_
        refine w_gf dX8_boy_157 rfl hJ0.1.1 zs_49 (zr_49_4 hJ0.1) ?_
        refine w_lo dX8_boy_160 rfl rfl rfl rfl ?_
        refine w_iai dX8_boy_161 hJ0.1 zs_52 (by omega) (by omega) zu_52 ?_
        intro x54 f51 h52 h53
        refine w_eni dX8_boy_162 rfl rfl ?_
        exact ⟨_, _, rfl, (zbot _), (ztop _), hJ0, trivial⟩
      rcases Int.decEq a1.toInt (8 : Int) with h55 | h55
      rotate_left
      · skip
        refine w_ts dX8_boy_11 (t := 163) (j := 8) h55 (by decide) ?_
        refine w_lo dX8_boy_163 rfl rfl rfl rfl ?_
        refine w_gf dX8_boy_164 rfl hJ0.1.1 zs_0 (zr_0_4 hJ0.1) ?_
        refine w_gf dX8_boy_167 rfl hJ0.1.1 zs_49 (zr_49_5 hJ0.1) ?_
        refine w_lo dX8_boy_170 rfl rfl rfl rfl ?_
        refine w_iai dX8_boy_171 hJ0.1 zs_53 (by omega) (by omega) zu_53 ?_
        intro x59 f56 h57 h58
        refine w_eni dX8_boy_172 rfl rfl ?_
        exact ⟨_, _, rfl, (zbot _), (ztop _), hJ0, trivial⟩
      rcases Int.decEq a1.toInt (9 : Int) with h60 | h60
      rotate_left
      · skip
        refine w_ts dX8_boy_11 (t := 173) (j := 9) h60 (by decide) ?_
        refine w_lo dX8_boy_173 rfl rfl rfl rfl ?_
        refine w_gf dX8_boy_174 rfl hJ0.1.1 zs_0 (zr_0_4 hJ0.1) ?_
        refine w_gf dX8_boy_177 rfl hJ0.1.1 zs_49 (zr_49_6 hJ0.1) ?_
        refine w_lo dX8_boy_180 rfl rfl rfl rfl ?_
        refine w_iai dX8_boy_181 hJ0.1 zs_54 (by omega) (by omega) zu_54 ?_
        intro x64 f61 h62 h63
        refine w_eni dX8_boy_182 rfl rfl ?_
        exact ⟨_, _, rfl, (zbot _), (ztop _), hJ0, trivial⟩
      rcases Int.decEq a1.toInt (10 : Int) with h65 | h65
      rotate_left
      · skip
        refine w_ts dX8_boy_11 (t := 183) (j := 10) h65 (by decide) ?_
        refine w_lo dX8_boy_183 rfl rfl rfl rfl ?_
        refine w_gf dX8_boy_184 rfl hJ0.1.1 zs_0 (zr_0_4 hJ0.1) ?_
        refine w_gf dX8_boy_187 rfl hJ0.1.1 zs_49 (zr_49_9 hJ0.1) ?_
        refine w_lo dX8_boy_190 rfl rfl rfl rfl ?_
        refine w_iai dX8_boy_191 hJ0.1 zs_57 (by omega) (by omega) zu_57 ?_
        intro x69 f66 h67 h68
        refine w_eni dX8_boy_192 rfl rfl ?_
        exact ⟨_, _, rfl, (zbot _), (ztop _), hJ0, trivial⟩
      rcases Int.decEq a1.toInt (11 : Int) with h70 | h70
      rotate_left
      · skip
        refine w_ts dX8_boy_11 (t := 193) (j := 11) h70 (by decide) ?_
        refine w_lo dX8_boy_193 rfl rfl rfl rfl ?_
        refine w_gf dX8_boy_194 rfl hJ0.1.1 zs_0 (zr_0_4 hJ0.1) ?_
        refine w_gf dX8_boy_197 rfl hJ0.1.1 zs_49 (zr_49_10 hJ0.1) ?_
        refine w_lo dX8_boy_200 rfl rfl rfl rfl ?_
        refine w_iai dX8_boy_201 hJ0.1 zs_58 (by omega) (by omega) zu_58 ?_
        intro x74 f71 h72 h73
        refine w_eni dX8_boy_202 rfl rfl ?_
        exact ⟨_, _, rfl, (zbot _), (ztop _), hJ0, trivial⟩
      rcases Int.decEq a1.toInt (12 : Int) with h75 | h75
      rotate_left
      · skip
        refine w_ts dX8_boy_11 (t := 203) (j := 12) h75 (by decide) ?_
        refine w_lo dX8_boy_203 rfl rfl rfl rfl ?_
        refine w_gf dX8_boy_204 rfl hJ0.1.1 zs_0 (zr_0_4 hJ0.1) ?_
        refine w_gf dX8_boy_207 rfl hJ0.1.1 zs_49 (zr_49_11 hJ0.1) ?_
        refine w_lo dX8_boy_210 rfl rfl rfl rfl ?_
        refine w_iai dX8_boy_211 hJ0.1 zs_59 (by omega) (by omega) zu_59 ?_
        intro x79 f76 h77 h78
        refine w_eni dX8_boy_212 rfl rfl ?_
        exact ⟨_, _, rfl, (zbot _), (ztop _), hJ0, trivial⟩
      refine w_td dX8_boy_11 (t := 213) (by omega) rfl ?_
      refine w_ic dX8_boy_213 zi_m1 ?_
      refine w_en dX8_boy_214 rfl ?_
      exact ⟨_, _, rfl, (zbot _), (ztop _), hJ0, trivial⟩
    · skip
      refine w_cge_t dX8_isBoy_12 (t := 19) rfl (by omega) ?_
      refine w_ic dX8_isBoy_19 zi_0 ?_
      refine w_en dX8_isBoy_20 rfl ?_
      show ZW _ _ _ _ _ _ _ (5, [some (.ref 0), some (.int a0), some (.int a1)], [.int 0], M0)
      refine w_ine_f dX8_boy_5 (t := 10) rfl (by have := zt_0; omega) ?_
      refine w_ic dX8_boy_8 zi_m1 ?_
      refine w_en dX8_boy_9 rfl ?_
      exact ⟨_, _, rfl, (zbot _), (ztop _), hJ0, trivial⟩
set_option maxRecDepth 100000 in
theorem k_2064 {X : List Int32} {d N : Nat} {M0 : zM} (a0 : Int32) (hN : N ≤ 600) (hB0 : zB N M0) : ZV X (d + 2) 2064 [.ref 0, .int a0] M0 (zRI N [] M0 (-1) (11) (fun _ _ => True)) := by
  have hJ0 : zJ N [] M0 M0 := zJ_refl hB0
  refine ZV.of (ini := false) rfl (Nat.le_of_ble_eq_true rfl) (by decide +kernel) ?_
  show ZW _ _ _ _ _ _ _ (0, [some (.ref 0), some (.int a0)], [], M0)
  refine w_lo dX8_at_0 rfl rfl rfl rfl ?_
  refine w_lo dX8_at_1 rfl rfl rfl rfl ?_
  refine w_iv dX8_at_2 rfl rfl (As := [.int a0]) rfl rfl hJ0.1.1 zs_0 (Nat.le_of_ble_eq_true rfl) ?_
  refine ZV.of (ini := false) rfl (Nat.le_of_ble_eq_true rfl) (by decide +kernel) ?_
  show ZW _ _ _ _ _ _ _ (0, [some (.ref 0), some (.int a0)], [], M0)
  refine w_lo dX8_isPlace_0 rfl rfl rfl rfl ?_
  rcases zcut a0.toInt (0 : Int) with h1 | h1
  · skip
    refine w_ilt_t dX8_isPlace_1 (t := 19) rfl (by omega) ?_
    refine w_ic dX8_isPlace_19 zi_0 ?_
    refine w_en dX8_isPlace_20 rfl ?_
    show ZW _ _ _ _ _ _ _ (5, [some (.ref 0), some (.int a0)], [.int 0], M0)
    refine w_ieq_t dX8_at_5 (t := 20) rfl (by have := zt_0; omega) ?_
    refine w_ic dX8_at_20 zi_m1 ?_
    refine w_en dX8_at_21 rfl ?_
    exact ⟨_, _, rfl, (by have := zt_m1; omega), (by have := zt_m1; omega), hJ0, trivial⟩
  · skip
    refine w_ilt_f dX8_isPlace_1 (t := 19) rfl (by omega) ?_
    refine w_lo dX8_isPlace_4 rfl rfl rfl rfl ?_
    refine w_lo dX8_isPlace_5 rfl rfl rfl rfl ?_
    refine w_gf dX8_isPlace_6 rfl hJ0.1.1 zs_0 (zr_0_4 hJ0.1) ?_
    refine w_gfi dX8_isPlace_9 rfl hJ0.1 zs_49 (Nat.le_of_ble_eq_true rfl) zo_49_0 ?_
    intro x2 f3 h4 h5
    rcases zcut a0.toInt x2.toInt with h6 | h6
    · skip
      refine w_cge_f dX8_isPlace_12 (t := 19) rfl (by omega) ?_
      refine w_ic dX8_isPlace_15 zi_1 ?_
      refine w_gt dX8_isPlace_16 (t := 20) rfl ?_
      refine w_en dX8_isPlace_20 rfl ?_
      show ZW _ _ _ _ _ _ _ (5, [some (.ref 0), some (.int a0)], [.int 1], M0)
      refine w_ieq_f dX8_at_5 (t := 20) rfl (by have := zt_1; omega) ?_
      refine w_lo dX8_at_8 rfl rfl rfl rfl ?_
      refine w_gf dX8_at_9 rfl hJ0.1.1 zs_0 (zr_0_4 hJ0.1) ?_
      refine w_gf dX8_at_12 rfl hJ0.1.1 zs_49 (zr_49_2 hJ0.1) ?_
      refine w_lo dX8_at_15 rfl rfl rfl rfl ?_
      refine w_iai dX8_at_16 hJ0.1 zs_50 (by omega) (by omega) zu_50 ?_
      intro x10 f7 h8 h9
      refine w_gt dX8_at_17 (t := 21) rfl ?_
      refine w_eni dX8_at_21 rfl rfl ?_
      exact ⟨_, _, rfl, (by omega), (by omega), hJ0, trivial⟩
    · skip
      refine w_cge_t dX8_isPlace_12 (t := 19) rfl (by omega) ?_
      refine w_ic dX8_isPlace_19 zi_0 ?_
      refine w_en dX8_isPlace_20 rfl ?_
      show ZW _ _ _ _ _ _ _ (5, [some (.ref 0), some (.int a0)], [.int 0], M0)
      refine w_ieq_t dX8_at_5 (t := 20) rfl (by have := zt_0; omega) ?_
      refine w_ic dX8_at_20 zi_m1 ?_
      refine w_en dX8_at_21 rfl ?_
      exact ⟨_, _, rfl, (by have := zt_m1; omega), (by have := zt_m1; omega), hJ0, trivial⟩
set_option maxRecDepth 100000 in
theorem k_2068 {X : List Int32} {d N : Nat} {M0 : zM} (a0 : Int32) (ha00 : (0 : Int) ≤ a0.toInt) (ha01 : a0.toInt ≤ 10) (hN : N ≤ 600) (hB0 : zB N M0) : ZV X (d + 1) 2068 [.ref 0, .int a0] M0 (zRI N [] M0 (-2147483648) (2147483647) (fun _ _ => True)) := by
  have hJ0 : zJ N [] M0 M0 := zJ_refl hB0
  refine ZV.of (ini := false) rfl (Nat.le_of_ble_eq_true rfl) (by decide +kernel) ?_
  have main : ∀ n : Nat,
      (∀ (M : zM) (v15_1 : Int32) (v15_2 : Int32) (v15_3 : Int32) (v15_4 : Int32) (o15_5 : Option Value) (o15_6 : Option Value), zJ N [] M0 M → ((0 : Int) ≤ v15_1.toInt) → (v15_1.toInt ≤ 10) → ((0 : Int) ≤ v15_2.toInt) → (v15_2.toInt ≤ 2147483647) → ((-2147483648 : Int) ≤ v15_3.toInt) → (v15_3.toInt ≤ 2147483647) → ((-2 : Int) ≤ v15_4.toInt) → (v15_4.toInt ≤ 10) → 4 * (v15_4.toInt - (-2)) + 2 < (n : Int) → ZW X (d + 0) 8 false (some .int) cX8_strain (zRI N [] M0 (-2147483648) (2147483647) (fun _ _ => True)) (15, [some (.ref 0), some (.int v15_1), some (.int v15_2), some (.int v15_3), some (.int v15_4), o15_5, o15_6], [], M)) ∧
      (∀ (M : zM) (v67_1 : Int32) (v67_2 : Int32) (u67_3 : Int32) (v67_4 : Int32) (u67_5 : Int32) (o67_6 : Option Value) (s67_0 : Int32), zJ N [] M0 M → ((0 : Int) ≤ v67_1.toInt) → (v67_1.toInt ≤ 10) → ((0 : Int) ≤ v67_2.toInt) → (v67_2.toInt ≤ 2147483647) → ((0 : Int) ≤ v67_4.toInt) → (v67_4.toInt ≤ 10) → ((-2147483648 : Int) ≤ s67_0.toInt) → (s67_0.toInt ≤ 2147483647) → 4 * (v67_4.toInt - (-2)) + 1 < (n : Int) → ZW X (d + 0) 8 false (some .int) cX8_strain (zRI N [] M0 (-2147483648) (2147483647) (fun _ _ => True)) (67, [some (.ref 0), some (.int v67_1), some (.int v67_2), some (.int u67_3), some (.int v67_4), some (.int u67_5), o67_6], [.int s67_0], M)) := by
    intro n
    induction n with
    | zero =>
      exact ⟨(fun M v15_1 v15_2 v15_3 v15_4 o15_5 o15_6 hJ v15_10 v15_11 v15_20 v15_21 v15_30 v15_31 v15_40 v15_41 hn => absurd hn (by omega)), (fun M v67_1 v67_2 u67_3 v67_4 u67_5 o67_6 s67_0 hJ v67_10 v67_11 v67_20 v67_21 v67_40 v67_41 s67_00 s67_01 hn => absurd hn (by omega))⟩
    | succ n ih =>
      obtain ⟨ih15, ih67⟩ := ih
      refine ⟨?_, ?_⟩
      · intro M v15_1 v15_2 v15_3 v15_4 o15_5 o15_6 hJ v15_10 v15_11 v15_20 v15_21 v15_30 v15_31 v15_40 v15_41 hn
        refine w_lo dX8_strain_15 rfl rfl rfl rfl ?_
        refine w_lo dX8_strain_17 rfl rfl rfl rfl ?_
        rcases zcut v15_4.toInt v15_1.toInt with h1 | h1
        · skip
          refine w_clt_t dX8_strain_18 (t := 114) rfl (by omega) ?_
          refine w_lo dX8_strain_114 rfl rfl rfl rfl ?_
          refine w_eni dX8_strain_115 rfl rfl ?_
          exact ⟨_, _, rfl, (zbot _), (ztop _), hJ, trivial⟩
        · skip
          refine w_clt_f dX8_strain_18 (t := 114) rfl (by omega) ?_
          refine w_lo dX8_strain_21 rfl rfl rfl rfl ?_
          refine w_ilt_f dX8_strain_23 (t := 114) rfl (by omega) ?_
          refine w_lo dX8_strain_26 rfl rfl rfl rfl ?_
          refine w_gf dX8_strain_27 rfl hJ.1.1 zs_0 (zr_0_4 hJ.1) ?_
          refine w_gf dX8_strain_30 rfl hJ.1.1 zs_49 (zr_49_2 hJ.1) ?_
          refine w_lo dX8_strain_33 rfl rfl rfl rfl ?_
          refine w_ic dX8_strain_35 zi_1 ?_
          refine w_add dX8_strain_36 (by have := zt_1; omega) ?_
          intro x2 h3
          have := zt_1
          refine w_iai dX8_strain_37 hJ.1 zs_50 (by omega) (by omega) zu_50 ?_
          intro x7 f4 h5 h6
          refine w_lo (ml' := [some (.ref 0), some (.int v15_1), some (.int v15_2), some (.int v15_3), some (.int v15_4), some (.int x7), o15_6]) dX8_strain_38 rfl rfl rfl rfl ?_
          refine w_lo dX8_strain_40 rfl rfl rfl rfl ?_
          refine w_gf dX8_strain_41 rfl hJ.1.1 zs_0 (zr_0_4 hJ.1) ?_
          refine w_gf dX8_strain_44 rfl hJ.1.1 zs_49 (zr_49_3 hJ.1) ?_
          refine w_lo dX8_strain_47 rfl rfl rfl rfl ?_
          refine w_bai dX8_strain_49 hJ.1 zs_51 (by omega) (by omega) zu_51 ?_
          intro x11 f8 h9 h10
          rcases Int.decEq x11.toInt (0 : Int) with h12 | h12
          · skip
            refine w_ieq_f dX8_strain_50 (t := 66) rfl (by omega) ?_
            refine w_lo dX8_strain_53 rfl rfl rfl rfl ?_
            obtain ⟨b13, f14, h15⟩ := zd_0_3 hJ.1
            have h16 := zDm_b h15
            refine w_gf dX8_strain_54 rfl hJ.1.1 zs_0 f14 ?_
            refine w_gf dX8_strain_57 rfl hJ.1.1 (zs_1_0 h15) (zr_1_0_7 h15 hJ.1) ?_
            refine w_lo dX8_strain_60 rfl rfl rfl rfl ?_
            refine w_iai dX8_strain_62 hJ.1 (zs_1_5 h15) (by omega) (by omega) (zu_1_5 h15) ?_
            intro x20 f17 h18 h19
            refine w_gt dX8_strain_63 (t := 67) rfl ?_
            exact ih67 M v15_1 v15_2 v15_3 v15_4 x7 o15_6 x20 hJ (by omega) (by omega) (by omega) (ztop _) (by omega) (by omega) (zbot _) (ztop _) (by omega)
          · skip
            refine w_ieq_t dX8_strain_50 (t := 66) rfl (by omega) ?_
            refine w_ic dX8_strain_66 zi_0 ?_
            exact ih67 M v15_1 v15_2 v15_3 v15_4 x7 o15_6 0 hJ (by omega) (by omega) (by omega) (ztop _) (by omega) (by omega) (zbot _) (ztop _) (by have := zt_0; omega)
      · intro M v67_1 v67_2 u67_3 v67_4 u67_5 o67_6 s67_0 hJ v67_10 v67_11 v67_20 v67_21 v67_40 v67_41 s67_00 s67_01 hn
        refine w_lo (ml' := [some (.ref 0), some (.int v67_1), some (.int v67_2), some (.int u67_3), some (.int v67_4), some (.int u67_5), some (.int s67_0)]) dX8_strain_67 rfl rfl rfl rfl ?_
        refine w_lo dX8_strain_69 rfl rfl rfl rfl ?_
        refine w_gf dX8_strain_70 rfl hJ.1.1 zs_0 (zr_0_4 hJ.1) ?_
        refine w_gf dX8_strain_73 rfl hJ.1.1 zs_49 (zr_49_12 hJ.1) ?_
        refine w_lo dX8_strain_76 rfl rfl rfl rfl ?_
        refine w_bai dX8_strain_78 hJ.1 zs_60 (by omega) (by omega) zu_60 ?_
        intro x24 f21 h22 h23
        rcases Int.decEq x24.toInt (0 : Int) with h25 | h25
        · skip
          refine w_ieq_f dX8_strain_79 (t := 89) rfl (by omega) ?_
          refine w_lo dX8_strain_82 rfl rfl rfl rfl ?_
          refine w_lo dX8_strain_84 rfl rfl rfl rfl ?_
          refine w_puI dX8_strain_85 rfl rfl ?_
          intro x26
          refine w_gt dX8_strain_86 (t := 90) rfl ?_
          refine w_lo (ml' := [some (.ref 0), some (.int v67_1), some (.int v67_2), some (.int x26), some (.int v67_4), some (.int u67_5), some (.int s67_0)]) dX8_strain_90 rfl rfl rfl rfl ?_
          refine w_ic dX8_strain_91 zi_0 ?_
          refine w_lo dX8_strain_92 rfl rfl rfl rfl ?_
          refine w_lo dX8_strain_93 rfl rfl rfl rfl ?_
          refine w_gf dX8_strain_94 rfl hJ.1.1 zs_0 (zr_0_4 hJ.1) ?_
          refine w_gf dX8_strain_97 rfl hJ.1.1 zs_49 (zr_49_13 hJ.1) ?_
          refine w_lo dX8_strain_100 rfl rfl rfl rfl ?_
          refine w_iai dX8_strain_102 hJ.1 zs_61 (by omega) (by omega) zu_61 ?_
          intro x30 f27 h28 h29
          refine w_puI dX8_strain_103 rfl rfl ?_
          intro x31
          refine w_mxI dX8_strain_104 rfl (Nat.le_of_ble_eq_true rfl) ?_
          intro x32 h33 h34 h35
          have := zt_0
          show ZW _ _ _ _ _ _ _ (107, [some (.ref 0), some (.int v67_1), some (.int v67_2), some (.int x26), some (.int v67_4), some (.int u67_5), some (.int s67_0)], [.int x32], M)
          refine w_lo (ml' := [some (.ref 0), some (.int v67_1), some (.int x32), some (.int x26), some (.int v67_4), some (.int u67_5), some (.int s67_0)]) dX8_strain_107 rfl rfl rfl rfl ?_
          refine w_inc (kk := 4) dX8_strain_108 rfl (m := -1) (by decide) (by omega) ?_
          intro x36 h37
          refine ⟨_, rfl, ?_⟩
          show ZW _ _ _ _ _ _ _ (111, [some (.ref 0), some (.int v67_1), some (.int x32), some (.int x26), some (.int x36), some (.int u67_5), some (.int s67_0)], [], M)
          refine w_gt dX8_strain_111 (t := 15) rfl ?_
          exact ih15 M v67_1 x32 x26 x36 (some (.int u67_5)) (some (.int s67_0)) hJ (by omega) (by omega) (by omega) (ztop _) (zbot _) (ztop _) (by omega) (by omega) (by omega)
        · skip
          refine w_ieq_t dX8_strain_79 (t := 89) rfl (by omega) ?_
          refine w_ic dX8_strain_89 zi_0 ?_
          refine w_lo (ml' := [some (.ref 0), some (.int v67_1), some (.int v67_2), some (.int 0), some (.int v67_4), some (.int u67_5), some (.int s67_0)]) dX8_strain_90 rfl rfl rfl rfl ?_
          refine w_ic dX8_strain_91 zi_0 ?_
          refine w_lo dX8_strain_92 rfl rfl rfl rfl ?_
          refine w_lo dX8_strain_93 rfl rfl rfl rfl ?_
          refine w_gf dX8_strain_94 rfl hJ.1.1 zs_0 (zr_0_4 hJ.1) ?_
          refine w_gf dX8_strain_97 rfl hJ.1.1 zs_49 (zr_49_13 hJ.1) ?_
          refine w_lo dX8_strain_100 rfl rfl rfl rfl ?_
          refine w_iai dX8_strain_102 hJ.1 zs_61 (by omega) (by omega) zu_61 ?_
          intro x41 f38 h39 h40
          refine w_sub dX8_strain_103 (by have := zt_0; omega) ?_
          intro x42 h43
          have := zt_0
          refine w_mxI dX8_strain_104 rfl (Nat.le_of_ble_eq_true rfl) ?_
          intro x44 h45 h46 h47
          have := zt_0
          show ZW _ _ _ _ _ _ _ (107, [some (.ref 0), some (.int v67_1), some (.int v67_2), some (.int 0), some (.int v67_4), some (.int u67_5), some (.int s67_0)], [.int x44], M)
          refine w_lo (ml' := [some (.ref 0), some (.int v67_1), some (.int x44), some (.int 0), some (.int v67_4), some (.int u67_5), some (.int s67_0)]) dX8_strain_107 rfl rfl rfl rfl ?_
          refine w_inc (kk := 4) dX8_strain_108 rfl (m := -1) (by decide) (by omega) ?_
          intro x48 h49
          refine ⟨_, rfl, ?_⟩
          show ZW _ _ _ _ _ _ _ (111, [some (.ref 0), some (.int v67_1), some (.int x44), some (.int 0), some (.int x48), some (.int u67_5), some (.int s67_0)], [], M)
          refine w_gt dX8_strain_111 (t := 15) rfl ?_
          exact ih15 M v67_1 x44 0 x48 (some (.int u67_5)) (some (.int s67_0)) hJ (by omega) (by omega) (by omega) (ztop _) (zbot _) (ztop _) (by omega) (by omega) (by have := zt_0; omega)
  obtain ⟨ih15, ih67⟩ := main 63
  show ZW _ _ _ _ _ _ _ (0, [some (.ref 0), some (.int a0), none, none, none, none, none], [], M0)
  refine w_ic dX8_strain_0 zi_0 ?_
  refine w_lo (ml' := [some (.ref 0), some (.int a0), some (.int 0), none, none, none, none]) dX8_strain_1 rfl rfl rfl rfl ?_
  refine w_ic dX8_strain_2 zi_0 ?_
  refine w_lo (ml' := [some (.ref 0), some (.int a0), some (.int 0), some (.int 0), none, none, none]) dX8_strain_3 rfl rfl rfl rfl ?_
  refine w_lo dX8_strain_4 rfl rfl rfl rfl ?_
  refine w_gf dX8_strain_5 rfl hJ0.1.1 zs_0 (zr_0_4 hJ0.1) ?_
  refine w_gfi dX8_strain_8 rfl hJ0.1 zs_49 (Nat.le_of_ble_eq_true rfl) zo_49_0 ?_
  intro x50 f51 h52 h53
  refine w_ic dX8_strain_11 zi_2 ?_
  refine w_sub dX8_strain_12 (by have := zt_2; omega) ?_
  intro x54 h55
  have := zt_2
  refine w_lo (ml' := [some (.ref 0), some (.int a0), some (.int 0), some (.int 0), some (.int x54), none, none]) dX8_strain_13 rfl rfl rfl rfl ?_
  exact ih15 M0 a0 0 0 x54 none none hJ0 (by omega) (by omega) (by have := zt_0; omega) (ztop _) (zbot _) (ztop _) (by omega) (by omega) (by have := zt_0; omega)
set_option maxRecDepth 100000 in
theorem k_2066 {X : List Int32} {d N : Nat} {M0 : zM} (a0 : Int32) (a1 : Int32) (hN : N ≤ 600) (hB0 : zB N M0) : ZV X (d + 2) 2066 [.ref 0, .int a0, .int a1] M0 (zRI N [] M0 (-2147483648) (2147483647) (fun _ _ => True)) := by
  have hJ0 : zJ N [] M0 M0 := zJ_refl hB0
  refine ZV.of (ini := false) rfl (Nat.le_of_ble_eq_true rfl) (by decide +kernel) ?_
  show ZW _ _ _ _ _ _ _ (0, [some (.ref 0), some (.int a0), some (.int a1)], [], M0)
  refine w_lo dX8_knot_0 rfl rfl rfl rfl ?_
  refine w_lo dX8_knot_1 rfl rfl rfl rfl ?_
  refine w_iv dX8_knot_2 rfl rfl (As := [.int a0]) rfl rfl hJ0.1.1 zs_0 (Nat.le_of_ble_eq_true rfl) ?_
  refine ZV.of (ini := false) rfl (Nat.le_of_ble_eq_true rfl) (by decide +kernel) ?_
  show ZW _ _ _ _ _ _ _ (0, [some (.ref 0), some (.int a0)], [], M0)
  refine w_lo dX8_isKnot_0 rfl rfl rfl rfl ?_
  rcases zcut a0.toInt (0 : Int) with h1 | h1
  · skip
    refine w_ilt_t dX8_isKnot_1 (t := 21) rfl (by omega) ?_
    refine w_ic dX8_isKnot_21 zi_0 ?_
    refine w_en dX8_isKnot_22 rfl ?_
    show ZW _ _ _ _ _ _ _ (5, [some (.ref 0), some (.int a0), some (.int a1)], [.int 0], M0)
    refine w_ine_f dX8_knot_5 (t := 10) rfl (by have := zt_0; omega) ?_
    refine w_ic dX8_knot_8 zi_m1 ?_
    refine w_en dX8_knot_9 rfl ?_
    exact ⟨_, _, rfl, (zbot _), (ztop _), hJ0, trivial⟩
  · skip
    refine w_ilt_f dX8_isKnot_1 (t := 21) rfl (by omega) ?_
    refine w_lo dX8_isKnot_4 rfl rfl rfl rfl ?_
    refine w_lo dX8_isKnot_5 rfl rfl rfl rfl ?_
    refine w_gf dX8_isKnot_6 rfl hJ0.1.1 zs_0 (zr_0_4 hJ0.1) ?_
    refine w_gfi dX8_isKnot_9 rfl hJ0.1 zs_49 (Nat.le_of_ble_eq_true rfl) zo_49_0 ?_
    intro x2 f3 h4 h5
    refine w_ic dX8_isKnot_12 zi_1 ?_
    refine w_sub dX8_isKnot_13 (by have := zt_1; omega) ?_
    intro x6 h7
    have := zt_1
    rcases zcut a0.toInt x6.toInt with h8 | h8
    · skip
      refine w_cge_f dX8_isKnot_14 (t := 21) rfl (by omega) ?_
      refine w_ic dX8_isKnot_17 zi_1 ?_
      refine w_gt dX8_isKnot_18 (t := 22) rfl ?_
      refine w_en dX8_isKnot_22 rfl ?_
      show ZW _ _ _ _ _ _ _ (5, [some (.ref 0), some (.int a0), some (.int a1)], [.int 1], M0)
      refine w_ine_t dX8_knot_5 (t := 10) rfl (by have := zt_1; omega) ?_
      refine w_lo dX8_knot_10 rfl rfl rfl rfl ?_
      rcases Int.decEq a1.toInt (0 : Int) with h9 | h9
      rotate_left
      · skip
        refine w_ts dX8_knot_11 (t := 36) (j := 0) h9 (by decide) ?_
        refine w_lo dX8_knot_36 rfl rfl rfl rfl ?_
        refine w_gf dX8_knot_37 rfl hJ0.1.1 zs_0 (zr_0_4 hJ0.1) ?_
        refine w_gf dX8_knot_40 rfl hJ0.1.1 zs_49 (zr_49_12 hJ0.1) ?_
        refine w_lo dX8_knot_43 rfl rfl rfl rfl ?_
        refine w_bai dX8_knot_44 hJ0.1 zs_60 (by omega) (by omega) zu_60 ?_
        intro x13 f10 h11 h12
        rcases Int.decEq x13.toInt (0 : Int) with h14 | h14
        · skip
          refine w_ieq_f dX8_knot_45 (t := 52) rfl (by omega) ?_
          refine w_ic dX8_knot_48 zi_1 ?_
          refine w_gt dX8_knot_49 (t := 53) rfl ?_
          refine w_en dX8_knot_53 rfl ?_
          exact ⟨_, _, rfl, (zbot _), (ztop _), hJ0, trivial⟩
        · skip
          refine w_ieq_t dX8_knot_45 (t := 52) rfl (by omega) ?_
          refine w_ic dX8_knot_52 zi_0 ?_
          refine w_en dX8_knot_53 rfl ?_
          exact ⟨_, _, rfl, (zbot _), (ztop _), hJ0, trivial⟩
      rcases Int.decEq a1.toInt (1 : Int) with h15 | h15
      rotate_left
      · skip
        refine w_ts dX8_knot_11 (t := 54) (j := 1) h15 (by decide) ?_
        refine w_lo dX8_knot_54 rfl rfl rfl rfl ?_
        refine w_gf dX8_knot_55 rfl hJ0.1.1 zs_0 (zr_0_4 hJ0.1) ?_
        refine w_gf dX8_knot_58 rfl hJ0.1.1 zs_49 (zr_49_13 hJ0.1) ?_
        refine w_lo dX8_knot_61 rfl rfl rfl rfl ?_
        refine w_iai dX8_knot_62 hJ0.1 zs_61 (by omega) (by omega) zu_61 ?_
        intro x19 f16 h17 h18
        refine w_eni dX8_knot_63 rfl rfl ?_
        exact ⟨_, _, rfl, (zbot _), (ztop _), hJ0, trivial⟩
      rcases Int.decEq a1.toInt (2 : Int) with h20 | h20
      rotate_left
      · skip
        refine w_ts dX8_knot_11 (t := 64) (j := 2) h20 (by decide) ?_
        refine w_lo dX8_knot_64 rfl rfl rfl rfl ?_
        refine w_lo dX8_knot_65 rfl rfl rfl rfl ?_
        refine w_iv dX8_knot_66 rfl rfl (As := [.int a0]) rfl rfl hJ0.1.1 zs_0 (Nat.le_of_ble_eq_true rfl) ?_
        refine ZV.imp (k_2068 a0 (by omega) (by omega) hN hJ0.1) ?_
        rintro _ ⟨x24, M21, rfl, h25, h26, hJ22, hq23⟩
        have hJ27 := zJ_trans hJ0 hJ22 zSub_nil
        show ZW _ _ _ _ _ _ _ (69, [some (.ref 0), some (.int a0), some (.int a1)], [.int x24], M21)
        refine w_eni dX8_knot_69 rfl rfl ?_
        exact ⟨_, _, rfl, (zbot _), (ztop _), hJ27, trivial⟩
      refine w_td dX8_knot_11 (t := 70) (by omega) rfl ?_
      refine w_ic dX8_knot_70 zi_m1 ?_
      refine w_en dX8_knot_71 rfl ?_
      exact ⟨_, _, rfl, (zbot _), (ztop _), hJ0, trivial⟩
    · skip
      refine w_cge_t dX8_isKnot_14 (t := 21) rfl (by omega) ?_
      refine w_ic dX8_isKnot_21 zi_0 ?_
      refine w_en dX8_isKnot_22 rfl ?_
      show ZW _ _ _ _ _ _ _ (5, [some (.ref 0), some (.int a0), some (.int a1)], [.int 0], M0)
      refine w_ine_f dX8_knot_5 (t := 10) rfl (by have := zt_0; omega) ?_
      refine w_ic dX8_knot_8 zi_m1 ?_
      refine w_en dX8_knot_9 rfl ?_
      exact ⟨_, _, rfl, (zbot _), (ztop _), hJ0, trivial⟩
