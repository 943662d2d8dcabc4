/-! walks of the Reader by pure conditions (wip/safe/gen32.py) -/
set_option maxRecDepth 100000 in
theorem u_1300_c5 {X : List Int32} {d N : Nat} {M0 : zM}  (hN : N ≤ 600) (hB0 : zB N M0) {Q : Int → zF → Prop} (hb : b_1300_c5 (zi M0) Q) : ZV X (d + 11) 1300 [.ref 2, .int 5] M0 (zRI N [(2, 3, 0), (2, 3, 1), (20, 21, 1), (41, 42, 1), (21, 22, 1000), (42, 43, 1000), (2, 3, 7)] M0 (0) (1) (fun v M' => Q v.toInt (zi M'))) := by
  have hJ0 : zJ N [(2, 3, 0), (2, 3, 1), (20, 21, 1), (41, 42, 1), (21, 22, 1000), (42, 43, 1000), (2, 3, 7)] M0 M0 := zJ_refl hB0
  refine ZV.of (ini := false) rfl (Nat.le_of_ble_eq_true rfl) (by decide +kernel) ?_
  obtain ⟨I2, I11, I44, I66, hbE, hb2, hb11, hb44, hb66⟩ := hb
  replace hbE : zHd _ := hbE
  replace hb2 : zHd _ := hb2
  replace hb11 : zHd _ := hb11
  replace hb44 : zHd _ := hb44
  replace hb66 : zHd _ := hb66
  have main : ∀ n : Nat,
      (∀ (M : zM) (v2_2 : Int32) (o2_3 : Option Value), zJ N [(2, 3, 0), (2, 3, 1), (20, 21, 1), (41, 42, 1), (21, 22, 1000), (42, 43, 1000), (2, 3, 7)] M0 M → ((0 : Int) ≤ v2_2.toInt) → (v2_2.toInt ≤ 1601) → I2 n (zi M) v2_2.toInt → ZW X (d + 10) 5 false (some .boolean) cX5_readTest (zRI N [(2, 3, 0), (2, 3, 1), (20, 21, 1), (41, 42, 1), (21, 22, 1000), (42, 43, 1000), (2, 3, 7)] M0 (0) (1) (fun v M' => Q v.toInt (zi M'))) (2, [some (.ref 2), some (.int 5), some (.int v2_2), o2_3], [], M)) ∧
      (∀ (M : zM) (v11_2 : Int32) (v11_3 : Int32), zJ N [(2, 3, 0), (2, 3, 1), (20, 21, 1), (41, 42, 1), (21, 22, 1000), (42, 43, 1000), (2, 3, 7)] M0 M → ((0 : Int) ≤ v11_2.toInt) → (v11_2.toInt ≤ 1600) → ((0 : Int) ≤ v11_3.toInt) → (v11_3.toInt ≤ 1601) → I11 n (zi M) v11_2.toInt v11_3.toInt → ZW X (d + 10) 5 false (some .boolean) cX5_readTest (zRI N [(2, 3, 0), (2, 3, 1), (20, 21, 1), (41, 42, 1), (21, 22, 1000), (42, 43, 1000), (2, 3, 7)] M0 (0) (1) (fun v M' => Q v.toInt (zi M'))) (11, [some (.ref 2), some (.int 5), some (.int v11_2), some (.int v11_3)], [], M)) ∧
      (∀ (M : zM) (v44_2 : Int32) (v44_3 : Int32), zJ N [(2, 3, 0), (2, 3, 1), (20, 21, 1), (41, 42, 1), (21, 22, 1000), (42, 43, 1000), (2, 3, 7)] M0 M → ((0 : Int) ≤ v44_2.toInt) → (v44_2.toInt ≤ 1600) → ((0 : Int) ≤ v44_3.toInt) → (v44_3.toInt ≤ 1600) → I44 n (zi M) v44_2.toInt v44_3.toInt → ZW X (d + 10) 5 false (some .boolean) cX5_readTest (zRI N [(2, 3, 0), (2, 3, 1), (20, 21, 1), (41, 42, 1), (21, 22, 1000), (42, 43, 1000), (2, 3, 7)] M0 (0) (1) (fun v M' => Q v.toInt (zi M'))) (44, [some (.ref 2), some (.int 5), some (.int v44_2), some (.int v44_3)], [], M)) ∧
      (∀ (M : zM) (v66_2 : Int32) (u66_3 : Int32), zJ N [(2, 3, 0), (2, 3, 1), (20, 21, 1), (41, 42, 1), (21, 22, 1000), (42, 43, 1000), (2, 3, 7)] M0 M → ((0 : Int) ≤ v66_2.toInt) → (v66_2.toInt ≤ 1600) → I66 n (zi M) v66_2.toInt → ZW X (d + 10) 5 false (some .boolean) cX5_readTest (zRI N [(2, 3, 0), (2, 3, 1), (20, 21, 1), (41, 42, 1), (21, 22, 1000), (42, 43, 1000), (2, 3, 7)] M0 (0) (1) (fun v M' => Q v.toInt (zi M'))) (66, [some (.ref 2), some (.int 5), some (.int v66_2), some (.int u66_3)], [], M)) := by
    intro n
    induction n using Nat.strongRecOn with
    | _ n ih =>
      refine ⟨?_, ?_, ?_, ?_⟩
      · intro M v2_2 o2_3 hJ v2_20 v2_21 hI
        have hb : zHd _ := hb2 n (zi M) v2_2.toInt (zi_fr hJ.2) v2_20 v2_21 hI
        refine w_lo dX5_readTest_2 rfl rfl rfl rfl ?_
        refine w_si dX5_readTest_3 (c := 1600) (by decide) ?_
        rcases zcut (1600 : Int) v2_2.toInt with h1 | h1
        · skip
          replace hb : zHd _ := hb.1 h1
          refine w_cgt_t dX5_readTest_6 (t := 104) rfl (by have := zt_1600; omega) ?_
          refine w_ic dX5_readTest_104 zi_1 ?_
          refine w_en dX5_readTest_105 rfl ?_
          exact ⟨_, _, rfl, (by have := zt_1; omega), (by have := zt_1; omega), hJ, hb⟩
        · skip
          replace hb : zHd _ := hb.2 h1
          refine w_cgt_f dX5_readTest_6 (t := 104) rfl (by have := zt_1600; omega) ?_
          refine w_ic dX5_readTest_9 zi_0 ?_
          refine w_lo (ml' := [some (.ref 2), some (.int 5), some (.int v2_2), some (.int 0)]) dX5_readTest_10 rfl rfl rfl rfl ?_
          obtain ⟨m, hm, hI⟩ := hb
          exact (ih m hm).2.1 M v2_2 0 hJ (by omega) (by omega) (by have := zt_0; omega) (by have := zt_0; omega) hI
      · intro M v11_2 v11_3 hJ v11_20 v11_21 v11_30 v11_31 hI
        have hb : zHd _ := hb11 n (zi M) v11_2.toInt v11_3.toInt (zi_fr hJ.2) v11_20 v11_21 v11_30 v11_31 hI
        refine w_lo dX5_readTest_11 rfl rfl rfl rfl ?_
        refine w_si dX5_readTest_12 (c := 1600) (by decide) ?_
        rcases zcut (1600 : Int) v11_3.toInt with h2 | h2
        · skip
          replace hb : zHd _ := hb.1 h2
          refine w_cgt_t dX5_readTest_15 (t := 66) rfl (by have := zt_1600; omega) ?_
          obtain ⟨m, hm, hI⟩ := hb
          exact (ih m hm).2.2.2 M v11_2 v11_3 hJ (by omega) (by omega) hI
        · skip
          replace hb : zHd _ := hb.2 h2
          refine w_cgt_f dX5_readTest_15 (t := 66) rfl (by have := zt_1600; omega) ?_
          refine w_lo dX5_readTest_18 rfl rfl rfl rfl ?_
          refine w_lo dX5_readTest_19 rfl rfl rfl rfl ?_
          refine w_iv dX5_readTest_20 rfl rfl (As := [.int 5]) rfl rfl hJ.1.1 zs_2 (Nat.le_of_ble_eq_true rfl) ?_
          obtain ⟨P5, hp6, hb⟩ := hb
          replace hb : zHd _ := hb
          refine ZV.imp (u_1301_c5 hN hJ.1 hp6) ?_
          rintro _ ⟨x8, M3, rfl, h9, h10, hJ4, hq7⟩
          replace hb : zHd _ := hb x8.toInt h9 h10 (zi M3) (zi_fr hJ4.2) hq7
          have hJ12 := zJ_trans hJ hJ4 (zSub_cons (fun _ _ h h' hk => zIR_e (by omega) (by omega) hk) (zSub_cons (fun _ _ h h' hk => zIR_s (zIR_e (by omega) (by omega) hk)) (zSub_cons (fun _ _ h h' hk => zIR_s (zIR_s (zIR_e (by omega) (by omega) hk))) (zSub_cons (fun _ _ h h' hk => zIR_s (zIR_s (zIR_s (zIR_e (by omega) (by omega) hk)))) (zSub_cons (fun _ _ h h' hk => zIR_s (zIR_s (zIR_s (zIR_s (zIR_a (by omega) (by omega)))))) (zSub_cons (fun _ _ h h' hk => zIR_s (zIR_s (zIR_s (zIR_s (zIR_s (zIR_a (by omega) (by omega))))))) (zSub_cons (fun _ _ h h' hk => zIR_s (zIR_s (zIR_s (zIR_s (zIR_s (zIR_s (zIR_e (by omega) (by omega) hk))))))) zSub_nil)))))))
          show ZW _ _ _ _ _ _ _ (23, [some (.ref 2), some (.int 5), some (.int v11_2), some (.int v11_3)], [.int x8], M3)
          rcases Int.decEq x8.toInt (0 : Int) with h13 | h13
          · skip
            replace hb : zHd _ := hb.1 h13
            refine w_ine_t dX5_readTest_23 (t := 28) rfl (by omega) ?_
            refine w_lo dX5_readTest_28 rfl rfl rfl rfl ?_
            rcases zcut (0 : Int) v11_3.toInt with h14 | h14
            · skip
              replace hb : zHd _ := hb.1 h14
              refine w_ile_f dX5_readTest_29 (t := 44) rfl (by omega) ?_
              refine w_lo dX5_readTest_32 rfl rfl rfl rfl ?_
              obtain ⟨b15, f16, h17⟩ := zd_2_8 hJ12.1
              have h18 := zDm_b h17
              refine w_gf dX5_readTest_33 rfl hJ12.1.1 zs_2 f16 ?_
              replace hb : zHd _ := hb b15 (ziR f16) (zDm_or h17)
              refine w_gf dX5_readTest_36 rfl hJ12.1.1 (zs_1_0 h17) (zr_1_0_15 h17 hJ12.1) ?_
              refine w_bi dX5_readTest_39 (c := (-17)) (by decide) ?_
              refine w_iv dX5_readTest_41 rfl rfl (As := [.int (-17)]) rfl rfl hJ12.1.1 (zs_1_13 h17) (Nat.le_of_ble_eq_true rfl) ?_
              obtain ⟨P21, hp22, hb⟩ := hb
              replace hb : zHd _ := hb
              have hp22c : b_515 (b15 + 13) (zi M3) ((-17) : Int32).toInt P21 := by rw [zt_m17]; exact hp22
              refine ZV.imp (u_515 (b15 + 13) (zLw_of h17) (-17) hN hJ12.1 hp22c) ?_
              rintro _ ⟨M19, rfl, hJ20, hq23⟩
              replace hb : zHd _ := hb  (zi M19) (zi_fr hJ20.2) hq23
              have hJ25 := zJ_trans hJ12 hJ20 (zSub_cons (fun _ _ h h' hk => ((zDm_or h17).elim (fun e => zIR_s (zIR_s (zIR_e (by omega) (by omega) hk))) (fun e => zIR_s (zIR_s (zIR_s (zIR_e (by omega) (by omega) hk)))))) (zSub_cons (fun _ _ h h' hk => ((zDm_or h17).elim (fun e => zIR_s (zIR_s (zIR_s (zIR_s (zIR_a (by omega) (by omega)))))) (fun e => zIR_s (zIR_s (zIR_s (zIR_s (zIR_s (zIR_a (by omega) (by omega))))))))) zSub_nil))
              show ZW _ _ _ _ _ _ _ (44, [some (.ref 2), some (.int 5), some (.int v11_2), some (.int v11_3)], [], M19)
              obtain ⟨m, hm, hI⟩ := hb
              exact (ih m hm).2.2.1 M19 v11_2 v11_3 hJ25 (by omega) (by omega) (by omega) (by omega) hI
            · skip
              replace hb : zHd _ := hb.2 h14
              refine w_ile_t dX5_readTest_29 (t := 44) rfl (by omega) ?_
              obtain ⟨m, hm, hI⟩ := hb
              exact (ih m hm).2.2.1 M3 v11_2 v11_3 hJ12 (by omega) (by omega) (by omega) (by omega) hI
          · skip
            replace hb : zHd _ := hb.2 h13
            refine w_ine_f dX5_readTest_23 (t := 28) rfl (by omega) ?_
            refine w_ic dX5_readTest_26 zi_0 ?_
            refine w_en dX5_readTest_27 rfl ?_
            exact ⟨_, _, rfl, (by have := zt_0; omega), (by have := zt_0; omega), hJ12, hb⟩
      · intro M v44_2 v44_3 hJ v44_20 v44_21 v44_30 v44_31 hI
        have hb : zHd _ := hb44 n (zi M) v44_2.toInt v44_3.toInt (zi_fr hJ.2) v44_20 v44_21 v44_30 v44_31 hI
        refine w_lo dX5_readTest_44 rfl rfl rfl rfl ?_
        refine w_iv dX5_readTest_45 rfl rfl (As := []) rfl rfl hJ.1.1 zs_2 (Nat.le_of_ble_eq_true rfl) ?_
        obtain ⟨P28, hp29, hb⟩ := hb
        replace hb : zHd _ := hb
        refine ZV.imp (u_1287 hN hJ.1 hp29) ?_
        rintro _ ⟨x31, M26, rfl, h32, h33, hJ27, hq30⟩
        replace hb : zHd _ := hb x31.toInt h32 h33 (zi M26) (zi_fr hJ27.2) hq30
        have hJ35 := zJ_trans hJ hJ27 zSub_nil
        show ZW _ _ _ _ _ _ _ (48, [some (.ref 2), some (.int 5), some (.int v44_2), some (.int v44_3)], [.int x31], M26)
        refine w_bi dX5_readTest_48 (c := 22) (by decide) ?_
        rcases Int.decEq x31.toInt (22 : Int) with h36 | h36
        · skip
          replace hb : zHd _ := hb.1 h36
          refine w_ceq_f dX5_readTest_50 (t := 56) rfl (by have := zt_22; omega) ?_
          refine w_gt dX5_readTest_53 (t := 66) rfl ?_
          obtain ⟨m, hm, hI⟩ := hb
          exact (ih m hm).2.2.2 M26 v44_2 v44_3 hJ35 (by omega) (by omega) hI
        · skip
          replace hb : zHd _ := hb.2 h36
          refine w_ceq_t dX5_readTest_50 (t := 56) rfl (by have := zt_22; omega) ?_
          refine w_lo dX5_readTest_56 rfl rfl rfl rfl ?_
          refine w_iv dX5_readTest_57 rfl rfl (As := []) rfl rfl hJ35.1.1 zs_2 (Nat.le_of_ble_eq_true rfl) ?_
          obtain ⟨P39, hp40, hb⟩ := hb
          replace hb : zHd _ := hb
          refine ZV.imp (u_1289 hN hJ35.1 hp40) ?_
          rintro _ ⟨M37, rfl, hJ38, hq41⟩
          replace hb : zHd _ := hb  (zi M37) (zi_fr hJ38.2) hq41
          have hJ43 := zJ_trans hJ35 hJ38 (zSub_cons (fun _ _ h h' hk => zIR_s (zIR_s (zIR_s (zIR_s (zIR_s (zIR_s (zIR_e (by omega) (by omega) hk))))))) zSub_nil)
          show ZW _ _ _ _ _ _ _ (60, [some (.ref 2), some (.int 5), some (.int v44_2), some (.int v44_3)], [], M37)
          refine w_inc (kk := 3) dX5_readTest_60 rfl (m := 1) (by decide) (by omega) ?_
          intro x44 h45
          refine ⟨_, rfl, ?_⟩
          replace hb : zHd _ := hb x44.toInt h45
          show ZW _ _ _ _ _ _ _ (63, [some (.ref 2), some (.int 5), some (.int v44_2), some (.int x44)], [], M37)
          refine w_gt dX5_readTest_63 (t := 11) rfl ?_
          obtain ⟨m, hm, hI⟩ := hb
          exact (ih m hm).2.1 M37 v44_2 x44 hJ43 (by omega) (by omega) (by omega) (by omega) hI
      · intro M v66_2 u66_3 hJ v66_20 v66_21 hI
        have hb : zHd _ := hb66 n (zi M) v66_2.toInt (zi_fr hJ.2) v66_20 v66_21 hI
        refine w_lo dX5_readTest_66 rfl rfl rfl rfl ?_
        rcases zcut (0 : Int) v66_2.toInt with h46 | h46
        · skip
          replace hb : zHd _ := hb.1 h46
          refine w_ile_f dX5_readTest_67 (t := 82) rfl (by omega) ?_
          refine w_lo dX5_readTest_70 rfl rfl rfl rfl ?_
          obtain ⟨b47, f48, h49⟩ := zd_2_8 hJ.1
          have h50 := zDm_b h49
          refine w_gf dX5_readTest_71 rfl hJ.1.1 zs_2 f48 ?_
          replace hb : zHd _ := hb b47 (ziR f48) (zDm_or h49)
          refine w_gf dX5_readTest_74 rfl hJ.1.1 (zs_1_0 h49) (zr_1_0_15 h49 hJ.1) ?_
          refine w_bi dX5_readTest_77 (c := (-18)) (by decide) ?_
          refine w_iv dX5_readTest_79 rfl rfl (As := [.int (-18)]) rfl rfl hJ.1.1 (zs_1_13 h49) (Nat.le_of_ble_eq_true rfl) ?_
          obtain ⟨P53, hp54, hb⟩ := hb
          replace hb : zHd _ := hb
          have hp54c : b_515 (b47 + 13) (zi M) ((-18) : Int32).toInt P53 := by rw [zt_m18]; exact hp54
          refine ZV.imp (u_515 (b47 + 13) (zLw_of h49) (-18) hN hJ.1 hp54c) ?_
          rintro _ ⟨M51, rfl, hJ52, hq55⟩
          replace hb : zHd _ := hb  (zi M51) (zi_fr hJ52.2) hq55
          have hJ57 := zJ_trans hJ hJ52 (zSub_cons (fun _ _ h h' hk => ((zDm_or h49).elim (fun e => zIR_s (zIR_s (zIR_e (by omega) (by omega) hk))) (fun e => zIR_s (zIR_s (zIR_s (zIR_e (by omega) (by omega) hk)))))) (zSub_cons (fun _ _ h h' hk => ((zDm_or h49).elim (fun e => zIR_s (zIR_s (zIR_s (zIR_s (zIR_a (by omega) (by omega)))))) (fun e => zIR_s (zIR_s (zIR_s (zIR_s (zIR_s (zIR_a (by omega) (by omega))))))))) zSub_nil))
          show ZW _ _ _ _ _ _ _ (82, [some (.ref 2), some (.int 5), some (.int v66_2), some (.int u66_3)], [], M51)
          refine w_lo dX5_readTest_82 rfl rfl rfl rfl ?_
          refine w_iv dX5_readTest_83 rfl rfl (As := []) rfl rfl hJ57.1.1 zs_2 (Nat.le_of_ble_eq_true rfl) ?_
          obtain ⟨P60, hp61, hb⟩ := hb
          replace hb : zHd _ := hb
          refine ZV.imp (u_1287 hN hJ57.1 hp61) ?_
          rintro _ ⟨x63, M58, rfl, h64, h65, hJ59, hq62⟩
          replace hb : zHd _ := hb x63.toInt h64 h65 (zi M58) (zi_fr hJ59.2) hq62
          have hJ67 := zJ_trans hJ57 hJ59 zSub_nil
          show ZW _ _ _ _ _ _ _ (86, [some (.ref 2), some (.int 5), some (.int v66_2), some (.int u66_3)], [.int x63], M58)
          refine w_bi dX5_readTest_86 (c := 21) (by decide) ?_
          rcases Int.decEq x63.toInt (21 : Int) with h68 | h68
          · skip
            replace hb : zHd _ := hb.1 h68
            refine w_ceq_f dX5_readTest_88 (t := 94) rfl (by have := zt_21; omega) ?_
            refine w_gt dX5_readTest_91 (t := 104) rfl ?_
            refine w_ic dX5_readTest_104 zi_1 ?_
            refine w_en dX5_readTest_105 rfl ?_
            exact ⟨_, _, rfl, (by have := zt_1; omega), (by have := zt_1; omega), hJ67, hb⟩
          · skip
            replace hb : zHd _ := hb.2 h68
            refine w_ceq_t dX5_readTest_88 (t := 94) rfl (by have := zt_21; omega) ?_
            refine w_lo dX5_readTest_94 rfl rfl rfl rfl ?_
            refine w_iv dX5_readTest_95 rfl rfl (As := []) rfl rfl hJ67.1.1 zs_2 (Nat.le_of_ble_eq_true rfl) ?_
            obtain ⟨P71, hp72, hb⟩ := hb
            replace hb : zHd _ := hb
            refine ZV.imp (u_1289 hN hJ67.1 hp72) ?_
            rintro _ ⟨M69, rfl, hJ70, hq73⟩
            replace hb : zHd _ := hb  (zi M69) (zi_fr hJ70.2) hq73
            have hJ75 := zJ_trans hJ67 hJ70 (zSub_cons (fun _ _ h h' hk => zIR_s (zIR_s (zIR_s (zIR_s (zIR_s (zIR_s (zIR_e (by omega) (by omega) hk))))))) zSub_nil)
            show ZW _ _ _ _ _ _ _ (98, [some (.ref 2), some (.int 5), some (.int v66_2), some (.int u66_3)], [], M69)
            refine w_inc (kk := 2) dX5_readTest_98 rfl (m := 1) (by decide) (by omega) ?_
            intro x76 h77
            refine ⟨_, rfl, ?_⟩
            replace hb : zHd _ := hb x76.toInt h77
            show ZW _ _ _ _ _ _ _ (101, [some (.ref 2), some (.int 5), some (.int x76), some (.int u66_3)], [], M69)
            refine w_gt dX5_readTest_101 (t := 2) rfl ?_
            obtain ⟨m, hm, hI⟩ := hb
            exact (ih m hm).1 M69 x76 (some (.int u66_3)) hJ75 (by omega) (by omega) hI
        · skip
          replace hb : zHd _ := hb.2 h46
          refine w_ile_t dX5_readTest_67 (t := 82) rfl (by omega) ?_
          refine w_lo dX5_readTest_82 rfl rfl rfl rfl ?_
          refine w_iv dX5_readTest_83 rfl rfl (As := []) rfl rfl hJ.1.1 zs_2 (Nat.le_of_ble_eq_true rfl) ?_
          obtain ⟨P80, hp81, hb⟩ := hb
          replace hb : zHd _ := hb
          refine ZV.imp (u_1287 hN hJ.1 hp81) ?_
          rintro _ ⟨x83, M78, rfl, h84, h85, hJ79, hq82⟩
          replace hb : zHd _ := hb x83.toInt h84 h85 (zi M78) (zi_fr hJ79.2) hq82
          have hJ87 := zJ_trans hJ hJ79 zSub_nil
          show ZW _ _ _ _ _ _ _ (86, [some (.ref 2), some (.int 5), some (.int v66_2), some (.int u66_3)], [.int x83], M78)
          refine w_bi dX5_readTest_86 (c := 21) (by decide) ?_
          rcases Int.decEq x83.toInt (21 : Int) with h88 | h88
          · skip
            replace hb : zHd _ := hb.1 h88
            refine w_ceq_f dX5_readTest_88 (t := 94) rfl (by have := zt_21; omega) ?_
            refine w_gt dX5_readTest_91 (t := 104) rfl ?_
            refine w_ic dX5_readTest_104 zi_1 ?_
            refine w_en dX5_readTest_105 rfl ?_
            exact ⟨_, _, rfl, (by have := zt_1; omega), (by have := zt_1; omega), hJ87, hb⟩
          · skip
            replace hb : zHd _ := hb.2 h88
            refine w_ceq_t dX5_readTest_88 (t := 94) rfl (by have := zt_21; omega) ?_
            refine w_lo dX5_readTest_94 rfl rfl rfl rfl ?_
            refine w_iv dX5_readTest_95 rfl rfl (As := []) rfl rfl hJ87.1.1 zs_2 (Nat.le_of_ble_eq_true rfl) ?_
            obtain ⟨P91, hp92, hb⟩ := hb
            replace hb : zHd _ := hb
            refine ZV.imp (u_1289 hN hJ87.1 hp92) ?_
            rintro _ ⟨M89, rfl, hJ90, hq93⟩
            replace hb : zHd _ := hb  (zi M89) (zi_fr hJ90.2) hq93
            have hJ95 := zJ_trans hJ87 hJ90 (zSub_cons (fun _ _ h h' hk => zIR_s (zIR_s (zIR_s (zIR_s (zIR_s (zIR_s (zIR_e (by omega) (by omega) hk))))))) zSub_nil)
            show ZW _ _ _ _ _ _ _ (98, [some (.ref 2), some (.int 5), some (.int v66_2), some (.int u66_3)], [], M89)
            refine w_inc (kk := 2) dX5_readTest_98 rfl (m := 1) (by decide) (by omega) ?_
            intro x96 h97
            refine ⟨_, rfl, ?_⟩
            replace hb : zHd _ := hb x96.toInt h97
            show ZW _ _ _ _ _ _ _ (101, [some (.ref 2), some (.int 5), some (.int x96), some (.int u66_3)], [], M89)
            refine w_gt dX5_readTest_101 (t := 2) rfl ?_
            obtain ⟨m, hm, hI⟩ := hb
            exact (ih m hm).1 M89 x96 (some (.int u66_3)) hJ95 (by omega) (by omega) hI
  have hb : zHd _ := hbE
  show ZW _ _ _ _ _ _ _ (0, [some (.ref 2), some (.int 5), none, none], [], M0)
  refine w_ic dX5_readTest_0 zi_0 ?_
  refine w_lo (ml' := [some (.ref 2), some (.int 5), some (.int 0), none]) dX5_readTest_1 rfl rfl rfl rfl ?_
  obtain ⟨m, hI⟩ := hb
  exact (main m).1 M0 0 none hJ0 (by have := zt_0; omega) (by have := zt_0; omega) hI
set_option maxRecDepth 100000 in
theorem u_1301_c4 {X : List Int32} {d N : Nat} {M0 : zM}  (hN : N ≤ 600) (hB0 : zB N M0) {Q : Int → zF → Prop} (hb : b_1301_c4 (zi M0) Q) : ZV X (d + 12) 1301 [.ref 2, .int 4] M0 (zRI N [(2, 3, 0), (2, 3, 1), (20, 21, 1), (41, 42, 1), (21, 22, 1000), (42, 43, 1000), (2, 3, 7)] M0 (0) (1) (fun v M' => Q v.toInt (zi M'))) := by
  have hJ0 : zJ N [(2, 3, 0), (2, 3, 1), (20, 21, 1), (41, 42, 1), (21, 22, 1000), (42, 43, 1000), (2, 3, 7)] M0 M0 := zJ_refl hB0
  refine ZV.of (ini := false) rfl (Nat.le_of_ble_eq_true rfl) (by decide +kernel) ?_
  obtain ⟨I2, I28, I167, hbE, hb2, hb28, hb167⟩ := hb
  replace hbE : zHd _ := hbE
  replace hb2 : zHd _ := hb2
  replace hb28 : zHd _ := hb28
  replace hb167 : zHd _ := hb167
  have main : ∀ n : Nat,
      (∀ (M : zM) (v2_2 : Int32) (o2_3 : Option Value), zJ N [(2, 3, 0), (2, 3, 1), (20, 21, 1), (41, 42, 1), (21, 22, 1000), (42, 43, 1000), (2, 3, 7)] M0 M → ((0 : Int) ≤ v2_2.toInt) → (v2_2.toInt ≤ 1601) → I2 n (zi M) v2_2.toInt → ZW X (d + 11) 5 false (some .boolean) cX5_readFact (zRI N [(2, 3, 0), (2, 3, 1), (20, 21, 1), (41, 42, 1), (21, 22, 1000), (42, 43, 1000), (2, 3, 7)] M0 (0) (1) (fun v M' => Q v.toInt (zi M'))) (2, [some (.ref 2), some (.int 4), some (.int v2_2), o2_3], [], M)) ∧
      (∀ (M : zM) (v28_2 : Int32) (o28_3 : Option Value), zJ N [(2, 3, 0), (2, 3, 1), (20, 21, 1), (41, 42, 1), (21, 22, 1000), (42, 43, 1000), (2, 3, 7)] M0 M → ((0 : Int) ≤ v28_2.toInt) → (v28_2.toInt ≤ 1601) → I28 n (zi M) v28_2.toInt → ZW X (d + 11) 5 false (some .boolean) cX5_readFact (zRI N [(2, 3, 0), (2, 3, 1), (20, 21, 1), (41, 42, 1), (21, 22, 1000), (42, 43, 1000), (2, 3, 7)] M0 (0) (1) (fun v M' => Q v.toInt (zi M'))) (28, [some (.ref 2), some (.int 4), some (.int v28_2), o28_3], [], M)) ∧
      (∀ (M : zM) (v167_2 : Int32) (o167_3 : Option Value) (s167_0 : Int32), zJ N [(2, 3, 0), (2, 3, 1), (20, 21, 1), (41, 42, 1), (21, 22, 1000), (42, 43, 1000), (2, 3, 7)] M0 M → ((0 : Int) ≤ v167_2.toInt) → (v167_2.toInt ≤ 1601) → ((-16 : Int) ≤ s167_0.toInt) → (s167_0.toInt ≤ 0) → I167 n (zi M) v167_2.toInt s167_0.toInt → ZW X (d + 11) 5 false (some .boolean) cX5_readFact (zRI N [(2, 3, 0), (2, 3, 1), (20, 21, 1), (41, 42, 1), (21, 22, 1000), (42, 43, 1000), (2, 3, 7)] M0 (0) (1) (fun v M' => Q v.toInt (zi M'))) (167, [some (.ref 2), some (.int 4), some (.int v167_2), o167_3], [.int s167_0], M)) := by
    intro n
    induction n using Nat.strongRecOn with
    | _ n ih =>
      refine ⟨?_, ?_, ?_⟩
      · intro M v2_2 o2_3 hJ v2_20 v2_21 hI
        have hb : zHd _ := hb2 n (zi M) v2_2.toInt (zi_fr hJ.2) v2_20 v2_21 hI
        refine w_lo dX5_readFact_2 rfl rfl rfl rfl ?_
        refine w_si dX5_readFact_3 (c := 1600) (by decide) ?_
        rcases zcut (1600 : Int) v2_2.toInt with h1 | h1
        · skip
          replace hb : zHd _ := hb.1 h1
          refine w_cgt_t dX5_readFact_6 (t := 28) rfl (by have := zt_1600; omega) ?_
          obtain ⟨m, hm, hI⟩ := hb
          exact (ih m hm).2.1 M v2_2 o2_3 hJ (by omega) (by omega) hI
        · skip
          replace hb : zHd _ := hb.2 h1
          refine w_cgt_f dX5_readFact_6 (t := 28) rfl (by have := zt_1600; omega) ?_
          refine w_lo dX5_readFact_9 rfl rfl rfl rfl ?_
          refine w_iv dX5_readFact_10 rfl rfl (As := []) rfl rfl hJ.1.1 zs_2 (Nat.le_of_ble_eq_true rfl) ?_
          obtain ⟨P4, hp5, hb⟩ := hb
          replace hb : zHd _ := hb
          refine ZV.imp (u_1287 hN hJ.1 hp5) ?_
          rintro _ ⟨x7, M2, rfl, h8, h9, hJ3, hq6⟩
          replace hb : zHd _ := hb x7.toInt h8 h9 (zi M2) (zi_fr hJ3.2) hq6
          have hJ11 := zJ_trans hJ hJ3 zSub_nil
          show ZW _ _ _ _ _ _ _ (13, [some (.ref 2), some (.int 4), some (.int v2_2), o2_3], [.int x7], M2)
          refine w_bi dX5_readFact_13 (c := 23) (by decide) ?_
          rcases Int.decEq x7.toInt (23 : Int) with h12 | h12
          · skip
            replace hb : zHd _ := hb.1 h12
            refine w_cne_t dX5_readFact_15 (t := 28) rfl (by have := zt_23; omega) ?_
            obtain ⟨m, hm, hI⟩ := hb
            exact (ih m hm).2.1 M2 v2_2 o2_3 hJ11 (by omega) (by omega) hI
          · skip
            replace hb : zHd _ := hb.2 h12
            refine w_cne_f dX5_readFact_15 (t := 28) rfl (by have := zt_23; omega) ?_
            refine w_lo dX5_readFact_18 rfl rfl rfl rfl ?_
            refine w_iv dX5_readFact_19 rfl rfl (As := []) rfl rfl hJ11.1.1 zs_2 (Nat.le_of_ble_eq_true rfl) ?_
            obtain ⟨P15, hp16, hb⟩ := hb
            replace hb : zHd _ := hb
            refine ZV.imp (u_1289 hN hJ11.1 hp16) ?_
            rintro _ ⟨M13, rfl, hJ14, hq17⟩
            replace hb : zHd _ := hb  (zi M13) (zi_fr hJ14.2) hq17
            have hJ19 := zJ_trans hJ11 hJ14 (zSub_cons (fun _ _ h h' hk => zIR_s (zIR_s (zIR_s (zIR_s (zIR_s (zIR_s (zIR_e (by omega) (by omega) hk))))))) zSub_nil)
            show ZW _ _ _ _ _ _ _ (22, [some (.ref 2), some (.int 4), some (.int v2_2), o2_3], [], M13)
            refine w_inc (kk := 2) dX5_readFact_22 rfl (m := 1) (by decide) (by omega) ?_
            intro x20 h21
            refine ⟨_, rfl, ?_⟩
            replace hb : zHd _ := hb x20.toInt h21
            show ZW _ _ _ _ _ _ _ (25, [some (.ref 2), some (.int 4), some (.int x20), o2_3], [], M13)
            refine w_gt dX5_readFact_25 (t := 2) rfl ?_
            obtain ⟨m, hm, hI⟩ := hb
            exact (ih m hm).1 M13 x20 o2_3 hJ19 (by omega) (by omega) hI
      · intro M v28_2 o28_3 hJ v28_20 v28_21 hI
        have hb : zHd _ := hb28 n (zi M) v28_2.toInt (zi_fr hJ.2) v28_20 v28_21 hI
        refine w_lo dX5_readFact_28 rfl rfl rfl rfl ?_
        refine w_bi dX5_readFact_29 (c := 91) (by decide) ?_
        refine w_iv dX5_readFact_31 rfl rfl (As := [.int 91]) rfl rfl hJ.1.1 zs_2 (Nat.le_of_ble_eq_true rfl) ?_
        obtain ⟨P24, hp25, hb⟩ := hb
        replace hb : zHd _ := hb
        have hp25c : b_1299 (zi M) (91 : Int32).toInt P24 := by rw [zt_91]; exact hp25
        refine ZV.imp (u_1299 91 (by have := zt_91; omega) (by have := zt_91; omega) hN hJ.1 hp25c) ?_
        rintro _ ⟨x27, M22, rfl, h28, h29, hJ23, hq26⟩
        replace hb : zHd _ := hb x27.toInt h28 h29 (zi M22) (zi_fr hJ23.2) hq26
        have hJ31 := zJ_trans hJ hJ23 zSub_nil
        show ZW _ _ _ _ _ _ _ (34, [some (.ref 2), some (.int 4), some (.int v28_2), o28_3], [.int x27], M22)
        rcases Int.decEq x27.toInt (0 : Int) with h32 | h32
        · skip
          replace hb : zHd _ := hb.1 h32
          refine w_ieq_f dX5_readFact_34 (t := 87) rfl (by omega) ?_
          refine w_lo dX5_readFact_37 rfl rfl rfl rfl ?_
          refine w_bi dX5_readFact_38 (c := 8) (by decide) ?_
          refine w_clt_t dX5_readFact_40 (t := 49) rfl (by have := zt_4; have := zt_8; omega) ?_
          refine w_lo dX5_readFact_49 rfl rfl rfl rfl ?_
          refine w_iv dX5_readFact_50 rfl rfl (As := []) rfl rfl hJ31.1.1 zs_2 (Nat.le_of_ble_eq_true rfl) ?_
          obtain ⟨P35, hp36, hb⟩ := hb
          replace hb : zHd _ := hb
          refine ZV.imp (u_1289 hN hJ31.1 hp36) ?_
          rintro _ ⟨M33, rfl, hJ34, hq37⟩
          replace hb : zHd _ := hb  (zi M33) (zi_fr hJ34.2) hq37
          have hJ39 := zJ_trans hJ31 hJ34 (zSub_cons (fun _ _ h h' hk => zIR_s (zIR_s (zIR_s (zIR_s (zIR_s (zIR_s (zIR_e (by omega) (by omega) hk))))))) zSub_nil)
          show ZW _ _ _ _ _ _ _ (53, [some (.ref 2), some (.int 4), some (.int v28_2), o28_3], [], M33)
          refine w_lo dX5_readFact_53 rfl rfl rfl rfl ?_
          refine w_lo dX5_readFact_54 rfl rfl rfl rfl ?_
          refine w_ic dX5_readFact_55 zi_1 ?_
          refine w_pu (st' := [.int 5, .ref 2]) dX5_readFact_56 rfl rfl ?_
          refine w_iv dX5_readFact_57 rfl rfl (As := [.int 5]) rfl rfl hJ39.1.1 zs_2 (Nat.le_of_ble_eq_true rfl) ?_
          obtain ⟨P42, hp43, hb⟩ := hb
          replace hb : zHd _ := hb
          refine ZV.imp (u_1300_c5 hN hJ39.1 hp43) ?_
          rintro _ ⟨x45, M40, rfl, h46, h47, hJ41, hq44⟩
          replace hb : zHd _ := hb x45.toInt h46 h47 (zi M40) (zi_fr hJ41.2) hq44
          have hJ49 := zJ_trans hJ39 hJ41 (zSub_cons (fun _ _ h h' hk => zIR_e (by omega) (by omega) hk) (zSub_cons (fun _ _ h h' hk => zIR_s (zIR_e (by omega) (by omega) hk)) (zSub_cons (fun _ _ h h' hk => zIR_s (zIR_s (zIR_e (by omega) (by omega) hk))) (zSub_cons (fun _ _ h h' hk => zIR_s (zIR_s (zIR_s (zIR_e (by omega) (by omega) hk)))) (zSub_cons (fun _ _ h h' hk => zIR_s (zIR_s (zIR_s (zIR_s (zIR_a (by omega) (by omega)))))) (zSub_cons (fun _ _ h h' hk => zIR_s (zIR_s (zIR_s (zIR_s (zIR_s (zIR_a (by omega) (by omega))))))) (zSub_cons (fun _ _ h h' hk => zIR_s (zIR_s (zIR_s (zIR_s (zIR_s (zIR_s (zIR_e (by omega) (by omega) hk))))))) zSub_nil)))))))
          show ZW _ _ _ _ _ _ _ (60, [some (.ref 2), some (.int 4), some (.int v28_2), o28_3], [.int x45], M40)
          rcases Int.decEq x45.toInt (0 : Int) with h50 | h50
          · skip
            replace hb : zHd _ := hb.1 h50
            refine w_ine_t dX5_readFact_60 (t := 65) rfl (by omega) ?_
            refine w_lo dX5_readFact_65 rfl rfl rfl rfl ?_
            refine w_bi dX5_readFact_66 (c := 93) (by decide) ?_
            refine w_iv dX5_readFact_68 rfl rfl (As := [.int 93]) rfl rfl hJ49.1.1 zs_2 (Nat.le_of_ble_eq_true rfl) ?_
            obtain ⟨P53, hp54, hb⟩ := hb
            replace hb : zHd _ := hb
            have hp54c : b_1299 (zi M40) (93 : Int32).toInt P53 := by rw [zt_93]; exact hp54
            refine ZV.imp (u_1299 93 (by have := zt_93; omega) (by have := zt_93; omega) hN hJ49.1 hp54c) ?_
            rintro _ ⟨x56, M51, rfl, h57, h58, hJ52, hq55⟩
            replace hb : zHd _ := hb x56.toInt h57 h58 (zi M51) (zi_fr hJ52.2) hq55
            have hJ60 := zJ_trans hJ49 hJ52 zSub_nil
            show ZW _ _ _ _ _ _ _ (71, [some (.ref 2), some (.int 4), some (.int v28_2), o28_3], [.int x56], M51)
            rcases Int.decEq x56.toInt (0 : Int) with h61 | h61
            · skip
              replace hb : zHd _ := hb.1 h61
              refine w_ine_t dX5_readFact_71 (t := 80) rfl (by omega) ?_
              refine w_lo dX5_readFact_80 rfl rfl rfl rfl ?_
              refine w_iv dX5_readFact_81 rfl rfl (As := []) rfl rfl hJ60.1.1 zs_2 (Nat.le_of_ble_eq_true rfl) ?_
              obtain ⟨P64, hp65, hb⟩ := hb
              replace hb : zHd _ := hb
              refine ZV.imp (u_1289 hN hJ60.1 hp65) ?_
              rintro _ ⟨M62, rfl, hJ63, hq66⟩
              replace hb : zHd _ := hb  (zi M62) (zi_fr hJ63.2) hq66
              have hJ68 := zJ_trans hJ60 hJ63 (zSub_cons (fun _ _ h h' hk => zIR_s (zIR_s (zIR_s (zIR_s (zIR_s (zIR_s (zIR_e (by omega) (by omega) hk))))))) zSub_nil)
              show ZW _ _ _ _ _ _ _ (84, [some (.ref 2), some (.int 4), some (.int v28_2), o28_3], [], M62)
              refine w_gt dX5_readFact_84 (t := 203) rfl ?_
              refine w_lo dX5_readFact_203 rfl rfl rfl rfl ?_
              refine w_ic dX5_readFact_204 zi_2 ?_
              refine w_remE dX5_readFact_205 (by omega) (by have := zt_2; omega) ?_
              intro x69 h70 h71 h72
              have := zt_2
              replace hb : zHd _ := hb x69.toInt h70 (by omega) (by rw [h72, zt_2])
              refine w_ic dX5_readFact_206 zi_1 ?_
              rcases Int.decEq x69.toInt (1 : Int) with h73 | h73
              · skip
                replace hb : zHd _ := hb.1 h73
                refine w_cne_t dX5_readFact_207 (t := 222) rfl (by have := zt_1; omega) ?_
                refine w_ic dX5_readFact_222 zi_1 ?_
                refine w_en dX5_readFact_223 rfl ?_
                exact ⟨_, _, rfl, (by have := zt_1; omega), (by have := zt_1; omega), hJ68, hb⟩
              · skip
                replace hb : zHd _ := hb.2 h73
                refine w_cne_f dX5_readFact_207 (t := 222) rfl (by have := zt_1; omega) ?_
                refine w_lo dX5_readFact_210 rfl rfl rfl rfl ?_
                obtain ⟨b74, f75, h76⟩ := zd_2_8 hJ68.1
                have h77 := zDm_b h76
                refine w_gf dX5_readFact_211 rfl hJ68.1.1 zs_2 f75 ?_
                replace hb : zHd _ := hb b74 (ziR f75) (zDm_or h76)
                refine w_gf dX5_readFact_214 rfl hJ68.1.1 (zs_1_0 h76) (zr_1_0_15 h76 hJ68.1) ?_
                refine w_bi dX5_readFact_217 (c := (-8)) (by decide) ?_
                refine w_iv dX5_readFact_219 rfl rfl (As := [.int (-8)]) rfl rfl hJ68.1.1 (zs_1_13 h76) (Nat.le_of_ble_eq_true rfl) ?_
                obtain ⟨P80, hp81, hb⟩ := hb
                replace hb : zHd _ := hb
                have hp81c : b_515 (b74 + 13) (zi M62) ((-8) : Int32).toInt P80 := by rw [zt_m8]; exact hp81
                refine ZV.imp (u_515 (b74 + 13) (zLw_of h76) (-8) hN hJ68.1 hp81c) ?_
                rintro _ ⟨M78, rfl, hJ79, hq82⟩
                replace hb : zHd _ := hb  (zi M78) (zi_fr hJ79.2) hq82
                have hJ84 := zJ_trans hJ68 hJ79 (zSub_cons (fun _ _ h h' hk => ((zDm_or h76).elim (fun e => zIR_s (zIR_s (zIR_e (by omega) (by omega) hk))) (fun e => zIR_s (zIR_s (zIR_s (zIR_e (by omega) (by omega) hk)))))) (zSub_cons (fun _ _ h h' hk => ((zDm_or h76).elim (fun e => zIR_s (zIR_s (zIR_s (zIR_s (zIR_a (by omega) (by omega)))))) (fun e => zIR_s (zIR_s (zIR_s (zIR_s (zIR_s (zIR_a (by omega) (by omega))))))))) zSub_nil))
                show ZW _ _ _ _ _ _ _ (222, [some (.ref 2), some (.int 4), some (.int v28_2), o28_3], [], M78)
                refine w_ic dX5_readFact_222 zi_1 ?_
                refine w_en dX5_readFact_223 rfl ?_
                exact ⟨_, _, rfl, (by have := zt_1; omega), (by have := zt_1; omega), hJ84, hb⟩
            · skip
              replace hb : zHd _ := hb.2 h61
              refine w_ine_f dX5_readFact_71 (t := 80) rfl (by omega) ?_
              refine w_lo dX5_readFact_74 rfl rfl rfl rfl ?_
              refine w_ic dX5_readFact_75 zi_1 ?_
              refine w_iv dX5_readFact_76 rfl rfl (As := [.int 1]) rfl rfl hJ60.1.1 zs_2 (Nat.le_of_ble_eq_true rfl) ?_
              obtain ⟨P87, hp88, hb⟩ := hb
              replace hb : zHd _ := hb
              have hp88c : b_1286 (zi M51) (1 : Int32).toInt P87 := by rw [zt_1]; exact hp88
              refine ZV.imp (u_1286 1 (by have := zt_1; omega) (by have := zt_1; omega) hN hJ60.1 hp88c) ?_
              rintro _ ⟨x90, M85, rfl, h91, h92, hJ86, hq89⟩
              replace hb : zHd _ := hb x90.toInt h91 h92 (zi M85) (zi_fr hJ86.2) hq89
              have hJ94 := zJ_trans hJ60 hJ86 (zSub_cons (fun _ _ h h' hk => zIR_e (by omega) (by omega) hk) (zSub_cons (fun _ _ h h' hk => zIR_s (zIR_e (by omega) (by omega) hk)) zSub_nil))
              show ZW _ _ _ _ _ _ _ (79, [some (.ref 2), some (.int 4), some (.int v28_2), o28_3], [.int x90], M85)
              refine w_eni dX5_readFact_79 rfl (znb (by omega) (by omega)) ?_
              exact ⟨_, _, rfl, (by omega), (by omega), hJ94, hb⟩
          · skip
            replace hb : zHd _ := hb.2 h50
            refine w_ine_f dX5_readFact_60 (t := 65) rfl (by omega) ?_
            refine w_ic dX5_readFact_63 zi_0 ?_
            refine w_en dX5_readFact_64 rfl ?_
            exact ⟨_, _, rfl, (by have := zt_0; omega), (by have := zt_0; omega), hJ49, hb⟩
        · skip
          replace hb : zHd _ := hb.2 h32
          refine w_ieq_t dX5_readFact_34 (t := 87) rfl (by omega) ?_
          refine w_lo dX5_readFact_87 rfl rfl rfl rfl ?_
          refine w_iv dX5_readFact_88 rfl rfl (As := []) rfl rfl hJ31.1.1 zs_2 (Nat.le_of_ble_eq_true rfl) ?_
          obtain ⟨P97, hp98, hb⟩ := hb
          replace hb : zHd _ := hb
          refine ZV.imp (u_1287 hN hJ31.1 hp98) ?_
          rintro _ ⟨x100, M95, rfl, h101, h102, hJ96, hq99⟩
          replace hb : zHd _ := hb x100.toInt h101 h102 (zi M95) (zi_fr hJ96.2) hq99
          have hJ104 := zJ_trans hJ31 hJ96 zSub_nil
          show ZW _ _ _ _ _ _ _ (91, [some (.ref 2), some (.int 4), some (.int v28_2), o28_3], [.int x100], M95)
          refine w_bi dX5_readFact_91 (c := 24) (by decide) ?_
          rcases Int.decEq x100.toInt (24 : Int) with h105 | h105
          · skip
            replace hb : zHd _ := hb.1 h105
            refine w_cne_t dX5_readFact_93 (t := 114) rfl (by have := zt_24; omega) ?_
            refine w_lo dX5_readFact_114 rfl rfl rfl rfl ?_
            refine w_lo dX5_readFact_115 rfl rfl rfl rfl ?_
            refine w_iv dX5_readFact_116 rfl rfl (As := [.int 4]) rfl rfl hJ104.1.1 zs_2 (Nat.le_of_ble_eq_true rfl) ?_
            obtain ⟨P108, hp109, hb⟩ := hb
            replace hb : zHd _ := hb
            refine ZV.imp (u_1297_c4 hN hJ104.1 hp109) ?_
            rintro _ ⟨x111, M106, rfl, h112, h113, hJ107, hq110⟩
            replace hb : zHd _ := hb x111.toInt h112 h113 (zi M106) (zi_fr hJ107.2) hq110
            have hJ115 := zJ_trans hJ104 hJ107 (zSub_cons (fun _ _ h h' hk => zIR_e (by omega) (by omega) hk) (zSub_cons (fun _ _ h h' hk => zIR_s (zIR_e (by omega) (by omega) hk)) (zSub_cons (fun _ _ h h' hk => zIR_s (zIR_s (zIR_e (by omega) (by omega) hk))) (zSub_cons (fun _ _ h h' hk => zIR_s (zIR_s (zIR_s (zIR_e (by omega) (by omega) hk)))) (zSub_cons (fun _ _ h h' hk => zIR_s (zIR_s (zIR_s (zIR_s (zIR_a (by omega) (by omega)))))) (zSub_cons (fun _ _ h h' hk => zIR_s (zIR_s (zIR_s (zIR_s (zIR_s (zIR_a (by omega) (by omega))))))) (zSub_cons (fun _ _ h h' hk => zIR_s (zIR_s (zIR_s (zIR_s (zIR_s (zIR_s (zIR_e (by omega) (by omega) hk))))))) zSub_nil)))))))
            show ZW _ _ _ _ _ _ _ (119, [some (.ref 2), some (.int 4), some (.int v28_2), o28_3], [.int x111], M106)
            rcases Int.decEq x111.toInt (0 : Int) with h116 | h116
            · skip
              replace hb : zHd _ := hb.1 h116
              refine w_ine_t dX5_readFact_119 (t := 124) rfl (by omega) ?_
              refine w_lo dX5_readFact_124 rfl rfl rfl rfl ?_
              refine w_bi dX5_readFact_125 (c := 60) (by decide) ?_
              refine w_iv dX5_readFact_127 rfl rfl (As := [.int 60]) rfl rfl hJ115.1.1 zs_2 (Nat.le_of_ble_eq_true rfl) ?_
              obtain ⟨P119, hp120, hb⟩ := hb
              replace hb : zHd _ := hb
              have hp120c : b_1299 (zi M106) (60 : Int32).toInt P119 := by rw [zt_60]; exact hp120
              refine ZV.imp (u_1299 60 (by have := zt_60; omega) (by have := zt_60; omega) hN hJ115.1 hp120c) ?_
              rintro _ ⟨x122, M117, rfl, h123, h124, hJ118, hq121⟩
              replace hb : zHd _ := hb x122.toInt h123 h124 (zi M117) (zi_fr hJ118.2) hq121
              have hJ126 := zJ_trans hJ115 hJ118 zSub_nil
              show ZW _ _ _ _ _ _ _ (130, [some (.ref 2), some (.int 4), some (.int v28_2), o28_3], [.int x122], M117)
              rcases Int.decEq x122.toInt (0 : Int) with h127 | h127
              · skip
                replace hb : zHd _ := hb.1 h127
                refine w_ieq_f dX5_readFact_130 (t := 138) rfl (by omega) ?_
                refine w_bi dX5_readFact_133 (c := (-14)) (by decide) ?_
                refine w_gt dX5_readFact_135 (t := 167) rfl ?_
                obtain ⟨m, hm, hI⟩ := hb
                exact (ih m hm).2.2 M117 v28_2 o28_3 (-14) hJ126 (by omega) (by omega) (by have := zt_m14; omega) (by have := zt_m14; omega) hI
              · skip
                replace hb : zHd _ := hb.2 h127
                refine w_ieq_t dX5_readFact_130 (t := 138) rfl (by omega) ?_
                refine w_lo dX5_readFact_138 rfl rfl rfl rfl ?_
                refine w_bi dX5_readFact_139 (c := 62) (by decide) ?_
                refine w_iv dX5_readFact_141 rfl rfl (As := [.int 62]) rfl rfl hJ126.1.1 zs_2 (Nat.le_of_ble_eq_true rfl) ?_
                obtain ⟨P130, hp131, hb⟩ := hb
                replace hb : zHd _ := hb
                have hp131c : b_1299 (zi M117) (62 : Int32).toInt P130 := by rw [zt_62]; exact hp131
                refine ZV.imp (u_1299 62 (by have := zt_62; omega) (by have := zt_62; omega) hN hJ126.1 hp131c) ?_
                rintro _ ⟨x133, M128, rfl, h134, h135, hJ129, hq132⟩
                replace hb : zHd _ := hb x133.toInt h134 h135 (zi M128) (zi_fr hJ129.2) hq132
                have hJ137 := zJ_trans hJ126 hJ129 zSub_nil
                show ZW _ _ _ _ _ _ _ (144, [some (.ref 2), some (.int 4), some (.int v28_2), o28_3], [.int x133], M128)
                rcases Int.decEq x133.toInt (0 : Int) with h138 | h138
                · skip
                  replace hb : zHd _ := hb.1 h138
                  refine w_ieq_f dX5_readFact_144 (t := 152) rfl (by omega) ?_
                  refine w_bi dX5_readFact_147 (c := (-15)) (by decide) ?_
                  refine w_gt dX5_readFact_149 (t := 167) rfl ?_
                  obtain ⟨m, hm, hI⟩ := hb
                  exact (ih m hm).2.2 M128 v28_2 o28_3 (-15) hJ137 (by omega) (by omega) (by have := zt_m15; omega) (by have := zt_m15; omega) hI
                · skip
                  replace hb : zHd _ := hb.2 h138
                  refine w_ieq_t dX5_readFact_144 (t := 152) rfl (by omega) ?_
                  refine w_lo dX5_readFact_152 rfl rfl rfl rfl ?_
                  refine w_bi dX5_readFact_153 (c := 61) (by decide) ?_
                  refine w_iv dX5_readFact_155 rfl rfl (As := [.int 61]) rfl rfl hJ137.1.1 zs_2 (Nat.le_of_ble_eq_true rfl) ?_
                  obtain ⟨P141, hp142, hb⟩ := hb
                  replace hb : zHd _ := hb
                  have hp142c : b_1299 (zi M128) (61 : Int32).toInt P141 := by rw [zt_61]; exact hp142
                  refine ZV.imp (u_1299 61 (by have := zt_61; omega) (by have := zt_61; omega) hN hJ137.1 hp142c) ?_
                  rintro _ ⟨x144, M139, rfl, h145, h146, hJ140, hq143⟩
                  replace hb : zHd _ := hb x144.toInt h145 h146 (zi M139) (zi_fr hJ140.2) hq143
                  have hJ148 := zJ_trans hJ137 hJ140 zSub_nil
                  show ZW _ _ _ _ _ _ _ (158, [some (.ref 2), some (.int 4), some (.int v28_2), o28_3], [.int x144], M139)
                  rcases Int.decEq x144.toInt (0 : Int) with h149 | h149
                  · skip
                    replace hb : zHd _ := hb.1 h149
                    refine w_ieq_f dX5_readFact_158 (t := 166) rfl (by omega) ?_
                    refine w_bi dX5_readFact_161 (c := (-16)) (by decide) ?_
                    refine w_gt dX5_readFact_163 (t := 167) rfl ?_
                    obtain ⟨m, hm, hI⟩ := hb
                    exact (ih m hm).2.2 M139 v28_2 o28_3 (-16) hJ148 (by omega) (by omega) (by have := zt_m16; omega) (by have := zt_m16; omega) hI
                  · skip
                    replace hb : zHd _ := hb.2 h149
                    refine w_ieq_t dX5_readFact_158 (t := 166) rfl (by omega) ?_
                    refine w_ic dX5_readFact_166 zi_0 ?_
                    obtain ⟨m, hm, hI⟩ := hb
                    exact (ih m hm).2.2 M139 v28_2 o28_3 0 hJ148 (by omega) (by omega) (by have := zt_0; omega) (by have := zt_0; omega) hI
            · skip
              replace hb : zHd _ := hb.2 h116
              refine w_ine_f dX5_readFact_119 (t := 124) rfl (by omega) ?_
              refine w_ic dX5_readFact_122 zi_0 ?_
              refine w_en dX5_readFact_123 rfl ?_
              exact ⟨_, _, rfl, (by have := zt_0; omega), (by have := zt_0; omega), hJ115, hb⟩
          · skip
            replace hb : zHd _ := hb.2 h105
            refine w_cne_f dX5_readFact_93 (t := 114) rfl (by have := zt_24; omega) ?_
            refine w_lo dX5_readFact_96 rfl rfl rfl rfl ?_
            refine w_iv dX5_readFact_97 rfl rfl (As := []) rfl rfl hJ104.1.1 zs_2 (Nat.le_of_ble_eq_true rfl) ?_
            obtain ⟨P152, hp153, hb⟩ := hb
            replace hb : zHd _ := hb
            refine ZV.imp (u_1289 hN hJ104.1 hp153) ?_
            rintro _ ⟨M150, rfl, hJ151, hq154⟩
            replace hb : zHd _ := hb  (zi M150) (zi_fr hJ151.2) hq154
            have hJ156 := zJ_trans hJ104 hJ151 (zSub_cons (fun _ _ h h' hk => zIR_s (zIR_s (zIR_s (zIR_s (zIR_s (zIR_s (zIR_e (by omega) (by omega) hk))))))) zSub_nil)
            show ZW _ _ _ _ _ _ _ (100, [some (.ref 2), some (.int 4), some (.int v28_2), o28_3], [], M150)
            refine w_lo dX5_readFact_100 rfl rfl rfl rfl ?_
            obtain ⟨b157, f158, h159⟩ := zd_2_8 hJ156.1
            have h160 := zDm_b h159
            refine w_gf dX5_readFact_101 rfl hJ156.1.1 zs_2 f158 ?_
            replace hb : zHd _ := hb b157 (ziR f158) (zDm_or h159)
            refine w_gf dX5_readFact_104 rfl hJ156.1.1 (zs_1_0 h159) (zr_1_0_15 h159 hJ156.1) ?_
            refine w_ic dX5_readFact_107 zi_1 ?_
            refine w_iv dX5_readFact_108 rfl rfl (As := [.int 1]) rfl rfl hJ156.1.1 (zs_1_13 h159) (Nat.le_of_ble_eq_true rfl) ?_
            obtain ⟨P163, hp164, hb⟩ := hb
            replace hb : zHd _ := hb
            have hp164c : b_515 (b157 + 13) (zi M150) (1 : Int32).toInt P163 := by rw [zt_1]; exact hp164
            refine ZV.imp (u_515 (b157 + 13) (zLw_of h159) 1 hN hJ156.1 hp164c) ?_
            rintro _ ⟨M161, rfl, hJ162, hq165⟩
            replace hb : zHd _ := hb  (zi M161) (zi_fr hJ162.2) hq165
            have hJ167 := zJ_trans hJ156 hJ162 (zSub_cons (fun _ _ h h' hk => ((zDm_or h159).elim (fun e => zIR_s (zIR_s (zIR_e (by omega) (by omega) hk))) (fun e => zIR_s (zIR_s (zIR_s (zIR_e (by omega) (by omega) hk)))))) (zSub_cons (fun _ _ h h' hk => ((zDm_or h159).elim (fun e => zIR_s (zIR_s (zIR_s (zIR_s (zIR_a (by omega) (by omega)))))) (fun e => zIR_s (zIR_s (zIR_s (zIR_s (zIR_s (zIR_a (by omega) (by omega))))))))) zSub_nil))
            show ZW _ _ _ _ _ _ _ (111, [some (.ref 2), some (.int 4), some (.int v28_2), o28_3], [], M161)
            refine w_gt dX5_readFact_111 (t := 203) rfl ?_
            refine w_lo dX5_readFact_203 rfl rfl rfl rfl ?_
            refine w_ic dX5_readFact_204 zi_2 ?_
            refine w_remE dX5_readFact_205 (by omega) (by have := zt_2; omega) ?_
            intro x168 h169 h170 h171
            have := zt_2
            replace hb : zHd _ := hb x168.toInt h169 (by omega) (by rw [h171, zt_2])
            refine w_ic dX5_readFact_206 zi_1 ?_
            rcases Int.decEq x168.toInt (1 : Int) with h172 | h172
            · skip
              replace hb : zHd _ := hb.1 h172
              refine w_cne_t dX5_readFact_207 (t := 222) rfl (by have := zt_1; omega) ?_
              refine w_ic dX5_readFact_222 zi_1 ?_
              refine w_en dX5_readFact_223 rfl ?_
              exact ⟨_, _, rfl, (by have := zt_1; omega), (by have := zt_1; omega), hJ167, hb⟩
            · skip
              replace hb : zHd _ := hb.2 h172
              refine w_cne_f dX5_readFact_207 (t := 222) rfl (by have := zt_1; omega) ?_
              refine w_lo dX5_readFact_210 rfl rfl rfl rfl ?_
              have f173 := (hJ162.2 (2) 8 (zNI_k (by decide) (by decide) (zNI (by omega) zNI_nil))).trans (f158)
              refine w_gf dX5_readFact_211 rfl hJ167.1.1 zs_2 f173 ?_
              refine w_gf dX5_readFact_214 rfl hJ167.1.1 (zs_1_0 h159) (zr_1_0_15 h159 hJ167.1) ?_
              refine w_bi dX5_readFact_217 (c := (-8)) (by decide) ?_
              refine w_iv dX5_readFact_219 rfl rfl (As := [.int (-8)]) rfl rfl hJ167.1.1 (zs_1_13 h159) (Nat.le_of_ble_eq_true rfl) ?_
              obtain ⟨P176, hp177, hb⟩ := hb
              replace hb : zHd _ := hb
              have hp177c : b_515 (b157 + 13) (zi M161) ((-8) : Int32).toInt P176 := by rw [zt_m8]; exact hp177
              refine ZV.imp (u_515 (b157 + 13) (zLw_of h159) (-8) hN hJ167.1 hp177c) ?_
              rintro _ ⟨M174, rfl, hJ175, hq178⟩
              replace hb : zHd _ := hb  (zi M174) (zi_fr hJ175.2) hq178
              have hJ180 := zJ_trans hJ167 hJ175 (zSub_cons (fun _ _ h h' hk => ((zDm_or h159).elim (fun e => zIR_s (zIR_s (zIR_e (by omega) (by omega) hk))) (fun e => zIR_s (zIR_s (zIR_s (zIR_e (by omega) (by omega) hk)))))) (zSub_cons (fun _ _ h h' hk => ((zDm_or h159).elim (fun e => zIR_s (zIR_s (zIR_s (zIR_s (zIR_a (by omega) (by omega)))))) (fun e => zIR_s (zIR_s (zIR_s (zIR_s (zIR_s (zIR_a (by omega) (by omega))))))))) zSub_nil))
              show ZW _ _ _ _ _ _ _ (222, [some (.ref 2), some (.int 4), some (.int v28_2), o28_3], [], M174)
              refine w_ic dX5_readFact_222 zi_1 ?_
              refine w_en dX5_readFact_223 rfl ?_
              exact ⟨_, _, rfl, (by have := zt_1; omega), (by have := zt_1; omega), hJ180, hb⟩
      · intro M v167_2 o167_3 s167_0 hJ v167_20 v167_21 s167_00 s167_01 hI
        have hb : zHd _ := hb167 n (zi M) v167_2.toInt s167_0.toInt (zi_fr hJ.2) v167_20 v167_21 s167_00 s167_01 hI
        refine w_lo (ml' := [some (.ref 2), some (.int 4), some (.int v167_2), some (.int s167_0)]) dX5_readFact_167 rfl rfl rfl rfl ?_
        refine w_lo dX5_readFact_168 rfl rfl rfl rfl ?_
        rcases Int.decEq s167_0.toInt (0 : Int) with h181 | h181
        · skip
          replace hb : zHd _ := hb.1 h181
          refine w_ine_t dX5_readFact_169 (t := 178) rfl (by omega) ?_
          refine w_lo dX5_readFact_178 rfl rfl rfl rfl ?_
          refine w_iv dX5_readFact_179 rfl rfl (As := []) rfl rfl hJ.1.1 zs_2 (Nat.le_of_ble_eq_true rfl) ?_
          obtain ⟨P184, hp185, hb⟩ := hb
          replace hb : zHd _ := hb
          refine ZV.imp (u_1289 hN hJ.1 hp185) ?_
          rintro _ ⟨M182, rfl, hJ183, hq186⟩
          replace hb : zHd _ := hb  (zi M182) (zi_fr hJ183.2) hq186
          have hJ188 := zJ_trans hJ hJ183 (zSub_cons (fun _ _ h h' hk => zIR_s (zIR_s (zIR_s (zIR_s (zIR_s (zIR_s (zIR_e (by omega) (by omega) hk))))))) zSub_nil)
          show ZW _ _ _ _ _ _ _ (182, [some (.ref 2), some (.int 4), some (.int v167_2), some (.int s167_0)], [], M182)
          refine w_lo dX5_readFact_182 rfl rfl rfl rfl ?_
          refine w_lo dX5_readFact_183 rfl rfl rfl rfl ?_
          refine w_iv dX5_readFact_184 rfl rfl (As := [.int 4]) rfl rfl hJ188.1.1 zs_2 (Nat.le_of_ble_eq_true rfl) ?_
          obtain ⟨P191, hp192, hb⟩ := hb
          replace hb : zHd _ := hb
          refine ZV.imp (u_1297_c4 hN hJ188.1 hp192) ?_
          rintro _ ⟨x194, M189, rfl, h195, h196, hJ190, hq193⟩
          replace hb : zHd _ := hb x194.toInt h195 h196 (zi M189) (zi_fr hJ190.2) hq193
          have hJ198 := zJ_trans hJ188 hJ190 (zSub_cons (fun _ _ h h' hk => zIR_e (by omega) (by omega) hk) (zSub_cons (fun _ _ h h' hk => zIR_s (zIR_e (by omega) (by omega) hk)) (zSub_cons (fun _ _ h h' hk => zIR_s (zIR_s (zIR_e (by omega) (by omega) hk))) (zSub_cons (fun _ _ h h' hk => zIR_s (zIR_s (zIR_s (zIR_e (by omega) (by omega) hk)))) (zSub_cons (fun _ _ h h' hk => zIR_s (zIR_s (zIR_s (zIR_s (zIR_a (by omega) (by omega)))))) (zSub_cons (fun _ _ h h' hk => zIR_s (zIR_s (zIR_s (zIR_s (zIR_s (zIR_a (by omega) (by omega))))))) (zSub_cons (fun _ _ h h' hk => zIR_s (zIR_s (zIR_s (zIR_s (zIR_s (zIR_s (zIR_e (by omega) (by omega) hk))))))) zSub_nil)))))))
          show ZW _ _ _ _ _ _ _ (187, [some (.ref 2), some (.int 4), some (.int v167_2), some (.int s167_0)], [.int x194], M189)
          rcases Int.decEq x194.toInt (0 : Int) with h199 | h199
          · skip
            replace hb : zHd _ := hb.1 h199
            refine w_ine_t dX5_readFact_187 (t := 192) rfl (by omega) ?_
            refine w_lo dX5_readFact_192 rfl rfl rfl rfl ?_
            obtain ⟨b200, f201, h202⟩ := zd_2_8 hJ198.1
            have h203 := zDm_b h202
            refine w_gf dX5_readFact_193 rfl hJ198.1.1 zs_2 f201 ?_
            replace hb : zHd _ := hb b200 (ziR f201) (zDm_or h202)
            refine w_gf dX5_readFact_196 rfl hJ198.1.1 (zs_1_0 h202) (zr_1_0_15 h202 hJ198.1) ?_
            refine w_lo dX5_readFact_199 rfl rfl rfl rfl ?_
            refine w_iv dX5_readFact_200 rfl rfl (As := [.int s167_0]) rfl rfl hJ198.1.1 (zs_1_13 h202) (Nat.le_of_ble_eq_true rfl) ?_
            obtain ⟨P206, hp207, hb⟩ := hb
            replace hb : zHd _ := hb
            refine ZV.imp (u_515 (b200 + 13) (zLw_of h202) s167_0 hN hJ198.1 hp207) ?_
            rintro _ ⟨M204, rfl, hJ205, hq208⟩
            replace hb : zHd _ := hb  (zi M204) (zi_fr hJ205.2) hq208
            have hJ210 := zJ_trans hJ198 hJ205 (zSub_cons (fun _ _ h h' hk => ((zDm_or h202).elim (fun e => zIR_s (zIR_s (zIR_e (by omega) (by omega) hk))) (fun e => zIR_s (zIR_s (zIR_s (zIR_e (by omega) (by omega) hk)))))) (zSub_cons (fun _ _ h h' hk => ((zDm_or h202).elim (fun e => zIR_s (zIR_s (zIR_s (zIR_s (zIR_a (by omega) (by omega)))))) (fun e => zIR_s (zIR_s (zIR_s (zIR_s (zIR_s (zIR_a (by omega) (by omega))))))))) zSub_nil))
            show ZW _ _ _ _ _ _ _ (203, [some (.ref 2), some (.int 4), some (.int v167_2), some (.int s167_0)], [], M204)
            refine w_lo dX5_readFact_203 rfl rfl rfl rfl ?_
            refine w_ic dX5_readFact_204 zi_2 ?_
            refine w_remE dX5_readFact_205 (by omega) (by have := zt_2; omega) ?_
            intro x211 h212 h213 h214
            have := zt_2
            replace hb : zHd _ := hb x211.toInt h212 (by omega) (by rw [h214, zt_2])
            refine w_ic dX5_readFact_206 zi_1 ?_
            rcases Int.decEq x211.toInt (1 : Int) with h215 | h215
            · skip
              replace hb : zHd _ := hb.1 h215
              refine w_cne_t dX5_readFact_207 (t := 222) rfl (by have := zt_1; omega) ?_
              refine w_ic dX5_readFact_222 zi_1 ?_
              refine w_en dX5_readFact_223 rfl ?_
              exact ⟨_, _, rfl, (by have := zt_1; omega), (by have := zt_1; omega), hJ210, hb⟩
            · skip
              replace hb : zHd _ := hb.2 h215
              refine w_cne_f dX5_readFact_207 (t := 222) rfl (by have := zt_1; omega) ?_
              refine w_lo dX5_readFact_210 rfl rfl rfl rfl ?_
              have f216 := (hJ205.2 (2) 8 (zNI_k (by decide) (by decide) (zNI (by omega) zNI_nil))).trans (f201)
              refine w_gf dX5_readFact_211 rfl hJ210.1.1 zs_2 f216 ?_
              refine w_gf dX5_readFact_214 rfl hJ210.1.1 (zs_1_0 h202) (zr_1_0_15 h202 hJ210.1) ?_
              refine w_bi dX5_readFact_217 (c := (-8)) (by decide) ?_
              refine w_iv dX5_readFact_219 rfl rfl (As := [.int (-8)]) rfl rfl hJ210.1.1 (zs_1_13 h202) (Nat.le_of_ble_eq_true rfl) ?_
              obtain ⟨P219, hp220, hb⟩ := hb
              replace hb : zHd _ := hb
              have hp220c : b_515 (b200 + 13) (zi M204) ((-8) : Int32).toInt P219 := by rw [zt_m8]; exact hp220
              refine ZV.imp (u_515 (b200 + 13) (zLw_of h202) (-8) hN hJ210.1 hp220c) ?_
              rintro _ ⟨M217, rfl, hJ218, hq221⟩
              replace hb : zHd _ := hb  (zi M217) (zi_fr hJ218.2) hq221
              have hJ223 := zJ_trans hJ210 hJ218 (zSub_cons (fun _ _ h h' hk => ((zDm_or h202).elim (fun e => zIR_s (zIR_s (zIR_e (by omega) (by omega) hk))) (fun e => zIR_s (zIR_s (zIR_s (zIR_e (by omega) (by omega) hk)))))) (zSub_cons (fun _ _ h h' hk => ((zDm_or h202).elim (fun e => zIR_s (zIR_s (zIR_s (zIR_s (zIR_a (by omega) (by omega)))))) (fun e => zIR_s (zIR_s (zIR_s (zIR_s (zIR_s (zIR_a (by omega) (by omega))))))))) zSub_nil))
              show ZW _ _ _ _ _ _ _ (222, [some (.ref 2), some (.int 4), some (.int v167_2), some (.int s167_0)], [], M217)
              refine w_ic dX5_readFact_222 zi_1 ?_
              refine w_en dX5_readFact_223 rfl ?_
              exact ⟨_, _, rfl, (by have := zt_1; omega), (by have := zt_1; omega), hJ223, hb⟩
          · skip
            replace hb : zHd _ := hb.2 h199
            refine w_ine_f dX5_readFact_187 (t := 192) rfl (by omega) ?_
            refine w_ic dX5_readFact_190 zi_0 ?_
            refine w_en dX5_readFact_191 rfl ?_
            exact ⟨_, _, rfl, (by have := zt_0; omega), (by have := zt_0; omega), hJ198, hb⟩
        · skip
          replace hb : zHd _ := hb.2 h181
          refine w_ine_f dX5_readFact_169 (t := 178) rfl (by omega) ?_
          refine w_lo dX5_readFact_172 rfl rfl rfl rfl ?_
          refine w_ic dX5_readFact_173 zi_1 ?_
          refine w_iv dX5_readFact_174 rfl rfl (As := [.int 1]) rfl rfl hJ.1.1 zs_2 (Nat.le_of_ble_eq_true rfl) ?_
          obtain ⟨P226, hp227, hb⟩ := hb
          replace hb : zHd _ := hb
          have hp227c : b_1286 (zi M) (1 : Int32).toInt P226 := by rw [zt_1]; exact hp227
          refine ZV.imp (u_1286 1 (by have := zt_1; omega) (by have := zt_1; omega) hN hJ.1 hp227c) ?_
          rintro _ ⟨x229, M224, rfl, h230, h231, hJ225, hq228⟩
          replace hb : zHd _ := hb x229.toInt h230 h231 (zi M224) (zi_fr hJ225.2) hq228
          have hJ233 := zJ_trans hJ hJ225 (zSub_cons (fun _ _ h h' hk => zIR_e (by omega) (by omega) hk) (zSub_cons (fun _ _ h h' hk => zIR_s (zIR_e (by omega) (by omega) hk)) zSub_nil))
          show ZW _ _ _ _ _ _ _ (177, [some (.ref 2), some (.int 4), some (.int v167_2), some (.int s167_0)], [.int x229], M224)
          refine w_eni dX5_readFact_177 rfl (znb (by omega) (by omega)) ?_
          exact ⟨_, _, rfl, (by omega), (by omega), hJ233, hb⟩
  have hb : zHd _ := hbE
  show ZW _ _ _ _ _ _ _ (0, [some (.ref 2), some (.int 4), none, none], [], M0)
  refine w_ic dX5_readFact_0 zi_0 ?_
  refine w_lo (ml' := [some (.ref 2), some (.int 4), some (.int 0), none]) dX5_readFact_1 rfl rfl rfl rfl ?_
  obtain ⟨m, hI⟩ := hb
  exact (main m).1 M0 0 none hJ0 (by have := zt_0; omega) (by have := zt_0; omega) hI
set_option maxRecDepth 100000 in
theorem u_1300_c4 {X : List Int32} {d N : Nat} {M0 : zM}  (hN : N ≤ 600) (hB0 : zB N M0) {Q : Int → zF → Prop} (hb : b_1300_c4 (zi M0) Q) : ZV X (d + 13) 1300 [.ref 2, .int 4] M0 (zRI N [(2, 3, 0), (2, 3, 1), (20, 21, 1), (41, 42, 1), (21, 22, 1000), (42, 43, 1000), (2, 3, 7)] M0 (0) (1) (fun v M' => Q v.toInt (zi M'))) := by
  have hJ0 : zJ N [(2, 3, 0), (2, 3, 1), (20, 21, 1), (41, 42, 1), (21, 22, 1000), (42, 43, 1000), (2, 3, 7)] M0 M0 := zJ_refl hB0
  refine ZV.of (ini := false) rfl (Nat.le_of_ble_eq_true rfl) (by decide +kernel) ?_
  obtain ⟨I2, I11, I44, I66, hbE, hb2, hb11, hb44, hb66⟩ := hb
  replace hbE : zHd _ := hbE
  replace hb2 : zHd _ := hb2
  replace hb11 : zHd _ := hb11
  replace hb44 : zHd _ := hb44
  replace hb66 : zHd _ := hb66
  have main : ∀ n : Nat,
      (∀ (M : zM) (v2_2 : Int32) (o2_3 : Option Value), zJ N [(2, 3, 0), (2, 3, 1), (20, 21, 1), (41, 42, 1), (21, 22, 1000), (42, 43, 1000), (2, 3, 7)] M0 M → ((0 : Int) ≤ v2_2.toInt) → (v2_2.toInt ≤ 1601) → I2 n (zi M) v2_2.toInt → ZW X (d + 12) 5 false (some .boolean) cX5_readTest (zRI N [(2, 3, 0), (2, 3, 1), (20, 21, 1), (41, 42, 1), (21, 22, 1000), (42, 43, 1000), (2, 3, 7)] M0 (0) (1) (fun v M' => Q v.toInt (zi M'))) (2, [some (.ref 2), some (.int 4), some (.int v2_2), o2_3], [], M)) ∧
      (∀ (M : zM) (v11_2 : Int32) (v11_3 : Int32), zJ N [(2, 3, 0), (2, 3, 1), (20, 21, 1), (41, 42, 1), (21, 22, 1000), (42, 43, 1000), (2, 3, 7)] M0 M → ((0 : Int) ≤ v11_2.toInt) → (v11_2.toInt ≤ 1600) → ((0 : Int) ≤ v11_3.toInt) → (v11_3.toInt ≤ 1601) → I11 n (zi M) v11_2.toInt v11_3.toInt → ZW X (d + 12) 5 false (some .boolean) cX5_readTest (zRI N [(2, 3, 0), (2, 3, 1), (20, 21, 1), (41, 42, 1), (21, 22, 1000), (42, 43, 1000), (2, 3, 7)] M0 (0) (1) (fun v M' => Q v.toInt (zi M'))) (11, [some (.ref 2), some (.int 4), some (.int v11_2), some (.int v11_3)], [], M)) ∧
      (∀ (M : zM) (v44_2 : Int32) (v44_3 : Int32), zJ N [(2, 3, 0), (2, 3, 1), (20, 21, 1), (41, 42, 1), (21, 22, 1000), (42, 43, 1000), (2, 3, 7)] M0 M → ((0 : Int) ≤ v44_2.toInt) → (v44_2.toInt ≤ 1600) → ((0 : Int) ≤ v44_3.toInt) → (v44_3.toInt ≤ 1600) → I44 n (zi M) v44_2.toInt v44_3.toInt → ZW X (d + 12) 5 false (some .boolean) cX5_readTest (zRI N [(2, 3, 0), (2, 3, 1), (20, 21, 1), (41, 42, 1), (21, 22, 1000), (42, 43, 1000), (2, 3, 7)] M0 (0) (1) (fun v M' => Q v.toInt (zi M'))) (44, [some (.ref 2), some (.int 4), some (.int v44_2), some (.int v44_3)], [], M)) ∧
      (∀ (M : zM) (v66_2 : Int32) (u66_3 : Int32), zJ N [(2, 3, 0), (2, 3, 1), (20, 21, 1), (41, 42, 1), (21, 22, 1000), (42, 43, 1000), (2, 3, 7)] M0 M → ((0 : Int) ≤ v66_2.toInt) → (v66_2.toInt ≤ 1600) → I66 n (zi M) v66_2.toInt → ZW X (d + 12) 5 false (some .boolean) cX5_readTest (zRI N [(2, 3, 0), (2, 3, 1), (20, 21, 1), (41, 42, 1), (21, 22, 1000), (42, 43, 1000), (2, 3, 7)] M0 (0) (1) (fun v M' => Q v.toInt (zi M'))) (66, [some (.ref 2), some (.int 4), some (.int v66_2), some (.int u66_3)], [], M)) := by
    intro n
    induction n using Nat.strongRecOn with
    | _ n ih =>
      refine ⟨?_, ?_, ?_, ?_⟩
      · intro M v2_2 o2_3 hJ v2_20 v2_21 hI
        have hb : zHd _ := hb2 n (zi M) v2_2.toInt (zi_fr hJ.2) v2_20 v2_21 hI
        refine w_lo dX5_readTest_2 rfl rfl rfl rfl ?_
        refine w_si dX5_readTest_3 (c := 1600) (by decide) ?_
        rcases zcut (1600 : Int) v2_2.toInt with h1 | h1
        · skip
          replace hb : zHd _ := hb.1 h1
          refine w_cgt_t dX5_readTest_6 (t := 104) rfl (by have := zt_1600; omega) ?_
          refine w_ic dX5_readTest_104 zi_1 ?_
          refine w_en dX5_readTest_105 rfl ?_
          exact ⟨_, _, rfl, (by have := zt_1; omega), (by have := zt_1; omega), hJ, hb⟩
        · skip
          replace hb : zHd _ := hb.2 h1
          refine w_cgt_f dX5_readTest_6 (t := 104) rfl (by have := zt_1600; omega) ?_
          refine w_ic dX5_readTest_9 zi_0 ?_
          refine w_lo (ml' := [some (.ref 2), some (.int 4), some (.int v2_2), some (.int 0)]) dX5_readTest_10 rfl rfl rfl rfl ?_
          obtain ⟨m, hm, hI⟩ := hb
          exact (ih m hm).2.1 M v2_2 0 hJ (by omega) (by omega) (by have := zt_0; omega) (by have := zt_0; omega) hI
      · intro M v11_2 v11_3 hJ v11_20 v11_21 v11_30 v11_31 hI
        have hb : zHd _ := hb11 n (zi M) v11_2.toInt v11_3.toInt (zi_fr hJ.2) v11_20 v11_21 v11_30 v11_31 hI
        refine w_lo dX5_readTest_11 rfl rfl rfl rfl ?_
        refine w_si dX5_readTest_12 (c := 1600) (by decide) ?_
        rcases zcut (1600 : Int) v11_3.toInt with h2 | h2
        · skip
          replace hb : zHd _ := hb.1 h2
          refine w_cgt_t dX5_readTest_15 (t := 66) rfl (by have := zt_1600; omega) ?_
          obtain ⟨m, hm, hI⟩ := hb
          exact (ih m hm).2.2.2 M v11_2 v11_3 hJ (by omega) (by omega) hI
        · skip
          replace hb : zHd _ := hb.2 h2
          refine w_cgt_f dX5_readTest_15 (t := 66) rfl (by have := zt_1600; omega) ?_
          refine w_lo dX5_readTest_18 rfl rfl rfl rfl ?_
          refine w_lo dX5_readTest_19 rfl rfl rfl rfl ?_
          refine w_iv dX5_readTest_20 rfl rfl (As := [.int 4]) rfl rfl hJ.1.1 zs_2 (Nat.le_of_ble_eq_true rfl) ?_
          obtain ⟨P5, hp6, hb⟩ := hb
          replace hb : zHd _ := hb
          refine ZV.imp (u_1301_c4 hN hJ.1 hp6) ?_
          rintro _ ⟨x8, M3, rfl, h9, h10, hJ4, hq7⟩
          replace hb : zHd _ := hb x8.toInt h9 h10 (zi M3) (zi_fr hJ4.2) hq7
          have hJ12 := zJ_trans hJ hJ4 (zSub_cons (fun _ _ h h' hk => zIR_e (by omega) (by omega) hk) (zSub_cons (fun _ _ h h' hk => zIR_s (zIR_e (by omega) (by omega) hk)) (zSub_cons (fun _ _ h h' hk => zIR_s (zIR_s (zIR_e (by omega) (by omega) hk))) (zSub_cons (fun _ _ h h' hk => zIR_s (zIR_s (zIR_s (zIR_e (by omega) (by omega) hk)))) (zSub_cons (fun _ _ h h' hk => zIR_s (zIR_s (zIR_s (zIR_s (zIR_a (by omega) (by omega)))))) (zSub_cons (fun _ _ h h' hk => zIR_s (zIR_s (zIR_s (zIR_s (zIR_s (zIR_a (by omega) (by omega))))))) (zSub_cons (fun _ _ h h' hk => zIR_s (zIR_s (zIR_s (zIR_s (zIR_s (zIR_s (zIR_e (by omega) (by omega) hk))))))) zSub_nil)))))))
          show ZW _ _ _ _ _ _ _ (23, [some (.ref 2), some (.int 4), some (.int v11_2), some (.int v11_3)], [.int x8], M3)
          rcases Int.decEq x8.toInt (0 : Int) with h13 | h13
          · skip
            replace hb : zHd _ := hb.1 h13
            refine w_ine_t dX5_readTest_23 (t := 28) rfl (by omega) ?_
            refine w_lo dX5_readTest_28 rfl rfl rfl rfl ?_
            rcases zcut (0 : Int) v11_3.toInt with h14 | h14
            · skip
              replace hb : zHd _ := hb.1 h14
              refine w_ile_f dX5_readTest_29 (t := 44) rfl (by omega) ?_
              refine w_lo dX5_readTest_32 rfl rfl rfl rfl ?_
              obtain ⟨b15, f16, h17⟩ := zd_2_8 hJ12.1
              have h18 := zDm_b h17
              refine w_gf dX5_readTest_33 rfl hJ12.1.1 zs_2 f16 ?_
              replace hb : zHd _ := hb b15 (ziR f16) (zDm_or h17)
              refine w_gf dX5_readTest_36 rfl hJ12.1.1 (zs_1_0 h17) (zr_1_0_15 h17 hJ12.1) ?_
              refine w_bi dX5_readTest_39 (c := (-17)) (by decide) ?_
              refine w_iv dX5_readTest_41 rfl rfl (As := [.int (-17)]) rfl rfl hJ12.1.1 (zs_1_13 h17) (Nat.le_of_ble_eq_true rfl) ?_
              obtain ⟨P21, hp22, hb⟩ := hb
              replace hb : zHd _ := hb
              have hp22c : b_515 (b15 + 13) (zi M3) ((-17) : Int32).toInt P21 := by rw [zt_m17]; exact hp22
              refine ZV.imp (u_515 (b15 + 13) (zLw_of h17) (-17) hN hJ12.1 hp22c) ?_
              rintro _ ⟨M19, rfl, hJ20, hq23⟩
              replace hb : zHd _ := hb  (zi M19) (zi_fr hJ20.2) hq23
              have hJ25 := zJ_trans hJ12 hJ20 (zSub_cons (fun _ _ h h' hk => ((zDm_or h17).elim (fun e => zIR_s (zIR_s (zIR_e (by omega) (by omega) hk))) (fun e => zIR_s (zIR_s (zIR_s (zIR_e (by omega) (by omega) hk)))))) (zSub_cons (fun _ _ h h' hk => ((zDm_or h17).elim (fun e => zIR_s (zIR_s (zIR_s (zIR_s (zIR_a (by omega) (by omega)))))) (fun e => zIR_s (zIR_s (zIR_s (zIR_s (zIR_s (zIR_a (by omega) (by omega))))))))) zSub_nil))
              show ZW _ _ _ _ _ _ _ (44, [some (.ref 2), some (.int 4), some (.int v11_2), some (.int v11_3)], [], M19)
              obtain ⟨m, hm, hI⟩ := hb
              exact (ih m hm).2.2.1 M19 v11_2 v11_3 hJ25 (by omega) (by omega) (by omega) (by omega) hI
            · skip
              replace hb : zHd _ := hb.2 h14
              refine w_ile_t dX5_readTest_29 (t := 44) rfl (by omega) ?_
              obtain ⟨m, hm, hI⟩ := hb
              exact (ih m hm).2.2.1 M3 v11_2 v11_3 hJ12 (by omega) (by omega) (by omega) (by omega) hI
          · skip
            replace hb : zHd _ := hb.2 h13
            refine w_ine_f dX5_readTest_23 (t := 28) rfl (by omega) ?_
            refine w_ic dX5_readTest_26 zi_0 ?_
            refine w_en dX5_readTest_27 rfl ?_
            exact ⟨_, _, rfl, (by have := zt_0; omega), (by have := zt_0; omega), hJ12, hb⟩
      · intro M v44_2 v44_3 hJ v44_20 v44_21 v44_30 v44_31 hI
        have hb : zHd _ := hb44 n (zi M) v44_2.toInt v44_3.toInt (zi_fr hJ.2) v44_20 v44_21 v44_30 v44_31 hI
        refine w_lo dX5_readTest_44 rfl rfl rfl rfl ?_
        refine w_iv dX5_readTest_45 rfl rfl (As := []) rfl rfl hJ.1.1 zs_2 (Nat.le_of_ble_eq_true rfl) ?_
        obtain ⟨P28, hp29, hb⟩ := hb
        replace hb : zHd _ := hb
        refine ZV.imp (u_1287 hN hJ.1 hp29) ?_
        rintro _ ⟨x31, M26, rfl, h32, h33, hJ27, hq30⟩
        replace hb : zHd _ := hb x31.toInt h32 h33 (zi M26) (zi_fr hJ27.2) hq30
        have hJ35 := zJ_trans hJ hJ27 zSub_nil
        show ZW _ _ _ _ _ _ _ (48, [some (.ref 2), some (.int 4), some (.int v44_2), some (.int v44_3)], [.int x31], M26)
        refine w_bi dX5_readTest_48 (c := 22) (by decide) ?_
        rcases Int.decEq x31.toInt (22 : Int) with h36 | h36
        · skip
          replace hb : zHd _ := hb.1 h36
          refine w_ceq_f dX5_readTest_50 (t := 56) rfl (by have := zt_22; omega) ?_
          refine w_gt dX5_readTest_53 (t := 66) rfl ?_
          obtain ⟨m, hm, hI⟩ := hb
          exact (ih m hm).2.2.2 M26 v44_2 v44_3 hJ35 (by omega) (by omega) hI
        · skip
          replace hb : zHd _ := hb.2 h36
          refine w_ceq_t dX5_readTest_50 (t := 56) rfl (by have := zt_22; omega) ?_
          refine w_lo dX5_readTest_56 rfl rfl rfl rfl ?_
          refine w_iv dX5_readTest_57 rfl rfl (As := []) rfl rfl hJ35.1.1 zs_2 (Nat.le_of_ble_eq_true rfl) ?_
          obtain ⟨P39, hp40, hb⟩ := hb
          replace hb : zHd _ := hb
          refine ZV.imp (u_1289 hN hJ35.1 hp40) ?_
          rintro _ ⟨M37, rfl, hJ38, hq41⟩
          replace hb : zHd _ := hb  (zi M37) (zi_fr hJ38.2) hq41
          have hJ43 := zJ_trans hJ35 hJ38 (zSub_cons (fun _ _ h h' hk => zIR_s (zIR_s (zIR_s (zIR_s (zIR_s (zIR_s (zIR_e (by omega) (by omega) hk))))))) zSub_nil)
          show ZW _ _ _ _ _ _ _ (60, [some (.ref 2), some (.int 4), some (.int v44_2), some (.int v44_3)], [], M37)
          refine w_inc (kk := 3) dX5_readTest_60 rfl (m := 1) (by decide) (by omega) ?_
          intro x44 h45
          refine ⟨_, rfl, ?_⟩
          replace hb : zHd _ := hb x44.toInt h45
          show ZW _ _ _ _ _ _ _ (63, [some (.ref 2), some (.int 4), some (.int v44_2), some (.int x44)], [], M37)
          refine w_gt dX5_readTest_63 (t := 11) rfl ?_
          obtain ⟨m, hm, hI⟩ := hb
          exact (ih m hm).2.1 M37 v44_2 x44 hJ43 (by omega) (by omega) (by omega) (by omega) hI
      · intro M v66_2 u66_3 hJ v66_20 v66_21 hI
        have hb : zHd _ := hb66 n (zi M) v66_2.toInt (zi_fr hJ.2) v66_20 v66_21 hI
        refine w_lo dX5_readTest_66 rfl rfl rfl rfl ?_
        rcases zcut (0 : Int) v66_2.toInt with h46 | h46
        · skip
          replace hb : zHd _ := hb.1 h46
          refine w_ile_f dX5_readTest_67 (t := 82) rfl (by omega) ?_
          refine w_lo dX5_readTest_70 rfl rfl rfl rfl ?_
          obtain ⟨b47, f48, h49⟩ := zd_2_8 hJ.1
          have h50 := zDm_b h49
          refine w_gf dX5_readTest_71 rfl hJ.1.1 zs_2 f48 ?_
          replace hb : zHd _ := hb b47 (ziR f48) (zDm_or h49)
          refine w_gf dX5_readTest_74 rfl hJ.1.1 (zs_1_0 h49) (zr_1_0_15 h49 hJ.1) ?_
          refine w_bi dX5_readTest_77 (c := (-18)) (by decide) ?_
          refine w_iv dX5_readTest_79 rfl rfl (As := [.int (-18)]) rfl rfl hJ.1.1 (zs_1_13 h49) (Nat.le_of_ble_eq_true rfl) ?_
          obtain ⟨P53, hp54, hb⟩ := hb
          replace hb : zHd _ := hb
          have hp54c : b_515 (b47 + 13) (zi M) ((-18) : Int32).toInt P53 := by rw [zt_m18]; exact hp54
          refine ZV.imp (u_515 (b47 + 13) (zLw_of h49) (-18) hN hJ.1 hp54c) ?_
          rintro _ ⟨M51, rfl, hJ52, hq55⟩
          replace hb : zHd _ := hb  (zi M51) (zi_fr hJ52.2) hq55
          have hJ57 := zJ_trans hJ hJ52 (zSub_cons (fun _ _ h h' hk => ((zDm_or h49).elim (fun e => zIR_s (zIR_s (zIR_e (by omega) (by omega) hk))) (fun e => zIR_s (zIR_s (zIR_s (zIR_e (by omega) (by omega) hk)))))) (zSub_cons (fun _ _ h h' hk => ((zDm_or h49).elim (fun e => zIR_s (zIR_s (zIR_s (zIR_s (zIR_a (by omega) (by omega)))))) (fun e => zIR_s (zIR_s (zIR_s (zIR_s (zIR_s (zIR_a (by omega) (by omega))))))))) zSub_nil))
          show ZW _ _ _ _ _ _ _ (82, [some (.ref 2), some (.int 4), some (.int v66_2), some (.int u66_3)], [], M51)
          refine w_lo dX5_readTest_82 rfl rfl rfl rfl ?_
          refine w_iv dX5_readTest_83 rfl rfl (As := []) rfl rfl hJ57.1.1 zs_2 (Nat.le_of_ble_eq_true rfl) ?_
          obtain ⟨P60, hp61, hb⟩ := hb
          replace hb : zHd _ := hb
          refine ZV.imp (u_1287 hN hJ57.1 hp61) ?_
          rintro _ ⟨x63, M58, rfl, h64, h65, hJ59, hq62⟩
          replace hb : zHd _ := hb x63.toInt h64 h65 (zi M58) (zi_fr hJ59.2) hq62
          have hJ67 := zJ_trans hJ57 hJ59 zSub_nil
          show ZW _ _ _ _ _ _ _ (86, [some (.ref 2), some (.int 4), some (.int v66_2), some (.int u66_3)], [.int x63], M58)
          refine w_bi dX5_readTest_86 (c := 21) (by decide) ?_
          rcases Int.decEq x63.toInt (21 : Int) with h68 | h68
          · skip
            replace hb : zHd _ := hb.1 h68
            refine w_ceq_f dX5_readTest_88 (t := 94) rfl (by have := zt_21; omega) ?_
            refine w_gt dX5_readTest_91 (t := 104) rfl ?_
            refine w_ic dX5_readTest_104 zi_1 ?_
            refine w_en dX5_readTest_105 rfl ?_
            exact ⟨_, _, rfl, (by have := zt_1; omega), (by have := zt_1; omega), hJ67, hb⟩
          · skip
            replace hb : zHd _ := hb.2 h68
            refine w_ceq_t dX5_readTest_88 (t := 94) rfl (by have := zt_21; omega) ?_
            refine w_lo dX5_readTest_94 rfl rfl rfl rfl ?_
            refine w_iv dX5_readTest_95 rfl rfl (As := []) rfl rfl hJ67.1.1 zs_2 (Nat.le_of_ble_eq_true rfl) ?_
            obtain ⟨P71, hp72, hb⟩ := hb
            replace hb : zHd _ := hb
            refine ZV.imp (u_1289 hN hJ67.1 hp72) ?_
            rintro _ ⟨M69, rfl, hJ70, hq73⟩
            replace hb : zHd _ := hb  (zi M69) (zi_fr hJ70.2) hq73
            have hJ75 := zJ_trans hJ67 hJ70 (zSub_cons (fun _ _ h h' hk => zIR_s (zIR_s (zIR_s (zIR_s (zIR_s (zIR_s (zIR_e (by omega) (by omega) hk))))))) zSub_nil)
            show ZW _ _ _ _ _ _ _ (98, [some (.ref 2), some (.int 4), some (.int v66_2), some (.int u66_3)], [], M69)
            refine w_inc (kk := 2) dX5_readTest_98 rfl (m := 1) (by decide) (by omega) ?_
            intro x76 h77
            refine ⟨_, rfl, ?_⟩
            replace hb : zHd _ := hb x76.toInt h77
            show ZW _ _ _ _ _ _ _ (101, [some (.ref 2), some (.int 4), some (.int x76), some (.int u66_3)], [], M69)
            refine w_gt dX5_readTest_101 (t := 2) rfl ?_
            obtain ⟨m, hm, hI⟩ := hb
            exact (ih m hm).1 M69 x76 (some (.int u66_3)) hJ75 (by omega) (by omega) hI
        · skip
          replace hb : zHd _ := hb.2 h46
          refine w_ile_t dX5_readTest_67 (t := 82) rfl (by omega) ?_
          refine w_lo dX5_readTest_82 rfl rfl rfl rfl ?_
          refine w_iv dX5_readTest_83 rfl rfl (As := []) rfl rfl hJ.1.1 zs_2 (Nat.le_of_ble_eq_true rfl) ?_
          obtain ⟨P80, hp81, hb⟩ := hb
          replace hb : zHd _ := hb
          refine ZV.imp (u_1287 hN hJ.1 hp81) ?_
          rintro _ ⟨x83, M78, rfl, h84, h85, hJ79, hq82⟩
          replace hb : zHd _ := hb x83.toInt h84 h85 (zi M78) (zi_fr hJ79.2) hq82
          have hJ87 := zJ_trans hJ hJ79 zSub_nil
          show ZW _ _ _ _ _ _ _ (86, [some (.ref 2), some (.int 4), some (.int v66_2), some (.int u66_3)], [.int x83], M78)
          refine w_bi dX5_readTest_86 (c := 21) (by decide) ?_
          rcases Int.decEq x83.toInt (21 : Int) with h88 | h88
          · skip
            replace hb : zHd _ := hb.1 h88
            refine w_ceq_f dX5_readTest_88 (t := 94) rfl (by have := zt_21; omega) ?_
            refine w_gt dX5_readTest_91 (t := 104) rfl ?_
            refine w_ic dX5_readTest_104 zi_1 ?_
            refine w_en dX5_readTest_105 rfl ?_
            exact ⟨_, _, rfl, (by have := zt_1; omega), (by have := zt_1; omega), hJ87, hb⟩
          · skip
            replace hb : zHd _ := hb.2 h88
            refine w_ceq_t dX5_readTest_88 (t := 94) rfl (by have := zt_21; omega) ?_
            refine w_lo dX5_readTest_94 rfl rfl rfl rfl ?_
            refine w_iv dX5_readTest_95 rfl rfl (As := []) rfl rfl hJ87.1.1 zs_2 (Nat.le_of_ble_eq_true rfl) ?_
            obtain ⟨P91, hp92, hb⟩ := hb
            replace hb : zHd _ := hb
            refine ZV.imp (u_1289 hN hJ87.1 hp92) ?_
            rintro _ ⟨M89, rfl, hJ90, hq93⟩
            replace hb : zHd _ := hb  (zi M89) (zi_fr hJ90.2) hq93
            have hJ95 := zJ_trans hJ87 hJ90 (zSub_cons (fun _ _ h h' hk => zIR_s (zIR_s (zIR_s (zIR_s (zIR_s (zIR_s (zIR_e (by omega) (by omega) hk))))))) zSub_nil)
            show ZW _ _ _ _ _ _ _ (98, [some (.ref 2), some (.int 4), some (.int v66_2), some (.int u66_3)], [], M89)
            refine w_inc (kk := 2) dX5_readTest_98 rfl (m := 1) (by decide) (by omega) ?_
            intro x96 h97
            refine ⟨_, rfl, ?_⟩
            replace hb : zHd _ := hb x96.toInt h97
            show ZW _ _ _ _ _ _ _ (101, [some (.ref 2), some (.int 4), some (.int x96), some (.int u66_3)], [], M89)
            refine w_gt dX5_readTest_101 (t := 2) rfl ?_
            obtain ⟨m, hm, hI⟩ := hb
            exact (ih m hm).1 M89 x96 (some (.int u66_3)) hJ95 (by omega) (by omega) hI
  have hb : zHd _ := hbE
  show ZW _ _ _ _ _ _ _ (0, [some (.ref 2), some (.int 4), none, none], [], M0)
  refine w_ic dX5_readTest_0 zi_0 ?_
  refine w_lo (ml' := [some (.ref 2), some (.int 4), some (.int 0), none]) dX5_readTest_1 rfl rfl rfl rfl ?_
  obtain ⟨m, hI⟩ := hb
  exact (main m).1 M0 0 none hJ0 (by have := zt_0; omega) (by have := zt_0; omega) hI
set_option maxRecDepth 100000 in
theorem u_1301_c3 {X : List Int32} {d N : Nat} {M0 : zM}  (hN : N ≤ 600) (hB0 : zB N M0) {Q : Int → zF → Prop} (hb : b_1301_c3 (zi M0) Q) : ZV X (d + 14) 1301 [.ref 2, .int 3] M0 (zRI N [(2, 3, 0), (2, 3, 1), (20, 21, 1), (41, 42, 1), (21, 22, 1000), (42, 43, 1000), (2, 3, 7)] M0 (0) (1) (fun v M' => Q v.toInt (zi M'))) := by
  have hJ0 : zJ N [(2, 3, 0), (2, 3, 1), (20, 21, 1), (41, 42, 1), (21, 22, 1000), (42, 43, 1000), (2, 3, 7)] M0 M0 := zJ_refl hB0
  refine ZV.of (ini := false) rfl (Nat.le_of_ble_eq_true rfl) (by decide +kernel) ?_
  obtain ⟨I2, I28, I167, hbE, hb2, hb28, hb167⟩ := hb
  replace hbE : zHd _ := hbE
  replace hb2 : zHd _ := hb2
  replace hb28 : zHd _ := hb28
  replace hb167 : zHd _ := hb167
  have main : ∀ n : Nat,
      (∀ (M : zM) (v2_2 : Int32) (o2_3 : Option Value), zJ N [(2, 3, 0), (2, 3, 1), (20, 21, 1), (41, 42, 1), (21, 22, 1000), (42, 43, 1000), (2, 3, 7)] M0 M → ((0 : Int) ≤ v2_2.toInt) → (v2_2.toInt ≤ 1601) → I2 n (zi M) v2_2.toInt → ZW X (d + 13) 5 false (some .boolean) cX5_readFact (zRI N [(2, 3, 0), (2, 3, 1), (20, 21, 1), (41, 42, 1), (21, 22, 1000), (42, 43, 1000), (2, 3, 7)] M0 (0) (1) (fun v M' => Q v.toInt (zi M'))) (2, [some (.ref 2), some (.int 3), some (.int v2_2), o2_3], [], M)) ∧
      (∀ (M : zM) (v28_2 : Int32) (o28_3 : Option Value), zJ N [(2, 3, 0), (2, 3, 1), (20, 21, 1), (41, 42, 1), (21, 22, 1000), (42, 43, 1000), (2, 3, 7)] M0 M → ((0 : Int) ≤ v28_2.toInt) → (v28_2.toInt ≤ 1601) → I28 n (zi M) v28_2.toInt → ZW X (d + 13) 5 false (some .boolean) cX5_readFact (zRI N [(2, 3, 0), (2, 3, 1), (20, 21, 1), (41, 42, 1), (21, 22, 1000), (42, 43, 1000), (2, 3, 7)] M0 (0) (1) (fun v M' => Q v.toInt (zi M'))) (28, [some (.ref 2), some (.int 3), some (.int v28_2), o28_3], [], M)) ∧
      (∀ (M : zM) (v167_2 : Int32) (o167_3 : Option Value) (s167_0 : Int32), zJ N [(2, 3, 0), (2, 3, 1), (20, 21, 1), (41, 42, 1), (21, 22, 1000), (42, 43, 1000), (2, 3, 7)] M0 M → ((0 : Int) ≤ v167_2.toInt) → (v167_2.toInt ≤ 1601) → ((-16 : Int) ≤ s167_0.toInt) → (s167_0.toInt ≤ 0) → I167 n (zi M) v167_2.toInt s167_0.toInt → ZW X (d + 13) 5 false (some .boolean) cX5_readFact (zRI N [(2, 3, 0), (2, 3, 1), (20, 21, 1), (41, 42, 1), (21, 22, 1000), (42, 43, 1000), (2, 3, 7)] M0 (0) (1) (fun v M' => Q v.toInt (zi M'))) (167, [some (.ref 2), some (.int 3), some (.int v167_2), o167_3], [.int s167_0], M)) := by
    intro n
    induction n using Nat.strongRecOn with
    | _ n ih =>
      refine ⟨?_, ?_, ?_⟩
      · intro M v2_2 o2_3 hJ v2_20 v2_21 hI
        have hb : zHd _ := hb2 n (zi M) v2_2.toInt (zi_fr hJ.2) v2_20 v2_21 hI
        refine w_lo dX5_readFact_2 rfl rfl rfl rfl ?_
        refine w_si dX5_readFact_3 (c := 1600) (by decide) ?_
        rcases zcut (1600 : Int) v2_2.toInt with h1 | h1
        · skip
          replace hb : zHd _ := hb.1 h1
          refine w_cgt_t dX5_readFact_6 (t := 28) rfl (by have := zt_1600; omega) ?_
          obtain ⟨m, hm, hI⟩ := hb
          exact (ih m hm).2.1 M v2_2 o2_3 hJ (by omega) (by omega) hI
        · skip
          replace hb : zHd _ := hb.2 h1
          refine w_cgt_f dX5_readFact_6 (t := 28) rfl (by have := zt_1600; omega) ?_
          refine w_lo dX5_readFact_9 rfl rfl rfl rfl ?_
          refine w_iv dX5_readFact_10 rfl rfl (As := []) rfl rfl hJ.1.1 zs_2 (Nat.le_of_ble_eq_true rfl) ?_
          obtain ⟨P4, hp5, hb⟩ := hb
          replace hb : zHd _ := hb
          refine ZV.imp (u_1287 hN hJ.1 hp5) ?_
          rintro _ ⟨x7, M2, rfl, h8, h9, hJ3, hq6⟩
          replace hb : zHd _ := hb x7.toInt h8 h9 (zi M2) (zi_fr hJ3.2) hq6
          have hJ11 := zJ_trans hJ hJ3 zSub_nil
          show ZW _ _ _ _ _ _ _ (13, [some (.ref 2), some (.int 3), some (.int v2_2), o2_3], [.int x7], M2)
          refine w_bi dX5_readFact_13 (c := 23) (by decide) ?_
          rcases Int.decEq x7.toInt (23 : Int) with h12 | h12
          · skip
            replace hb : zHd _ := hb.1 h12
            refine w_cne_t dX5_readFact_15 (t := 28) rfl (by have := zt_23; omega) ?_
            obtain ⟨m, hm, hI⟩ := hb
            exact (ih m hm).2.1 M2 v2_2 o2_3 hJ11 (by omega) (by omega) hI
          · skip
            replace hb : zHd _ := hb.2 h12
            refine w_cne_f dX5_readFact_15 (t := 28) rfl (by have := zt_23; omega) ?_
            refine w_lo dX5_readFact_18 rfl rfl rfl rfl ?_
            refine w_iv dX5_readFact_19 rfl rfl (As := []) rfl rfl hJ11.1.1 zs_2 (Nat.le_of_ble_eq_true rfl) ?_
            obtain ⟨P15, hp16, hb⟩ := hb
            replace hb : zHd _ := hb
            refine ZV.imp (u_1289 hN hJ11.1 hp16) ?_
            rintro _ ⟨M13, rfl, hJ14, hq17⟩
            replace hb : zHd _ := hb  (zi M13) (zi_fr hJ14.2) hq17
            have hJ19 := zJ_trans hJ11 hJ14 (zSub_cons (fun _ _ h h' hk => zIR_s (zIR_s (zIR_s (zIR_s (zIR_s (zIR_s (zIR_e (by omega) (by omega) hk))))))) zSub_nil)
            show ZW _ _ _ _ _ _ _ (22, [some (.ref 2), some (.int 3), some (.int v2_2), o2_3], [], M13)
            refine w_inc (kk := 2) dX5_readFact_22 rfl (m := 1) (by decide) (by omega) ?_
            intro x20 h21
            refine ⟨_, rfl, ?_⟩
            replace hb : zHd _ := hb x20.toInt h21
            show ZW _ _ _ _ _ _ _ (25, [some (.ref 2), some (.int 3), some (.int x20), o2_3], [], M13)
            refine w_gt dX5_readFact_25 (t := 2) rfl ?_
            obtain ⟨m, hm, hI⟩ := hb
            exact (ih m hm).1 M13 x20 o2_3 hJ19 (by omega) (by omega) hI
      · intro M v28_2 o28_3 hJ v28_20 v28_21 hI
        have hb : zHd _ := hb28 n (zi M) v28_2.toInt (zi_fr hJ.2) v28_20 v28_21 hI
        refine w_lo dX5_readFact_28 rfl rfl rfl rfl ?_
        refine w_bi dX5_readFact_29 (c := 91) (by decide) ?_
        refine w_iv dX5_readFact_31 rfl rfl (As := [.int 91]) rfl rfl hJ.1.1 zs_2 (Nat.le_of_ble_eq_true rfl) ?_
        obtain ⟨P24, hp25, hb⟩ := hb
        replace hb : zHd _ := hb
        have hp25c : b_1299 (zi M) (91 : Int32).toInt P24 := by rw [zt_91]; exact hp25
        refine ZV.imp (u_1299 91 (by have := zt_91; omega) (by have := zt_91; omega) hN hJ.1 hp25c) ?_
        rintro _ ⟨x27, M22, rfl, h28, h29, hJ23, hq26⟩
        replace hb : zHd _ := hb x27.toInt h28 h29 (zi M22) (zi_fr hJ23.2) hq26
        have hJ31 := zJ_trans hJ hJ23 zSub_nil
        show ZW _ _ _ _ _ _ _ (34, [some (.ref 2), some (.int 3), some (.int v28_2), o28_3], [.int x27], M22)
        rcases Int.decEq x27.toInt (0 : Int) with h32 | h32
        · skip
          replace hb : zHd _ := hb.1 h32
          refine w_ieq_f dX5_readFact_34 (t := 87) rfl (by omega) ?_
          refine w_lo dX5_readFact_37 rfl rfl rfl rfl ?_
          refine w_bi dX5_readFact_38 (c := 8) (by decide) ?_
          refine w_clt_t dX5_readFact_40 (t := 49) rfl (by have := zt_3; have := zt_8; omega) ?_
          refine w_lo dX5_readFact_49 rfl rfl rfl rfl ?_
          refine w_iv dX5_readFact_50 rfl rfl (As := []) rfl rfl hJ31.1.1 zs_2 (Nat.le_of_ble_eq_true rfl) ?_
          obtain ⟨P35, hp36, hb⟩ := hb
          replace hb : zHd _ := hb
          refine ZV.imp (u_1289 hN hJ31.1 hp36) ?_
          rintro _ ⟨M33, rfl, hJ34, hq37⟩
          replace hb : zHd _ := hb  (zi M33) (zi_fr hJ34.2) hq37
          have hJ39 := zJ_trans hJ31 hJ34 (zSub_cons (fun _ _ h h' hk => zIR_s (zIR_s (zIR_s (zIR_s (zIR_s (zIR_s (zIR_e (by omega) (by omega) hk))))))) zSub_nil)
          show ZW _ _ _ _ _ _ _ (53, [some (.ref 2), some (.int 3), some (.int v28_2), o28_3], [], M33)
          refine w_lo dX5_readFact_53 rfl rfl rfl rfl ?_
          refine w_lo dX5_readFact_54 rfl rfl rfl rfl ?_
          refine w_ic dX5_readFact_55 zi_1 ?_
          refine w_pu (st' := [.int 4, .ref 2]) dX5_readFact_56 rfl rfl ?_
          refine w_iv dX5_readFact_57 rfl rfl (As := [.int 4]) rfl rfl hJ39.1.1 zs_2 (Nat.le_of_ble_eq_true rfl) ?_
          obtain ⟨P42, hp43, hb⟩ := hb
          replace hb : zHd _ := hb
          refine ZV.imp (u_1300_c4 hN hJ39.1 hp43) ?_
          rintro _ ⟨x45, M40, rfl, h46, h47, hJ41, hq44⟩
          replace hb : zHd _ := hb x45.toInt h46 h47 (zi M40) (zi_fr hJ41.2) hq44
          have hJ49 := zJ_trans hJ39 hJ41 (zSub_cons (fun _ _ h h' hk => zIR_e (by omega) (by omega) hk) (zSub_cons (fun _ _ h h' hk => zIR_s (zIR_e (by omega) (by omega) hk)) (zSub_cons (fun _ _ h h' hk => zIR_s (zIR_s (zIR_e (by omega) (by omega) hk))) (zSub_cons (fun _ _ h h' hk => zIR_s (zIR_s (zIR_s (zIR_e (by omega) (by omega) hk)))) (zSub_cons (fun _ _ h h' hk => zIR_s (zIR_s (zIR_s (zIR_s (zIR_a (by omega) (by omega)))))) (zSub_cons (fun _ _ h h' hk => zIR_s (zIR_s (zIR_s (zIR_s (zIR_s (zIR_a (by omega) (by omega))))))) (zSub_cons (fun _ _ h h' hk => zIR_s (zIR_s (zIR_s (zIR_s (zIR_s (zIR_s (zIR_e (by omega) (by omega) hk))))))) zSub_nil)))))))
          show ZW _ _ _ _ _ _ _ (60, [some (.ref 2), some (.int 3), some (.int v28_2), o28_3], [.int x45], M40)
          rcases Int.decEq x45.toInt (0 : Int) with h50 | h50
          · skip
            replace hb : zHd _ := hb.1 h50
            refine w_ine_t dX5_readFact_60 (t := 65) rfl (by omega) ?_
            refine w_lo dX5_readFact_65 rfl rfl rfl rfl ?_
            refine w_bi dX5_readFact_66 (c := 93) (by decide) ?_
            refine w_iv dX5_readFact_68 rfl rfl (As := [.int 93]) rfl rfl hJ49.1.1 zs_2 (Nat.le_of_ble_eq_true rfl) ?_
            obtain ⟨P53, hp54, hb⟩ := hb
            replace hb : zHd _ := hb
            have hp54c : b_1299 (zi M40) (93 : Int32).toInt P53 := by rw [zt_93]; exact hp54
            refine ZV.imp (u_1299 93 (by have := zt_93; omega) (by have := zt_93; omega) hN hJ49.1 hp54c) ?_
            rintro _ ⟨x56, M51, rfl, h57, h58, hJ52, hq55⟩
            replace hb : zHd _ := hb x56.toInt h57 h58 (zi M51) (zi_fr hJ52.2) hq55
            have hJ60 := zJ_trans hJ49 hJ52 zSub_nil
            show ZW _ _ _ _ _ _ _ (71, [some (.ref 2), some (.int 3), some (.int v28_2), o28_3], [.int x56], M51)
            rcases Int.decEq x56.toInt (0 : Int) with h61 | h61
            · skip
              replace hb : zHd _ := hb.1 h61
              refine w_ine_t dX5_readFact_71 (t := 80) rfl (by omega) ?_
              refine w_lo dX5_readFact_80 rfl rfl rfl rfl ?_
              refine w_iv dX5_readFact_81 rfl rfl (As := []) rfl rfl hJ60.1.1 zs_2 (Nat.le_of_ble_eq_true rfl) ?_
              obtain ⟨P64, hp65, hb⟩ := hb
              replace hb : zHd _ := hb
              refine ZV.imp (u_1289 hN hJ60.1 hp65) ?_
              rintro _ ⟨M62, rfl, hJ63, hq66⟩
              replace hb : zHd _ := hb  (zi M62) (zi_fr hJ63.2) hq66
              have hJ68 := zJ_trans hJ60 hJ63 (zSub_cons (fun _ _ h h' hk => zIR_s (zIR_s (zIR_s (zIR_s (zIR_s (zIR_s (zIR_e (by omega) (by omega) hk))))))) zSub_nil)
              show ZW _ _ _ _ _ _ _ (84, [some (.ref 2), some (.int 3), some (.int v28_2), o28_3], [], M62)
              refine w_gt dX5_readFact_84 (t := 203) rfl ?_
              refine w_lo dX5_readFact_203 rfl rfl rfl rfl ?_
              refine w_ic dX5_readFact_204 zi_2 ?_
              refine w_remE dX5_readFact_205 (by omega) (by have := zt_2; omega) ?_
              intro x69 h70 h71 h72
              have := zt_2
              replace hb : zHd _ := hb x69.toInt h70 (by omega) (by rw [h72, zt_2])
              refine w_ic dX5_readFact_206 zi_1 ?_
              rcases Int.decEq x69.toInt (1 : Int) with h73 | h73
              · skip
                replace hb : zHd _ := hb.1 h73
                refine w_cne_t dX5_readFact_207 (t := 222) rfl (by have := zt_1; omega) ?_
                refine w_ic dX5_readFact_222 zi_1 ?_
                refine w_en dX5_readFact_223 rfl ?_
                exact ⟨_, _, rfl, (by have := zt_1; omega), (by have := zt_1; omega), hJ68, hb⟩
              · skip
                replace hb : zHd _ := hb.2 h73
                refine w_cne_f dX5_readFact_207 (t := 222) rfl (by have := zt_1; omega) ?_
                refine w_lo dX5_readFact_210 rfl rfl rfl rfl ?_
                obtain ⟨b74, f75, h76⟩ := zd_2_8 hJ68.1
                have h77 := zDm_b h76
                refine w_gf dX5_readFact_211 rfl hJ68.1.1 zs_2 f75 ?_
                replace hb : zHd _ := hb b74 (ziR f75) (zDm_or h76)
                refine w_gf dX5_readFact_214 rfl hJ68.1.1 (zs_1_0 h76) (zr_1_0_15 h76 hJ68.1) ?_
                refine w_bi dX5_readFact_217 (c := (-8)) (by decide) ?_
                refine w_iv dX5_readFact_219 rfl rfl (As := [.int (-8)]) rfl rfl hJ68.1.1 (zs_1_13 h76) (Nat.le_of_ble_eq_true rfl) ?_
                obtain ⟨P80, hp81, hb⟩ := hb
                replace hb : zHd _ := hb
                have hp81c : b_515 (b74 + 13) (zi M62) ((-8) : Int32).toInt P80 := by rw [zt_m8]; exact hp81
                refine ZV.imp (u_515 (b74 + 13) (zLw_of h76) (-8) hN hJ68.1 hp81c) ?_
                rintro _ ⟨M78, rfl, hJ79, hq82⟩
                replace hb : zHd _ := hb  (zi M78) (zi_fr hJ79.2) hq82
                have hJ84 := zJ_trans hJ68 hJ79 (zSub_cons (fun _ _ h h' hk => ((zDm_or h76).elim (fun e => zIR_s (zIR_s (zIR_e (by omega) (by omega) hk))) (fun e => zIR_s (zIR_s (zIR_s (zIR_e (by omega) (by omega) hk)))))) (zSub_cons (fun _ _ h h' hk => ((zDm_or h76).elim (fun e => zIR_s (zIR_s (zIR_s (zIR_s (zIR_a (by omega) (by omega)))))) (fun e => zIR_s (zIR_s (zIR_s (zIR_s (zIR_s (zIR_a (by omega) (by omega))))))))) zSub_nil))
                show ZW _ _ _ _ _ _ _ (222, [some (.ref 2), some (.int 3), some (.int v28_2), o28_3], [], M78)
                refine w_ic dX5_readFact_222 zi_1 ?_
                refine w_en dX5_readFact_223 rfl ?_
                exact ⟨_, _, rfl, (by have := zt_1; omega), (by have := zt_1; omega), hJ84, hb⟩
            · skip
              replace hb : zHd _ := hb.2 h61
              refine w_ine_f dX5_readFact_71 (t := 80) rfl (by omega) ?_
              refine w_lo dX5_readFact_74 rfl rfl rfl rfl ?_
              refine w_ic dX5_readFact_75 zi_1 ?_
              refine w_iv dX5_readFact_76 rfl rfl (As := [.int 1]) rfl rfl hJ60.1.1 zs_2 (Nat.le_of_ble_eq_true rfl) ?_
              obtain ⟨P87, hp88, hb⟩ := hb
              replace hb : zHd _ := hb
              have hp88c : b_1286 (zi M51) (1 : Int32).toInt P87 := by rw [zt_1]; exact hp88
              refine ZV.imp (u_1286 1 (by have := zt_1; omega) (by have := zt_1; omega) hN hJ60.1 hp88c) ?_
              rintro _ ⟨x90, M85, rfl, h91, h92, hJ86, hq89⟩
              replace hb : zHd _ := hb x90.toInt h91 h92 (zi M85) (zi_fr hJ86.2) hq89
              have hJ94 := zJ_trans hJ60 hJ86 (zSub_cons (fun _ _ h h' hk => zIR_e (by omega) (by omega) hk) (zSub_cons (fun _ _ h h' hk => zIR_s (zIR_e (by omega) (by omega) hk)) zSub_nil))
              show ZW _ _ _ _ _ _ _ (79, [some (.ref 2), some (.int 3), some (.int v28_2), o28_3], [.int x90], M85)
              refine w_eni dX5_readFact_79 rfl (znb (by omega) (by omega)) ?_
              exact ⟨_, _, rfl, (by omega), (by omega), hJ94, hb⟩
          · skip
            replace hb : zHd _ := hb.2 h50
            refine w_ine_f dX5_readFact_60 (t := 65) rfl (by omega) ?_
            refine w_ic dX5_readFact_63 zi_0 ?_
            refine w_en dX5_readFact_64 rfl ?_
            exact ⟨_, _, rfl, (by have := zt_0; omega), (by have := zt_0; omega), hJ49, hb⟩
        · skip
          replace hb : zHd _ := hb.2 h32
          refine w_ieq_t dX5_readFact_34 (t := 87) rfl (by omega) ?_
          refine w_lo dX5_readFact_87 rfl rfl rfl rfl ?_
          refine w_iv dX5_readFact_88 rfl rfl (As := []) rfl rfl hJ31.1.1 zs_2 (Nat.le_of_ble_eq_true rfl) ?_
          obtain ⟨P97, hp98, hb⟩ := hb
          replace hb : zHd _ := hb
          refine ZV.imp (u_1287 hN hJ31.1 hp98) ?_
          rintro _ ⟨x100, M95, rfl, h101, h102, hJ96, hq99⟩
          replace hb : zHd _ := hb x100.toInt h101 h102 (zi M95) (zi_fr hJ96.2) hq99
          have hJ104 := zJ_trans hJ31 hJ96 zSub_nil
          show ZW _ _ _ _ _ _ _ (91, [some (.ref 2), some (.int 3), some (.int v28_2), o28_3], [.int x100], M95)
          refine w_bi dX5_readFact_91 (c := 24) (by decide) ?_
          rcases Int.decEq x100.toInt (24 : Int) with h105 | h105
          · skip
            replace hb : zHd _ := hb.1 h105
            refine w_cne_t dX5_readFact_93 (t := 114) rfl (by have := zt_24; omega) ?_
            refine w_lo dX5_readFact_114 rfl rfl rfl rfl ?_
            refine w_lo dX5_readFact_115 rfl rfl rfl rfl ?_
            refine w_iv dX5_readFact_116 rfl rfl (As := [.int 3]) rfl rfl hJ104.1.1 zs_2 (Nat.le_of_ble_eq_true rfl) ?_
            obtain ⟨P108, hp109, hb⟩ := hb
            replace hb : zHd _ := hb
            refine ZV.imp (u_1297_c3 hN hJ104.1 hp109) ?_
            rintro _ ⟨x111, M106, rfl, h112, h113, hJ107, hq110⟩
            replace hb : zHd _ := hb x111.toInt h112 h113 (zi M106) (zi_fr hJ107.2) hq110
            have hJ115 := zJ_trans hJ104 hJ107 (zSub_cons (fun _ _ h h' hk => zIR_e (by omega) (by omega) hk) (zSub_cons (fun _ _ h h' hk => zIR_s (zIR_e (by omega) (by omega) hk)) (zSub_cons (fun _ _ h h' hk => zIR_s (zIR_s (zIR_e (by omega) (by omega) hk))) (zSub_cons (fun _ _ h h' hk => zIR_s (zIR_s (zIR_s (zIR_e (by omega) (by omega) hk)))) (zSub_cons (fun _ _ h h' hk => zIR_s (zIR_s (zIR_s (zIR_s (zIR_a (by omega) (by omega)))))) (zSub_cons (fun _ _ h h' hk => zIR_s (zIR_s (zIR_s (zIR_s (zIR_s (zIR_a (by omega) (by omega))))))) (zSub_cons (fun _ _ h h' hk => zIR_s (zIR_s (zIR_s (zIR_s (zIR_s (zIR_s (zIR_e (by omega) (by omega) hk))))))) zSub_nil)))))))
            show ZW _ _ _ _ _ _ _ (119, [some (.ref 2), some (.int 3), some (.int v28_2), o28_3], [.int x111], M106)
            rcases Int.decEq x111.toInt (0 : Int) with h116 | h116
            · skip
              replace hb : zHd _ := hb.1 h116
              refine w_ine_t dX5_readFact_119 (t := 124) rfl (by omega) ?_
              refine w_lo dX5_readFact_124 rfl rfl rfl rfl ?_
              refine w_bi dX5_readFact_125 (c := 60) (by decide) ?_
              refine w_iv dX5_readFact_127 rfl rfl (As := [.int 60]) rfl rfl hJ115.1.1 zs_2 (Nat.le_of_ble_eq_true rfl) ?_
              obtain ⟨P119, hp120, hb⟩ := hb
              replace hb : zHd _ := hb
              have hp120c : b_1299 (zi M106) (60 : Int32).toInt P119 := by rw [zt_60]; exact hp120
              refine ZV.imp (u_1299 60 (by have := zt_60; omega) (by have := zt_60; omega) hN hJ115.1 hp120c) ?_
              rintro _ ⟨x122, M117, rfl, h123, h124, hJ118, hq121⟩
              replace hb : zHd _ := hb x122.toInt h123 h124 (zi M117) (zi_fr hJ118.2) hq121
              have hJ126 := zJ_trans hJ115 hJ118 zSub_nil
              show ZW _ _ _ _ _ _ _ (130, [some (.ref 2), some (.int 3), some (.int v28_2), o28_3], [.int x122], M117)
              rcases Int.decEq x122.toInt (0 : Int) with h127 | h127
              · skip
                replace hb : zHd _ := hb.1 h127
                refine w_ieq_f dX5_readFact_130 (t := 138) rfl (by omega) ?_
                refine w_bi dX5_readFact_133 (c := (-14)) (by decide) ?_
                refine w_gt dX5_readFact_135 (t := 167) rfl ?_
                obtain ⟨m, hm, hI⟩ := hb
                exact (ih m hm).2.2 M117 v28_2 o28_3 (-14) hJ126 (by omega) (by omega) (by have := zt_m14; omega) (by have := zt_m14; omega) hI
              · skip
                replace hb : zHd _ := hb.2 h127
                refine w_ieq_t dX5_readFact_130 (t := 138) rfl (by omega) ?_
                refine w_lo dX5_readFact_138 rfl rfl rfl rfl ?_
                refine w_bi dX5_readFact_139 (c := 62) (by decide) ?_
                refine w_iv dX5_readFact_141 rfl rfl (As := [.int 62]) rfl rfl hJ126.1.1 zs_2 (Nat.le_of_ble_eq_true rfl) ?_
                obtain ⟨P130, hp131, hb⟩ := hb
                replace hb : zHd _ := hb
                have hp131c : b_1299 (zi M117) (62 : Int32).toInt P130 := by rw [zt_62]; exact hp131
                refine ZV.imp (u_1299 62 (by have := zt_62; omega) (by have := zt_62; omega) hN hJ126.1 hp131c) ?_
                rintro _ ⟨x133, M128, rfl, h134, h135, hJ129, hq132⟩
                replace hb : zHd _ := hb x133.toInt h134 h135 (zi M128) (zi_fr hJ129.2) hq132
                have hJ137 := zJ_trans hJ126 hJ129 zSub_nil
                show ZW _ _ _ _ _ _ _ (144, [some (.ref 2), some (.int 3), some (.int v28_2), o28_3], [.int x133], M128)
                rcases Int.decEq x133.toInt (0 : Int) with h138 | h138
                · skip
                  replace hb : zHd _ := hb.1 h138
                  refine w_ieq_f dX5_readFact_144 (t := 152) rfl (by omega) ?_
                  refine w_bi dX5_readFact_147 (c := (-15)) (by decide) ?_
                  refine w_gt dX5_readFact_149 (t := 167) rfl ?_
                  obtain ⟨m, hm, hI⟩ := hb
                  exact (ih m hm).2.2 M128 v28_2 o28_3 (-15) hJ137 (by omega) (by omega) (by have := zt_m15; omega) (by have := zt_m15; omega) hI
                · skip
                  replace hb : zHd _ := hb.2 h138
                  refine w_ieq_t dX5_readFact_144 (t := 152) rfl (by omega) ?_
                  refine w_lo dX5_readFact_152 rfl rfl rfl rfl ?_
                  refine w_bi dX5_readFact_153 (c := 61) (by decide) ?_
                  refine w_iv dX5_readFact_155 rfl rfl (As := [.int 61]) rfl rfl hJ137.1.1 zs_2 (Nat.le_of_ble_eq_true rfl) ?_
                  obtain ⟨P141, hp142, hb⟩ := hb
                  replace hb : zHd _ := hb
                  have hp142c : b_1299 (zi M128) (61 : Int32).toInt P141 := by rw [zt_61]; exact hp142
                  refine ZV.imp (u_1299 61 (by have := zt_61; omega) (by have := zt_61; omega) hN hJ137.1 hp142c) ?_
                  rintro _ ⟨x144, M139, rfl, h145, h146, hJ140, hq143⟩
                  replace hb : zHd _ := hb x144.toInt h145 h146 (zi M139) (zi_fr hJ140.2) hq143
                  have hJ148 := zJ_trans hJ137 hJ140 zSub_nil
                  show ZW _ _ _ _ _ _ _ (158, [some (.ref 2), some (.int 3), some (.int v28_2), o28_3], [.int x144], M139)
                  rcases Int.decEq x144.toInt (0 : Int) with h149 | h149
                  · skip
                    replace hb : zHd _ := hb.1 h149
                    refine w_ieq_f dX5_readFact_158 (t := 166) rfl (by omega) ?_
                    refine w_bi dX5_readFact_161 (c := (-16)) (by decide) ?_
                    refine w_gt dX5_readFact_163 (t := 167) rfl ?_
                    obtain ⟨m, hm, hI⟩ := hb
                    exact (ih m hm).2.2 M139 v28_2 o28_3 (-16) hJ148 (by omega) (by omega) (by have := zt_m16; omega) (by have := zt_m16; omega) hI
                  · skip
                    replace hb : zHd _ := hb.2 h149
                    refine w_ieq_t dX5_readFact_158 (t := 166) rfl (by omega) ?_
                    refine w_ic dX5_readFact_166 zi_0 ?_
                    obtain ⟨m, hm, hI⟩ := hb
                    exact (ih m hm).2.2 M139 v28_2 o28_3 0 hJ148 (by omega) (by omega) (by have := zt_0; omega) (by have := zt_0; omega) hI
            · skip
              replace hb : zHd _ := hb.2 h116
              refine w_ine_f dX5_readFact_119 (t := 124) rfl (by omega) ?_
              refine w_ic dX5_readFact_122 zi_0 ?_
              refine w_en dX5_readFact_123 rfl ?_
              exact ⟨_, _, rfl, (by have := zt_0; omega), (by have := zt_0; omega), hJ115, hb⟩
          · skip
            replace hb : zHd _ := hb.2 h105
            refine w_cne_f dX5_readFact_93 (t := 114) rfl (by have := zt_24; omega) ?_
            refine w_lo dX5_readFact_96 rfl rfl rfl rfl ?_
            refine w_iv dX5_readFact_97 rfl rfl (As := []) rfl rfl hJ104.1.1 zs_2 (Nat.le_of_ble_eq_true rfl) ?_
            obtain ⟨P152, hp153, hb⟩ := hb
            replace hb : zHd _ := hb
            refine ZV.imp (u_1289 hN hJ104.1 hp153) ?_
            rintro _ ⟨M150, rfl, hJ151, hq154⟩
            replace hb : zHd _ := hb  (zi M150) (zi_fr hJ151.2) hq154
            have hJ156 := zJ_trans hJ104 hJ151 (zSub_cons (fun _ _ h h' hk => zIR_s (zIR_s (zIR_s (zIR_s (zIR_s (zIR_s (zIR_e (by omega) (by omega) hk))))))) zSub_nil)
            show ZW _ _ _ _ _ _ _ (100, [some (.ref 2), some (.int 3), some (.int v28_2), o28_3], [], M150)
            refine w_lo dX5_readFact_100 rfl rfl rfl rfl ?_
            obtain ⟨b157, f158, h159⟩ := zd_2_8 hJ156.1
            have h160 := zDm_b h159
            refine w_gf dX5_readFact_101 rfl hJ156.1.1 zs_2 f158 ?_
            replace hb : zHd _ := hb b157 (ziR f158) (zDm_or h159)
            refine w_gf dX5_readFact_104 rfl hJ156.1.1 (zs_1_0 h159) (zr_1_0_15 h159 hJ156.1) ?_
            refine w_ic dX5_readFact_107 zi_1 ?_
            refine w_iv dX5_readFact_108 rfl rfl (As := [.int 1]) rfl rfl hJ156.1.1 (zs_1_13 h159) (Nat.le_of_ble_eq_true rfl) ?_
            obtain ⟨P163, hp164, hb⟩ := hb
            replace hb : zHd _ := hb
            have hp164c : b_515 (b157 + 13) (zi M150) (1 : Int32).toInt P163 := by rw [zt_1]; exact hp164
            refine ZV.imp (u_515 (b157 + 13) (zLw_of h159) 1 hN hJ156.1 hp164c) ?_
            rintro _ ⟨M161, rfl, hJ162, hq165⟩
            replace hb : zHd _ := hb  (zi M161) (zi_fr hJ162.2) hq165
            have hJ167 := zJ_trans hJ156 hJ162 (zSub_cons (fun _ _ h h' hk => ((zDm_or h159).elim (fun e => zIR_s (zIR_s (zIR_e (by omega) (by omega) hk))) (fun e => zIR_s (zIR_s (zIR_s (zIR_e (by omega) (by omega) hk)))))) (zSub_cons (fun _ _ h h' hk => ((zDm_or h159).elim (fun e => zIR_s (zIR_s (zIR_s (zIR_s (zIR_a (by omega) (by omega)))))) (fun e => zIR_s (zIR_s (zIR_s (zIR_s (zIR_s (zIR_a (by omega) (by omega))))))))) zSub_nil))
            show ZW _ _ _ _ _ _ _ (111, [some (.ref 2), some (.int 3), some (.int v28_2), o28_3], [], M161)
            refine w_gt dX5_readFact_111 (t := 203) rfl ?_
            refine w_lo dX5_readFact_203 rfl rfl rfl rfl ?_
            refine w_ic dX5_readFact_204 zi_2 ?_
            refine w_remE dX5_readFact_205 (by omega) (by have := zt_2; omega) ?_
            intro x168 h169 h170 h171
            have := zt_2
            replace hb : zHd _ := hb x168.toInt h169 (by omega) (by rw [h171, zt_2])
            refine w_ic dX5_readFact_206 zi_1 ?_
            rcases Int.decEq x168.toInt (1 : Int) with h172 | h172
            · skip
              replace hb : zHd _ := hb.1 h172
              refine w_cne_t dX5_readFact_207 (t := 222) rfl (by have := zt_1; omega) ?_
              refine w_ic dX5_readFact_222 zi_1 ?_
              refine w_en dX5_readFact_223 rfl ?_
              exact ⟨_, _, rfl, (by have := zt_1; omega), (by have := zt_1; omega), hJ167, hb⟩
            · skip
              replace hb : zHd _ := hb.2 h172
              refine w_cne_f dX5_readFact_207 (t := 222) rfl (by have := zt_1; omega) ?_
              refine w_lo dX5_readFact_210 rfl rfl rfl rfl ?_
              have f173 := (hJ162.2 (2) 8 (zNI_k (by decide) (by decide) (zNI (by omega) zNI_nil))).trans (f158)
              refine w_gf dX5_readFact_211 rfl hJ167.1.1 zs_2 f173 ?_
              refine w_gf dX5_readFact_214 rfl hJ167.1.1 (zs_1_0 h159) (zr_1_0_15 h159 hJ167.1) ?_
              refine w_bi dX5_readFact_217 (c := (-8)) (by decide) ?_
              refine w_iv dX5_readFact_219 rfl rfl (As := [.int (-8)]) rfl rfl hJ167.1.1 (zs_1_13 h159) (Nat.le_of_ble_eq_true rfl) ?_
              obtain ⟨P176, hp177, hb⟩ := hb
              replace hb : zHd _ := hb
              have hp177c : b_515 (b157 + 13) (zi M161) ((-8) : Int32).toInt P176 := by rw [zt_m8]; exact hp177
              refine ZV.imp (u_515 (b157 + 13) (zLw_of h159) (-8) hN hJ167.1 hp177c) ?_
              rintro _ ⟨M174, rfl, hJ175, hq178⟩
              replace hb : zHd _ := hb  (zi M174) (zi_fr hJ175.2) hq178
              have hJ180 := zJ_trans hJ167 hJ175 (zSub_cons (fun _ _ h h' hk => ((zDm_or h159).elim (fun e => zIR_s (zIR_s (zIR_e (by omega) (by omega) hk))) (fun e => zIR_s (zIR_s (zIR_s (zIR_e (by omega) (by omega) hk)))))) (zSub_cons (fun _ _ h h' hk => ((zDm_or h159).elim (fun e => zIR_s (zIR_s (zIR_s (zIR_s (zIR_a (by omega) (by omega)))))) (fun e => zIR_s (zIR_s (zIR_s (zIR_s (zIR_s (zIR_a (by omega) (by omega))))))))) zSub_nil))
              show ZW _ _ _ _ _ _ _ (222, [some (.ref 2), some (.int 3), some (.int v28_2), o28_3], [], M174)
              refine w_ic dX5_readFact_222 zi_1 ?_
              refine w_en dX5_readFact_223 rfl ?_
              exact ⟨_, _, rfl, (by have := zt_1; omega), (by have := zt_1; omega), hJ180, hb⟩
      · intro M v167_2 o167_3 s167_0 hJ v167_20 v167_21 s167_00 s167_01 hI
        have hb : zHd _ := hb167 n (zi M) v167_2.toInt s167_0.toInt (zi_fr hJ.2) v167_20 v167_21 s167_00 s167_01 hI
        refine w_lo (ml' := [some (.ref 2), some (.int 3), some (.int v167_2), some (.int s167_0)]) dX5_readFact_167 rfl rfl rfl rfl ?_
        refine w_lo dX5_readFact_168 rfl rfl rfl rfl ?_
        rcases Int.decEq s167_0.toInt (0 : Int) with h181 | h181
        · skip
          replace hb : zHd _ := hb.1 h181
          refine w_ine_t dX5_readFact_169 (t := 178) rfl (by omega) ?_
          refine w_lo dX5_readFact_178 rfl rfl rfl rfl ?_
          refine w_iv dX5_readFact_179 rfl rfl (As := []) rfl rfl hJ.1.1 zs_2 (Nat.le_of_ble_eq_true rfl) ?_
          obtain ⟨P184, hp185, hb⟩ := hb
          replace hb : zHd _ := hb
          refine ZV.imp (u_1289 hN hJ.1 hp185) ?_
          rintro _ ⟨M182, rfl, hJ183, hq186⟩
          replace hb : zHd _ := hb  (zi M182) (zi_fr hJ183.2) hq186
          have hJ188 := zJ_trans hJ hJ183 (zSub_cons (fun _ _ h h' hk => zIR_s (zIR_s (zIR_s (zIR_s (zIR_s (zIR_s (zIR_e (by omega) (by omega) hk))))))) zSub_nil)
          show ZW _ _ _ _ _ _ _ (182, [some (.ref 2), some (.int 3), some (.int v167_2), some (.int s167_0)], [], M182)
          refine w_lo dX5_readFact_182 rfl rfl rfl rfl ?_
          refine w_lo dX5_readFact_183 rfl rfl rfl rfl ?_
          refine w_iv dX5_readFact_184 rfl rfl (As := [.int 3]) rfl rfl hJ188.1.1 zs_2 (Nat.le_of_ble_eq_true rfl) ?_
          obtain ⟨P191, hp192, hb⟩ := hb
          replace hb : zHd _ := hb
          refine ZV.imp (u_1297_c3 hN hJ188.1 hp192) ?_
          rintro _ ⟨x194, M189, rfl, h195, h196, hJ190, hq193⟩
          replace hb : zHd _ := hb x194.toInt h195 h196 (zi M189) (zi_fr hJ190.2) hq193
          have hJ198 := zJ_trans hJ188 hJ190 (zSub_cons (fun _ _ h h' hk => zIR_e (by omega) (by omega) hk) (zSub_cons (fun _ _ h h' hk => zIR_s (zIR_e (by omega) (by omega) hk)) (zSub_cons (fun _ _ h h' hk => zIR_s (zIR_s (zIR_e (by omega) (by omega) hk))) (zSub_cons (fun _ _ h h' hk => zIR_s (zIR_s (zIR_s (zIR_e (by omega) (by omega) hk)))) (zSub_cons (fun _ _ h h' hk => zIR_s (zIR_s (zIR_s (zIR_s (zIR_a (by omega) (by omega)))))) (zSub_cons (fun _ _ h h' hk => zIR_s (zIR_s (zIR_s (zIR_s (zIR_s (zIR_a (by omega) (by omega))))))) (zSub_cons (fun _ _ h h' hk => zIR_s (zIR_s (zIR_s (zIR_s (zIR_s (zIR_s (zIR_e (by omega) (by omega) hk))))))) zSub_nil)))))))
          show ZW _ _ _ _ _ _ _ (187, [some (.ref 2), some (.int 3), some (.int v167_2), some (.int s167_0)], [.int x194], M189)
          rcases Int.decEq x194.toInt (0 : Int) with h199 | h199
          · skip
            replace hb : zHd _ := hb.1 h199
            refine w_ine_t dX5_readFact_187 (t := 192) rfl (by omega) ?_
            refine w_lo dX5_readFact_192 rfl rfl rfl rfl ?_
            obtain ⟨b200, f201, h202⟩ := zd_2_8 hJ198.1
            have h203 := zDm_b h202
            refine w_gf dX5_readFact_193 rfl hJ198.1.1 zs_2 f201 ?_
            replace hb : zHd _ := hb b200 (ziR f201) (zDm_or h202)
            refine w_gf dX5_readFact_196 rfl hJ198.1.1 (zs_1_0 h202) (zr_1_0_15 h202 hJ198.1) ?_
            refine w_lo dX5_readFact_199 rfl rfl rfl rfl ?_
            refine w_iv dX5_readFact_200 rfl rfl (As := [.int s167_0]) rfl rfl hJ198.1.1 (zs_1_13 h202) (Nat.le_of_ble_eq_true rfl) ?_
            obtain ⟨P206, hp207, hb⟩ := hb
            replace hb : zHd _ := hb
            refine ZV.imp (u_515 (b200 + 13) (zLw_of h202) s167_0 hN hJ198.1 hp207) ?_
            rintro _ ⟨M204, rfl, hJ205, hq208⟩
            replace hb : zHd _ := hb  (zi M204) (zi_fr hJ205.2) hq208
            have hJ210 := zJ_trans hJ198 hJ205 (zSub_cons (fun _ _ h h' hk => ((zDm_or h202).elim (fun e => zIR_s (zIR_s (zIR_e (by omega) (by omega) hk))) (fun e => zIR_s (zIR_s (zIR_s (zIR_e (by omega) (by omega) hk)))))) (zSub_cons (fun _ _ h h' hk => ((zDm_or h202).elim (fun e => zIR_s (zIR_s (zIR_s (zIR_s (zIR_a (by omega) (by omega)))))) (fun e => zIR_s (zIR_s (zIR_s (zIR_s (zIR_s (zIR_a (by omega) (by omega))))))))) zSub_nil))
            show ZW _ _ _ _ _ _ _ (203, [some (.ref 2), some (.int 3), some (.int v167_2), some (.int s167_0)], [], M204)
            refine w_lo dX5_readFact_203 rfl rfl rfl rfl ?_
            refine w_ic dX5_readFact_204 zi_2 ?_
            refine w_remE dX5_readFact_205 (by omega) (by have := zt_2; omega) ?_
            intro x211 h212 h213 h214
            have := zt_2
            replace hb : zHd _ := hb x211.toInt h212 (by omega) (by rw [h214, zt_2])
            refine w_ic dX5_readFact_206 zi_1 ?_
            rcases Int.decEq x211.toInt (1 : Int) with h215 | h215
            · skip
              replace hb : zHd _ := hb.1 h215
              refine w_cne_t dX5_readFact_207 (t := 222) rfl (by have := zt_1; omega) ?_
              refine w_ic dX5_readFact_222 zi_1 ?_
              refine w_en dX5_readFact_223 rfl ?_
              exact ⟨_, _, rfl, (by have := zt_1; omega), (by have := zt_1; omega), hJ210, hb⟩
            · skip
              replace hb : zHd _ := hb.2 h215
              refine w_cne_f dX5_readFact_207 (t := 222) rfl (by have := zt_1; omega) ?_
              refine w_lo dX5_readFact_210 rfl rfl rfl rfl ?_
              have f216 := (hJ205.2 (2) 8 (zNI_k (by decide) (by decide) (zNI (by omega) zNI_nil))).trans (f201)
              refine w_gf dX5_readFact_211 rfl hJ210.1.1 zs_2 f216 ?_
              refine w_gf dX5_readFact_214 rfl hJ210.1.1 (zs_1_0 h202) (zr_1_0_15 h202 hJ210.1) ?_
              refine w_bi dX5_readFact_217 (c := (-8)) (by decide) ?_
              refine w_iv dX5_readFact_219 rfl rfl (As := [.int (-8)]) rfl rfl hJ210.1.1 (zs_1_13 h202) (Nat.le_of_ble_eq_true rfl) ?_
              obtain ⟨P219, hp220, hb⟩ := hb
              replace hb : zHd _ := hb
              have hp220c : b_515 (b200 + 13) (zi M204) ((-8) : Int32).toInt P219 := by rw [zt_m8]; exact hp220
              refine ZV.imp (u_515 (b200 + 13) (zLw_of h202) (-8) hN hJ210.1 hp220c) ?_
              rintro _ ⟨M217, rfl, hJ218, hq221⟩
              replace hb : zHd _ := hb  (zi M217) (zi_fr hJ218.2) hq221
              have hJ223 := zJ_trans hJ210 hJ218 (zSub_cons (fun _ _ h h' hk => ((zDm_or h202).elim (fun e => zIR_s (zIR_s (zIR_e (by omega) (by omega) hk))) (fun e => zIR_s (zIR_s (zIR_s (zIR_e (by omega) (by omega) hk)))))) (zSub_cons (fun _ _ h h' hk => ((zDm_or h202).elim (fun e => zIR_s (zIR_s (zIR_s (zIR_s (zIR_a (by omega) (by omega)))))) (fun e => zIR_s (zIR_s (zIR_s (zIR_s (zIR_s (zIR_a (by omega) (by omega))))))))) zSub_nil))
              show ZW _ _ _ _ _ _ _ (222, [some (.ref 2), some (.int 3), some (.int v167_2), some (.int s167_0)], [], M217)
              refine w_ic dX5_readFact_222 zi_1 ?_
              refine w_en dX5_readFact_223 rfl ?_
              exact ⟨_, _, rfl, (by have := zt_1; omega), (by have := zt_1; omega), hJ223, hb⟩
          · skip
            replace hb : zHd _ := hb.2 h199
            refine w_ine_f dX5_readFact_187 (t := 192) rfl (by omega) ?_
            refine w_ic dX5_readFact_190 zi_0 ?_
            refine w_en dX5_readFact_191 rfl ?_
            exact ⟨_, _, rfl, (by have := zt_0; omega), (by have := zt_0; omega), hJ198, hb⟩
        · skip
          replace hb : zHd _ := hb.2 h181
          refine w_ine_f dX5_readFact_169 (t := 178) rfl (by omega) ?_
          refine w_lo dX5_readFact_172 rfl rfl rfl rfl ?_
          refine w_ic dX5_readFact_173 zi_1 ?_
          refine w_iv dX5_readFact_174 rfl rfl (As := [.int 1]) rfl rfl hJ.1.1 zs_2 (Nat.le_of_ble_eq_true rfl) ?_
          obtain ⟨P226, hp227, hb⟩ := hb
          replace hb : zHd _ := hb
          have hp227c : b_1286 (zi M) (1 : Int32).toInt P226 := by rw [zt_1]; exact hp227
          refine ZV.imp (u_1286 1 (by have := zt_1; omega) (by have := zt_1; omega) hN hJ.1 hp227c) ?_
          rintro _ ⟨x229, M224, rfl, h230, h231, hJ225, hq228⟩
          replace hb : zHd _ := hb x229.toInt h230 h231 (zi M224) (zi_fr hJ225.2) hq228
          have hJ233 := zJ_trans hJ hJ225 (zSub_cons (fun _ _ h h' hk => zIR_e (by omega) (by omega) hk) (zSub_cons (fun _ _ h h' hk => zIR_s (zIR_e (by omega) (by omega) hk)) zSub_nil))
          show ZW _ _ _ _ _ _ _ (177, [some (.ref 2), some (.int 3), some (.int v167_2), some (.int s167_0)], [.int x229], M224)
          refine w_eni dX5_readFact_177 rfl (znb (by omega) (by omega)) ?_
          exact ⟨_, _, rfl, (by omega), (by omega), hJ233, hb⟩
  have hb : zHd _ := hbE
  show ZW _ _ _ _ _ _ _ (0, [some (.ref 2), some (.int 3), none, none], [], M0)
  refine w_ic dX5_readFact_0 zi_0 ?_
  refine w_lo (ml' := [some (.ref 2), some (.int 3), some (.int 0), none]) dX5_readFact_1 rfl rfl rfl rfl ?_
  obtain ⟨m, hI⟩ := hb
  exact (main m).1 M0 0 none hJ0 (by have := zt_0; omega) (by have := zt_0; omega) hI
set_option maxRecDepth 100000 in
theorem u_1300_c3 {X : List Int32} {d N : Nat} {M0 : zM}  (hN : N ≤ 600) (hB0 : zB N M0) {Q : Int → zF → Prop} (hb : b_1300_c3 (zi M0) Q) : ZV X (d + 15) 1300 [.ref 2, .int 3] M0 (zRI N [(2, 3, 0), (2, 3, 1), (20, 21, 1), (41, 42, 1), (21, 22, 1000), (42, 43, 1000), (2, 3, 7)] M0 (0) (1) (fun v M' => Q v.toInt (zi M'))) := by
  have hJ0 : zJ N [(2, 3, 0), (2, 3, 1), (20, 21, 1), (41, 42, 1), (21, 22, 1000), (42, 43, 1000), (2, 3, 7)] M0 M0 := zJ_refl hB0
  refine ZV.of (ini := false) rfl (Nat.le_of_ble_eq_true rfl) (by decide +kernel) ?_
  obtain ⟨I2, I11, I44, I66, hbE, hb2, hb11, hb44, hb66⟩ := hb
  replace hbE : zHd _ := hbE
  replace hb2 : zHd _ := hb2
  replace hb11 : zHd _ := hb11
  replace hb44 : zHd _ := hb44
  replace hb66 : zHd _ := hb66
  have main : ∀ n : Nat,
      (∀ (M : zM) (v2_2 : Int32) (o2_3 : Option Value), zJ N [(2, 3, 0), (2, 3, 1), (20, 21, 1), (41, 42, 1), (21, 22, 1000), (42, 43, 1000), (2, 3, 7)] M0 M → ((0 : Int) ≤ v2_2.toInt) → (v2_2.toInt ≤ 1601) → I2 n (zi M) v2_2.toInt → ZW X (d + 14) 5 false (some .boolean) cX5_readTest (zRI N [(2, 3, 0), (2, 3, 1), (20, 21, 1), (41, 42, 1), (21, 22, 1000), (42, 43, 1000), (2, 3, 7)] M0 (0) (1) (fun v M' => Q v.toInt (zi M'))) (2, [some (.ref 2), some (.int 3), some (.int v2_2), o2_3], [], M)) ∧
      (∀ (M : zM) (v11_2 : Int32) (v11_3 : Int32), zJ N [(2, 3, 0), (2, 3, 1), (20, 21, 1), (41, 42, 1), (21, 22, 1000), (42, 43, 1000), (2, 3, 7)] M0 M → ((0 : Int) ≤ v11_2.toInt) → (v11_2.toInt ≤ 1600) → ((0 : Int) ≤ v11_3.toInt) → (v11_3.toInt ≤ 1601) → I11 n (zi M) v11_2.toInt v11_3.toInt → ZW X (d + 14) 5 false (some .boolean) cX5_readTest (zRI N [(2, 3, 0), (2, 3, 1), (20, 21, 1), (41, 42, 1), (21, 22, 1000), (42, 43, 1000), (2, 3, 7)] M0 (0) (1) (fun v M' => Q v.toInt (zi M'))) (11, [some (.ref 2), some (.int 3), some (.int v11_2), some (.int v11_3)], [], M)) ∧
      (∀ (M : zM) (v44_2 : Int32) (v44_3 : Int32), zJ N [(2, 3, 0), (2, 3, 1), (20, 21, 1), (41, 42, 1), (21, 22, 1000), (42, 43, 1000), (2, 3, 7)] M0 M → ((0 : Int) ≤ v44_2.toInt) → (v44_2.toInt ≤ 1600) → ((0 : Int) ≤ v44_3.toInt) → (v44_3.toInt ≤ 1600) → I44 n (zi M) v44_2.toInt v44_3.toInt → ZW X (d + 14) 5 false (some .boolean) cX5_readTest (zRI N [(2, 3, 0), (2, 3, 1), (20, 21, 1), (41, 42, 1), (21, 22, 1000), (42, 43, 1000), (2, 3, 7)] M0 (0) (1) (fun v M' => Q v.toInt (zi M'))) (44, [some (.ref 2), some (.int 3), some (.int v44_2), some (.int v44_3)], [], M)) ∧
      (∀ (M : zM) (v66_2 : Int32) (u66_3 : Int32), zJ N [(2, 3, 0), (2, 3, 1), (20, 21, 1), (41, 42, 1), (21, 22, 1000), (42, 43, 1000), (2, 3, 7)] M0 M → ((0 : Int) ≤ v66_2.toInt) → (v66_2.toInt ≤ 1600) → I66 n (zi M) v66_2.toInt → ZW X (d + 14) 5 false (some .boolean) cX5_readTest (zRI N [(2, 3, 0), (2, 3, 1), (20, 21, 1), (41, 42, 1), (21, 22, 1000), (42, 43, 1000), (2, 3, 7)] M0 (0) (1) (fun v M' => Q v.toInt (zi M'))) (66, [some (.ref 2), some (.int 3), some (.int v66_2), some (.int u66_3)], [], M)) := by
    intro n
    induction n using Nat.strongRecOn with
    | _ n ih =>
      refine ⟨?_, ?_, ?_, ?_⟩
      · intro M v2_2 o2_3 hJ v2_20 v2_21 hI
        have hb : zHd _ := hb2 n (zi M) v2_2.toInt (zi_fr hJ.2) v2_20 v2_21 hI
        refine w_lo dX5_readTest_2 rfl rfl rfl rfl ?_
        refine w_si dX5_readTest_3 (c := 1600) (by decide) ?_
        rcases zcut (1600 : Int) v2_2.toInt with h1 | h1
        · skip
          replace hb : zHd _ := hb.1 h1
          refine w_cgt_t dX5_readTest_6 (t := 104) rfl (by have := zt_1600; omega) ?_
          refine w_ic dX5_readTest_104 zi_1 ?_
          refine w_en dX5_readTest_105 rfl ?_
          exact ⟨_, _, rfl, (by have := zt_1; omega), (by have := zt_1; omega), hJ, hb⟩
        · skip
          replace hb : zHd _ := hb.2 h1
          refine w_cgt_f dX5_readTest_6 (t := 104) rfl (by have := zt_1600; omega) ?_
          refine w_ic dX5_readTest_9 zi_0 ?_
          refine w_lo (ml' := [some (.ref 2), some (.int 3), some (.int v2_2), some (.int 0)]) dX5_readTest_10 rfl rfl rfl rfl ?_
          obtain ⟨m, hm, hI⟩ := hb
          exact (ih m hm).2.1 M v2_2 0 hJ (by omega) (by omega) (by have := zt_0; omega) (by have := zt_0; omega) hI
      · intro M v11_2 v11_3 hJ v11_20 v11_21 v11_30 v11_31 hI
        have hb : zHd _ := hb11 n (zi M) v11_2.toInt v11_3.toInt (zi_fr hJ.2) v11_20 v11_21 v11_30 v11_31 hI
        refine w_lo dX5_readTest_11 rfl rfl rfl rfl ?_
        refine w_si dX5_readTest_12 (c := 1600) (by decide) ?_
        rcases zcut (1600 : Int) v11_3.toInt with h2 | h2
        · skip
          replace hb : zHd _ := hb.1 h2
          refine w_cgt_t dX5_readTest_15 (t := 66) rfl (by have := zt_1600; omega) ?_
          obtain ⟨m, hm, hI⟩ := hb
          exact (ih m hm).2.2.2 M v11_2 v11_3 hJ (by omega) (by omega) hI
        · skip
          replace hb : zHd _ := hb.2 h2
          refine w_cgt_f dX5_readTest_15 (t := 66) rfl (by have := zt_1600; omega) ?_
          refine w_lo dX5_readTest_18 rfl rfl rfl rfl ?_
          refine w_lo dX5_readTest_19 rfl rfl rfl rfl ?_
          refine w_iv dX5_readTest_20 rfl rfl (As := [.int 3]) rfl rfl hJ.1.1 zs_2 (Nat.le_of_ble_eq_true rfl) ?_
          obtain ⟨P5, hp6, hb⟩ := hb
          replace hb : zHd _ := hb
          refine ZV.imp (u_1301_c3 hN hJ.1 hp6) ?_
          rintro _ ⟨x8, M3, rfl, h9, h10, hJ4, hq7⟩
          replace hb : zHd _ := hb x8.toInt h9 h10 (zi M3) (zi_fr hJ4.2) hq7
          have hJ12 := zJ_trans hJ hJ4 (zSub_cons (fun _ _ h h' hk => zIR_e (by omega) (by omega) hk) (zSub_cons (fun _ _ h h' hk => zIR_s (zIR_e (by omega) (by omega) hk)) (zSub_cons (fun _ _ h h' hk => zIR_s (zIR_s (zIR_e (by omega) (by omega) hk))) (zSub_cons (fun _ _ h h' hk => zIR_s (zIR_s (zIR_s (zIR_e (by omega) (by omega) hk)))) (zSub_cons (fun _ _ h h' hk => zIR_s (zIR_s (zIR_s (zIR_s (zIR_a (by omega) (by omega)))))) (zSub_cons (fun _ _ h h' hk => zIR_s (zIR_s (zIR_s (zIR_s (zIR_s (zIR_a (by omega) (by omega))))))) (zSub_cons (fun _ _ h h' hk => zIR_s (zIR_s (zIR_s (zIR_s (zIR_s (zIR_s (zIR_e (by omega) (by omega) hk))))))) zSub_nil)))))))
          show ZW _ _ _ _ _ _ _ (23, [some (.ref 2), some (.int 3), some (.int v11_2), some (.int v11_3)], [.int x8], M3)
          rcases Int.decEq x8.toInt (0 : Int) with h13 | h13
          · skip
            replace hb : zHd _ := hb.1 h13
            refine w_ine_t dX5_readTest_23 (t := 28) rfl (by omega) ?_
            refine w_lo dX5_readTest_28 rfl rfl rfl rfl ?_
            rcases zcut (0 : Int) v11_3.toInt with h14 | h14
            · skip
              replace hb : zHd _ := hb.1 h14
              refine w_ile_f dX5_readTest_29 (t := 44) rfl (by omega) ?_
              refine w_lo dX5_readTest_32 rfl rfl rfl rfl ?_
              obtain ⟨b15, f16, h17⟩ := zd_2_8 hJ12.1
              have h18 := zDm_b h17
              refine w_gf dX5_readTest_33 rfl hJ12.1.1 zs_2 f16 ?_
              replace hb : zHd _ := hb b15 (ziR f16) (zDm_or h17)
              refine w_gf dX5_readTest_36 rfl hJ12.1.1 (zs_1_0 h17) (zr_1_0_15 h17 hJ12.1) ?_
              refine w_bi dX5_readTest_39 (c := (-17)) (by decide) ?_
              refine w_iv dX5_readTest_41 rfl rfl (As := [.int (-17)]) rfl rfl hJ12.1.1 (zs_1_13 h17) (Nat.le_of_ble_eq_true rfl) ?_
              obtain ⟨P21, hp22, hb⟩ := hb
              replace hb : zHd _ := hb
              have hp22c : b_515 (b15 + 13) (zi M3) ((-17) : Int32).toInt P21 := by rw [zt_m17]; exact hp22
              refine ZV.imp (u_515 (b15 + 13) (zLw_of h17) (-17) hN hJ12.1 hp22c) ?_
              rintro _ ⟨M19, rfl, hJ20, hq23⟩
              replace hb : zHd _ := hb  (zi M19) (zi_fr hJ20.2) hq23
              have hJ25 := zJ_trans hJ12 hJ20 (zSub_cons (fun _ _ h h' hk => ((zDm_or h17).elim (fun e => zIR_s (zIR_s (zIR_e (by omega) (by omega) hk))) (fun e => zIR_s (zIR_s (zIR_s (zIR_e (by omega) (by omega) hk)))))) (zSub_cons (fun _ _ h h' hk => ((zDm_or h17).elim (fun e => zIR_s (zIR_s (zIR_s (zIR_s (zIR_a (by omega) (by omega)))))) (fun e => zIR_s (zIR_s (zIR_s (zIR_s (zIR_s (zIR_a (by omega) (by omega))))))))) zSub_nil))
              show ZW _ _ _ _ _ _ _ (44, [some (.ref 2), some (.int 3), some (.int v11_2), some (.int v11_3)], [], M19)
              obtain ⟨m, hm, hI⟩ := hb
              exact (ih m hm).2.2.1 M19 v11_2 v11_3 hJ25 (by omega) (by omega) (by omega) (by omega) hI
            · skip
              replace hb : zHd _ := hb.2 h14
              refine w_ile_t dX5_readTest_29 (t := 44) rfl (by omega) ?_
              obtain ⟨m, hm, hI⟩ := hb
              exact (ih m hm).2.2.1 M3 v11_2 v11_3 hJ12 (by omega) (by omega) (by omega) (by omega) hI
          · skip
            replace hb : zHd _ := hb.2 h13
            refine w_ine_f dX5_readTest_23 (t := 28) rfl (by omega) ?_
            refine w_ic dX5_readTest_26 zi_0 ?_
            refine w_en dX5_readTest_27 rfl ?_
            exact ⟨_, _, rfl, (by have := zt_0; omega), (by have := zt_0; omega), hJ12, hb⟩
      · intro M v44_2 v44_3 hJ v44_20 v44_21 v44_30 v44_31 hI
        have hb : zHd _ := hb44 n (zi M) v44_2.toInt v44_3.toInt (zi_fr hJ.2) v44_20 v44_21 v44_30 v44_31 hI
        refine w_lo dX5_readTest_44 rfl rfl rfl rfl ?_
        refine w_iv dX5_readTest_45 rfl rfl (As := []) rfl rfl hJ.1.1 zs_2 (Nat.le_of_ble_eq_true rfl) ?_
        obtain ⟨P28, hp29, hb⟩ := hb
        replace hb : zHd _ := hb
        refine ZV.imp (u_1287 hN hJ.1 hp29) ?_
        rintro _ ⟨x31, M26, rfl, h32, h33, hJ27, hq30⟩
        replace hb : zHd _ := hb x31.toInt h32 h33 (zi M26) (zi_fr hJ27.2) hq30
        have hJ35 := zJ_trans hJ hJ27 zSub_nil
        show ZW _ _ _ _ _ _ _ (48, [some (.ref 2), some (.int 3), some (.int v44_2), some (.int v44_3)], [.int x31], M26)
        refine w_bi dX5_readTest_48 (c := 22) (by decide) ?_
        rcases Int.decEq x31.toInt (22 : Int) with h36 | h36
        · skip
          replace hb : zHd _ := hb.1 h36
          refine w_ceq_f dX5_readTest_50 (t := 56) rfl (by have := zt_22; omega) ?_
          refine w_gt dX5_readTest_53 (t := 66) rfl ?_
          obtain ⟨m, hm, hI⟩ := hb
          exact (ih m hm).2.2.2 M26 v44_2 v44_3 hJ35 (by omega) (by omega) hI
        · skip
          replace hb : zHd _ := hb.2 h36
          refine w_ceq_t dX5_readTest_50 (t := 56) rfl (by have := zt_22; omega) ?_
          refine w_lo dX5_readTest_56 rfl rfl rfl rfl ?_
          refine w_iv dX5_readTest_57 rfl rfl (As := []) rfl rfl hJ35.1.1 zs_2 (Nat.le_of_ble_eq_true rfl) ?_
          obtain ⟨P39, hp40, hb⟩ := hb
          replace hb : zHd _ := hb
          refine ZV.imp (u_1289 hN hJ35.1 hp40) ?_
          rintro _ ⟨M37, rfl, hJ38, hq41⟩
          replace hb : zHd _ := hb  (zi M37) (zi_fr hJ38.2) hq41
          have hJ43 := zJ_trans hJ35 hJ38 (zSub_cons (fun _ _ h h' hk => zIR_s (zIR_s (zIR_s (zIR_s (zIR_s (zIR_s (zIR_e (by omega) (by omega) hk))))))) zSub_nil)
          show ZW _ _ _ _ _ _ _ (60, [some (.ref 2), some (.int 3), some (.int v44_2), some (.int v44_3)], [], M37)
          refine w_inc (kk := 3) dX5_readTest_60 rfl (m := 1) (by decide) (by omega) ?_
          intro x44 h45
          refine ⟨_, rfl, ?_⟩
          replace hb : zHd _ := hb x44.toInt h45
          show ZW _ _ _ _ _ _ _ (63, [some (.ref 2), some (.int 3), some (.int v44_2), some (.int x44)], [], M37)
          refine w_gt dX5_readTest_63 (t := 11) rfl ?_
          obtain ⟨m, hm, hI⟩ := hb
          exact (ih m hm).2.1 M37 v44_2 x44 hJ43 (by omega) (by omega) (by omega) (by omega) hI
      · intro M v66_2 u66_3 hJ v66_20 v66_21 hI
        have hb : zHd _ := hb66 n (zi M) v66_2.toInt (zi_fr hJ.2) v66_20 v66_21 hI
        refine w_lo dX5_readTest_66 rfl rfl rfl rfl ?_
        rcases zcut (0 : Int) v66_2.toInt with h46 | h46
        · skip
          replace hb : zHd _ := hb.1 h46
          refine w_ile_f dX5_readTest_67 (t := 82) rfl (by omega) ?_
          refine w_lo dX5_readTest_70 rfl rfl rfl rfl ?_
          obtain ⟨b47, f48, h49⟩ := zd_2_8 hJ.1
          have h50 := zDm_b h49
          refine w_gf dX5_readTest_71 rfl hJ.1.1 zs_2 f48 ?_
          replace hb : zHd _ := hb b47 (ziR f48) (zDm_or h49)
          refine w_gf dX5_readTest_74 rfl hJ.1.1 (zs_1_0 h49) (zr_1_0_15 h49 hJ.1) ?_
          refine w_bi dX5_readTest_77 (c := (-18)) (by decide) ?_
          refine w_iv dX5_readTest_79 rfl rfl (As := [.int (-18)]) rfl rfl hJ.1.1 (zs_1_13 h49) (Nat.le_of_ble_eq_true rfl) ?_
          obtain ⟨P53, hp54, hb⟩ := hb
          replace hb : zHd _ := hb
          have hp54c : b_515 (b47 + 13) (zi M) ((-18) : Int32).toInt P53 := by rw [zt_m18]; exact hp54
          refine ZV.imp (u_515 (b47 + 13) (zLw_of h49) (-18) hN hJ.1 hp54c) ?_
          rintro _ ⟨M51, rfl, hJ52, hq55⟩
          replace hb : zHd _ := hb  (zi M51) (zi_fr hJ52.2) hq55
          have hJ57 := zJ_trans hJ hJ52 (zSub_cons (fun _ _ h h' hk => ((zDm_or h49).elim (fun e => zIR_s (zIR_s (zIR_e (by omega) (by omega) hk))) (fun e => zIR_s (zIR_s (zIR_s (zIR_e (by omega) (by omega) hk)))))) (zSub_cons (fun _ _ h h' hk => ((zDm_or h49).elim (fun e => zIR_s (zIR_s (zIR_s (zIR_s (zIR_a (by omega) (by omega)))))) (fun e => zIR_s (zIR_s (zIR_s (zIR_s (zIR_s (zIR_a (by omega) (by omega))))))))) zSub_nil))
          show ZW _ _ _ _ _ _ _ (82, [some (.ref 2), some (.int 3), some (.int v66_2), some (.int u66_3)], [], M51)
          refine w_lo dX5_readTest_82 rfl rfl rfl rfl ?_
          refine w_iv dX5_readTest_83 rfl rfl (As := []) rfl rfl hJ57.1.1 zs_2 (Nat.le_of_ble_eq_true rfl) ?_
          obtain ⟨P60, hp61, hb⟩ := hb
          replace hb : zHd _ := hb
          refine ZV.imp (u_1287 hN hJ57.1 hp61) ?_
          rintro _ ⟨x63, M58, rfl, h64, h65, hJ59, hq62⟩
          replace hb : zHd _ := hb x63.toInt h64 h65 (zi M58) (zi_fr hJ59.2) hq62
          have hJ67 := zJ_trans hJ57 hJ59 zSub_nil
          show ZW _ _ _ _ _ _ _ (86, [some (.ref 2), some (.int 3), some (.int v66_2), some (.int u66_3)], [.int x63], M58)
          refine w_bi dX5_readTest_86 (c := 21) (by decide) ?_
          rcases Int.decEq x63.toInt (21 : Int) with h68 | h68
          · skip
            replace hb : zHd _ := hb.1 h68
            refine w_ceq_f dX5_readTest_88 (t := 94) rfl (by have := zt_21; omega) ?_
            refine w_gt dX5_readTest_91 (t := 104) rfl ?_
            refine w_ic dX5_readTest_104 zi_1 ?_
            refine w_en dX5_readTest_105 rfl ?_
            exact ⟨_, _, rfl, (by have := zt_1; omega), (by have := zt_1; omega), hJ67, hb⟩
          · skip
            replace hb : zHd _ := hb.2 h68
            refine w_ceq_t dX5_readTest_88 (t := 94) rfl (by have := zt_21; omega) ?_
            refine w_lo dX5_readTest_94 rfl rfl rfl rfl ?_
            refine w_iv dX5_readTest_95 rfl rfl (As := []) rfl rfl hJ67.1.1 zs_2 (Nat.le_of_ble_eq_true rfl) ?_
            obtain ⟨P71, hp72, hb⟩ := hb
            replace hb : zHd _ := hb
            refine ZV.imp (u_1289 hN hJ67.1 hp72) ?_
            rintro _ ⟨M69, rfl, hJ70, hq73⟩
            replace hb : zHd _ := hb  (zi M69) (zi_fr hJ70.2) hq73
            have hJ75 := zJ_trans hJ67 hJ70 (zSub_cons (fun _ _ h h' hk => zIR_s (zIR_s (zIR_s (zIR_s (zIR_s (zIR_s (zIR_e (by omega) (by omega) hk))))))) zSub_nil)
            show ZW _ _ _ _ _ _ _ (98, [some (.ref 2), some (.int 3), some (.int v66_2), some (.int u66_3)], [], M69)
            refine w_inc (kk := 2) dX5_readTest_98 rfl (m := 1) (by decide) (by omega) ?_
            intro x76 h77
            refine ⟨_, rfl, ?_⟩
            replace hb : zHd _ := hb x76.toInt h77
            show ZW _ _ _ _ _ _ _ (101, [some (.ref 2), some (.int 3), some (.int x76), some (.int u66_3)], [], M69)
            refine w_gt dX5_readTest_101 (t := 2) rfl ?_
            obtain ⟨m, hm, hI⟩ := hb
            exact (ih m hm).1 M69 x76 (some (.int u66_3)) hJ75 (by omega) (by omega) hI
        · skip
          replace hb : zHd _ := hb.2 h46
          refine w_ile_t dX5_readTest_67 (t := 82) rfl (by omega) ?_
          refine w_lo dX5_readTest_82 rfl rfl rfl rfl ?_
          refine w_iv dX5_readTest_83 rfl rfl (As := []) rfl rfl hJ.1.1 zs_2 (Nat.le_of_ble_eq_true rfl) ?_
          obtain ⟨P80, hp81, hb⟩ := hb
          replace hb : zHd _ := hb
          refine ZV.imp (u_1287 hN hJ.1 hp81) ?_
          rintro _ ⟨x83, M78, rfl, h84, h85, hJ79, hq82⟩
          replace hb : zHd _ := hb x83.toInt h84 h85 (zi M78) (zi_fr hJ79.2) hq82
          have hJ87 := zJ_trans hJ hJ79 zSub_nil
          show ZW _ _ _ _ _ _ _ (86, [some (.ref 2), some (.int 3), some (.int v66_2), some (.int u66_3)], [.int x83], M78)
          refine w_bi dX5_readTest_86 (c := 21) (by decide) ?_
          rcases Int.decEq x83.toInt (21 : Int) with h88 | h88
          · skip
            replace hb : zHd _ := hb.1 h88
            refine w_ceq_f dX5_readTest_88 (t := 94) rfl (by have := zt_21; omega) ?_
            refine w_gt dX5_readTest_91 (t := 104) rfl ?_
            refine w_ic dX5_readTest_104 zi_1 ?_
            refine w_en dX5_readTest_105 rfl ?_
            exact ⟨_, _, rfl, (by have := zt_1; omega), (by have := zt_1; omega), hJ87, hb⟩
          · skip
            replace hb : zHd _ := hb.2 h88
            refine w_ceq_t dX5_readTest_88 (t := 94) rfl (by have := zt_21; omega) ?_
            refine w_lo dX5_readTest_94 rfl rfl rfl rfl ?_
            refine w_iv dX5_readTest_95 rfl rfl (As := []) rfl rfl hJ87.1.1 zs_2 (Nat.le_of_ble_eq_true rfl) ?_
            obtain ⟨P91, hp92, hb⟩ := hb
            replace hb : zHd _ := hb
            refine ZV.imp (u_1289 hN hJ87.1 hp92) ?_
            rintro _ ⟨M89, rfl, hJ90, hq93⟩
            replace hb : zHd _ := hb  (zi M89) (zi_fr hJ90.2) hq93
            have hJ95 := zJ_trans hJ87 hJ90 (zSub_cons (fun _ _ h h' hk => zIR_s (zIR_s (zIR_s (zIR_s (zIR_s (zIR_s (zIR_e (by omega) (by omega) hk))))))) zSub_nil)
            show ZW _ _ _ _ _ _ _ (98, [some (.ref 2), some (.int 3), some (.int v66_2), some (.int u66_3)], [], M89)
            refine w_inc (kk := 2) dX5_readTest_98 rfl (m := 1) (by decide) (by omega) ?_
            intro x96 h97
            refine ⟨_, rfl, ?_⟩
            replace hb : zHd _ := hb x96.toInt h97
            show ZW _ _ _ _ _ _ _ (101, [some (.ref 2), some (.int 3), some (.int x96), some (.int u66_3)], [], M89)
            refine w_gt dX5_readTest_101 (t := 2) rfl ?_
            obtain ⟨m, hm, hI⟩ := hb
            exact (ih m hm).1 M89 x96 (some (.int u66_3)) hJ95 (by omega) (by omega) hI
  have hb : zHd _ := hbE
  show ZW _ _ _ _ _ _ _ (0, [some (.ref 2), some (.int 3), none, none], [], M0)
  refine w_ic dX5_readTest_0 zi_0 ?_
  refine w_lo (ml' := [some (.ref 2), some (.int 3), some (.int 0), none]) dX5_readTest_1 rfl rfl rfl rfl ?_
  obtain ⟨m, hI⟩ := hb
  exact (main m).1 M0 0 none hJ0 (by have := zt_0; omega) (by have := zt_0; omega) hI
set_option maxRecDepth 100000 in
theorem u_1301_c2 {X : List Int32} {d N : Nat} {M0 : zM}  (hN : N ≤ 600) (hB0 : zB N M0) {Q : Int → zF → Prop} (hb : b_1301_c2 (zi M0) Q) : ZV X (d + 16) 1301 [.ref 2, .int 2] M0 (zRI N [(2, 3, 0), (2, 3, 1), (20, 21, 1), (41, 42, 1), (21, 22, 1000), (42, 43, 1000), (2, 3, 7)] M0 (0) (1) (fun v M' => Q v.toInt (zi M'))) := by
  have hJ0 : zJ N [(2, 3, 0), (2, 3, 1), (20, 21, 1), (41, 42, 1), (21, 22, 1000), (42, 43, 1000), (2, 3, 7)] M0 M0 := zJ_refl hB0
  refine ZV.of (ini := false) rfl (Nat.le_of_ble_eq_true rfl) (by decide +kernel) ?_
  obtain ⟨I2, I28, I167, hbE, hb2, hb28, hb167⟩ := hb
  replace hbE : zHd _ := hbE
  replace hb2 : zHd _ := hb2
  replace hb28 : zHd _ := hb28
  replace hb167 : zHd _ := hb167
  have main : ∀ n : Nat,
      (∀ (M : zM) (v2_2 : Int32) (o2_3 : Option Value), zJ N [(2, 3, 0), (2, 3, 1), (20, 21, 1), (41, 42, 1), (21, 22, 1000), (42, 43, 1000), (2, 3, 7)] M0 M → ((0 : Int) ≤ v2_2.toInt) → (v2_2.toInt ≤ 1601) → I2 n (zi M) v2_2.toInt → ZW X (d + 15) 5 false (some .boolean) cX5_readFact (zRI N [(2, 3, 0), (2, 3, 1), (20, 21, 1), (41, 42, 1), (21, 22, 1000), (42, 43, 1000), (2, 3, 7)] M0 (0) (1) (fun v M' => Q v.toInt (zi M'))) (2, [some (.ref 2), some (.int 2), some (.int v2_2), o2_3], [], M)) ∧
      (∀ (M : zM) (v28_2 : Int32) (o28_3 : Option Value), zJ N [(2, 3, 0), (2, 3, 1), (20, 21, 1), (41, 42, 1), (21, 22, 1000), (42, 43, 1000), (2, 3, 7)] M0 M → ((0 : Int) ≤ v28_2.toInt) → (v28_2.toInt ≤ 1601) → I28 n (zi M) v28_2.toInt → ZW X (d + 15) 5 false (some .boolean) cX5_readFact (zRI N [(2, 3, 0), (2, 3, 1), (20, 21, 1), (41, 42, 1), (21, 22, 1000), (42, 43, 1000), (2, 3, 7)] M0 (0) (1) (fun v M' => Q v.toInt (zi M'))) (28, [some (.ref 2), some (.int 2), some (.int v28_2), o28_3], [], M)) ∧
      (∀ (M : zM) (v167_2 : Int32) (o167_3 : Option Value) (s167_0 : Int32), zJ N [(2, 3, 0), (2, 3, 1), (20, 21, 1), (41, 42, 1), (21, 22, 1000), (42, 43, 1000), (2, 3, 7)] M0 M → ((0 : Int) ≤ v167_2.toInt) → (v167_2.toInt ≤ 1601) → ((-16 : Int) ≤ s167_0.toInt) → (s167_0.toInt ≤ 0) → I167 n (zi M) v167_2.toInt s167_0.toInt → ZW X (d + 15) 5 false (some .boolean) cX5_readFact (zRI N [(2, 3, 0), (2, 3, 1), (20, 21, 1), (41, 42, 1), (21, 22, 1000), (42, 43, 1000), (2, 3, 7)] M0 (0) (1) (fun v M' => Q v.toInt (zi M'))) (167, [some (.ref 2), some (.int 2), some (.int v167_2), o167_3], [.int s167_0], M)) := by
    intro n
    induction n using Nat.strongRecOn with
    | _ n ih =>
      refine ⟨?_, ?_, ?_⟩
      · intro M v2_2 o2_3 hJ v2_20 v2_21 hI
        have hb : zHd _ := hb2 n (zi M) v2_2.toInt (zi_fr hJ.2) v2_20 v2_21 hI
        refine w_lo dX5_readFact_2 rfl rfl rfl rfl ?_
        refine w_si dX5_readFact_3 (c := 1600) (by decide) ?_
        rcases zcut (1600 : Int) v2_2.toInt with h1 | h1
        · skip
          replace hb : zHd _ := hb.1 h1
          refine w_cgt_t dX5_readFact_6 (t := 28) rfl (by have := zt_1600; omega) ?_
          obtain ⟨m, hm, hI⟩ := hb
          exact (ih m hm).2.1 M v2_2 o2_3 hJ (by omega) (by omega) hI
        · skip
          replace hb : zHd _ := hb.2 h1
          refine w_cgt_f dX5_readFact_6 (t := 28) rfl (by have := zt_1600; omega) ?_
          refine w_lo dX5_readFact_9 rfl rfl rfl rfl ?_
          refine w_iv dX5_readFact_10 rfl rfl (As := []) rfl rfl hJ.1.1 zs_2 (Nat.le_of_ble_eq_true rfl) ?_
          obtain ⟨P4, hp5, hb⟩ := hb
          replace hb : zHd _ := hb
          refine ZV.imp (u_1287 hN hJ.1 hp5) ?_
          rintro _ ⟨x7, M2, rfl, h8, h9, hJ3, hq6⟩
          replace hb : zHd _ := hb x7.toInt h8 h9 (zi M2) (zi_fr hJ3.2) hq6
          have hJ11 := zJ_trans hJ hJ3 zSub_nil
          show ZW _ _ _ _ _ _ _ (13, [some (.ref 2), some (.int 2), some (.int v2_2), o2_3], [.int x7], M2)
          refine w_bi dX5_readFact_13 (c := 23) (by decide) ?_
          rcases Int.decEq x7.toInt (23 : Int) with h12 | h12
          · skip
            replace hb : zHd _ := hb.1 h12
            refine w_cne_t dX5_readFact_15 (t := 28) rfl (by have := zt_23; omega) ?_
            obtain ⟨m, hm, hI⟩ := hb
            exact (ih m hm).2.1 M2 v2_2 o2_3 hJ11 (by omega) (by omega) hI
          · skip
            replace hb : zHd _ := hb.2 h12
            refine w_cne_f dX5_readFact_15 (t := 28) rfl (by have := zt_23; omega) ?_
            refine w_lo dX5_readFact_18 rfl rfl rfl rfl ?_
            refine w_iv dX5_readFact_19 rfl rfl (As := []) rfl rfl hJ11.1.1 zs_2 (Nat.le_of_ble_eq_true rfl) ?_
            obtain ⟨P15, hp16, hb⟩ := hb
            replace hb : zHd _ := hb
            refine ZV.imp (u_1289 hN hJ11.1 hp16) ?_
            rintro _ ⟨M13, rfl, hJ14, hq17⟩
            replace hb : zHd _ := hb  (zi M13) (zi_fr hJ14.2) hq17
            have hJ19 := zJ_trans hJ11 hJ14 (zSub_cons (fun _ _ h h' hk => zIR_s (zIR_s (zIR_s (zIR_s (zIR_s (zIR_s (zIR_e (by omega) (by omega) hk))))))) zSub_nil)
            show ZW _ _ _ _ _ _ _ (22, [some (.ref 2), some (.int 2), some (.int v2_2), o2_3], [], M13)
            refine w_inc (kk := 2) dX5_readFact_22 rfl (m := 1) (by decide) (by omega) ?_
            intro x20 h21
            refine ⟨_, rfl, ?_⟩
            replace hb : zHd _ := hb x20.toInt h21
            show ZW _ _ _ _ _ _ _ (25, [some (.ref 2), some (.int 2), some (.int x20), o2_3], [], M13)
            refine w_gt dX5_readFact_25 (t := 2) rfl ?_
            obtain ⟨m, hm, hI⟩ := hb
            exact (ih m hm).1 M13 x20 o2_3 hJ19 (by omega) (by omega) hI
      · intro M v28_2 o28_3 hJ v28_20 v28_21 hI
        have hb : zHd _ := hb28 n (zi M) v28_2.toInt (zi_fr hJ.2) v28_20 v28_21 hI
        refine w_lo dX5_readFact_28 rfl rfl rfl rfl ?_
        refine w_bi dX5_readFact_29 (c := 91) (by decide) ?_
        refine w_iv dX5_readFact_31 rfl rfl (As := [.int 91]) rfl rfl hJ.1.1 zs_2 (Nat.le_of_ble_eq_true rfl) ?_
        obtain ⟨P24, hp25, hb⟩ := hb
        replace hb : zHd _ := hb
        have hp25c : b_1299 (zi M) (91 : Int32).toInt P24 := by rw [zt_91]; exact hp25
        refine ZV.imp (u_1299 91 (by have := zt_91; omega) (by have := zt_91; omega) hN hJ.1 hp25c) ?_
        rintro _ ⟨x27, M22, rfl, h28, h29, hJ23, hq26⟩
        replace hb : zHd _ := hb x27.toInt h28 h29 (zi M22) (zi_fr hJ23.2) hq26
        have hJ31 := zJ_trans hJ hJ23 zSub_nil
        show ZW _ _ _ _ _ _ _ (34, [some (.ref 2), some (.int 2), some (.int v28_2), o28_3], [.int x27], M22)
        rcases Int.decEq x27.toInt (0 : Int) with h32 | h32
        · skip
          replace hb : zHd _ := hb.1 h32
          refine w_ieq_f dX5_readFact_34 (t := 87) rfl (by omega) ?_
          refine w_lo dX5_readFact_37 rfl rfl rfl rfl ?_
          refine w_bi dX5_readFact_38 (c := 8) (by decide) ?_
          refine w_clt_t dX5_readFact_40 (t := 49) rfl (by have := zt_2; have := zt_8; omega) ?_
          refine w_lo dX5_readFact_49 rfl rfl rfl rfl ?_
          refine w_iv dX5_readFact_50 rfl rfl (As := []) rfl rfl hJ31.1.1 zs_2 (Nat.le_of_ble_eq_true rfl) ?_
          obtain ⟨P35, hp36, hb⟩ := hb
          replace hb : zHd _ := hb
          refine ZV.imp (u_1289 hN hJ31.1 hp36) ?_
          rintro _ ⟨M33, rfl, hJ34, hq37⟩
          replace hb : zHd _ := hb  (zi M33) (zi_fr hJ34.2) hq37
          have hJ39 := zJ_trans hJ31 hJ34 (zSub_cons (fun _ _ h h' hk => zIR_s (zIR_s (zIR_s (zIR_s (zIR_s (zIR_s (zIR_e (by omega) (by omega) hk))))))) zSub_nil)
          show ZW _ _ _ _ _ _ _ (53, [some (.ref 2), some (.int 2), some (.int v28_2), o28_3], [], M33)
          refine w_lo dX5_readFact_53 rfl rfl rfl rfl ?_
          refine w_lo dX5_readFact_54 rfl rfl rfl rfl ?_
          refine w_ic dX5_readFact_55 zi_1 ?_
          refine w_pu (st' := [.int 3, .ref 2]) dX5_readFact_56 rfl rfl ?_
          refine w_iv dX5_readFact_57 rfl rfl (As := [.int 3]) rfl rfl hJ39.1.1 zs_2 (Nat.le_of_ble_eq_true rfl) ?_
          obtain ⟨P42, hp43, hb⟩ := hb
          replace hb : zHd _ := hb
          refine ZV.imp (u_1300_c3 hN hJ39.1 hp43) ?_
          rintro _ ⟨x45, M40, rfl, h46, h47, hJ41, hq44⟩
          replace hb : zHd _ := hb x45.toInt h46 h47 (zi M40) (zi_fr hJ41.2) hq44
          have hJ49 := zJ_trans hJ39 hJ41 (zSub_cons (fun _ _ h h' hk => zIR_e (by omega) (by omega) hk) (zSub_cons (fun _ _ h h' hk => zIR_s (zIR_e (by omega) (by omega) hk)) (zSub_cons (fun _ _ h h' hk => zIR_s (zIR_s (zIR_e (by omega) (by omega) hk))) (zSub_cons (fun _ _ h h' hk => zIR_s (zIR_s (zIR_s (zIR_e (by omega) (by omega) hk)))) (zSub_cons (fun _ _ h h' hk => zIR_s (zIR_s (zIR_s (zIR_s (zIR_a (by omega) (by omega)))))) (zSub_cons (fun _ _ h h' hk => zIR_s (zIR_s (zIR_s (zIR_s (zIR_s (zIR_a (by omega) (by omega))))))) (zSub_cons (fun _ _ h h' hk => zIR_s (zIR_s (zIR_s (zIR_s (zIR_s (zIR_s (zIR_e (by omega) (by omega) hk))))))) zSub_nil)))))))
          show ZW _ _ _ _ _ _ _ (60, [some (.ref 2), some (.int 2), some (.int v28_2), o28_3], [.int x45], M40)
          rcases Int.decEq x45.toInt (0 : Int) with h50 | h50
          · skip
            replace hb : zHd _ := hb.1 h50
            refine w_ine_t dX5_readFact_60 (t := 65) rfl (by omega) ?_
            refine w_lo dX5_readFact_65 rfl rfl rfl rfl ?_
            refine w_bi dX5_readFact_66 (c := 93) (by decide) ?_
            refine w_iv dX5_readFact_68 rfl rfl (As := [.int 93]) rfl rfl hJ49.1.1 zs_2 (Nat.le_of_ble_eq_true rfl) ?_
            obtain ⟨P53, hp54, hb⟩ := hb
            replace hb : zHd _ := hb
            have hp54c : b_1299 (zi M40) (93 : Int32).toInt P53 := by rw [zt_93]; exact hp54
            refine ZV.imp (u_1299 93 (by have := zt_93; omega) (by have := zt_93; omega) hN hJ49.1 hp54c) ?_
            rintro _ ⟨x56, M51, rfl, h57, h58, hJ52, hq55⟩
            replace hb : zHd _ := hb x56.toInt h57 h58 (zi M51) (zi_fr hJ52.2) hq55
            have hJ60 := zJ_trans hJ49 hJ52 zSub_nil
            show ZW _ _ _ _ _ _ _ (71, [some (.ref 2), some (.int 2), some (.int v28_2), o28_3], [.int x56], M51)
            rcases Int.decEq x56.toInt (0 : Int) with h61 | h61
            · skip
              replace hb : zHd _ := hb.1 h61
              refine w_ine_t dX5_readFact_71 (t := 80) rfl (by omega) ?_
              refine w_lo dX5_readFact_80 rfl rfl rfl rfl ?_
              refine w_iv dX5_readFact_81 rfl rfl (As := []) rfl rfl hJ60.1.1 zs_2 (Nat.le_of_ble_eq_true rfl) ?_
              obtain ⟨P64, hp65, hb⟩ := hb
              replace hb : zHd _ := hb
              refine ZV.imp (u_1289 hN hJ60.1 hp65) ?_
              rintro _ ⟨M62, rfl, hJ63, hq66⟩
              replace hb : zHd _ := hb  (zi M62) (zi_fr hJ63.2) hq66
              have hJ68 := zJ_trans hJ60 hJ63 (zSub_cons (fun _ _ h h' hk => zIR_s (zIR_s (zIR_s (zIR_s (zIR_s (zIR_s (zIR_e (by omega) (by omega) hk))))))) zSub_nil)
              show ZW _ _ _ _ _ _ _ (84, [some (.ref 2), some (.int 2), some (.int v28_2), o28_3], [], M62)
              refine w_gt dX5_readFact_84 (t := 203) rfl ?_
              refine w_lo dX5_readFact_203 rfl rfl rfl rfl ?_
              refine w_ic dX5_readFact_204 zi_2 ?_
              refine w_remE dX5_readFact_205 (by omega) (by have := zt_2; omega) ?_
              intro x69 h70 h71 h72
              have := zt_2
              replace hb : zHd _ := hb x69.toInt h70 (by omega) (by rw [h72, zt_2])
              refine w_ic dX5_readFact_206 zi_1 ?_
              rcases Int.decEq x69.toInt (1 : Int) with h73 | h73
              · skip
                replace hb : zHd _ := hb.1 h73
                refine w_cne_t dX5_readFact_207 (t := 222) rfl (by have := zt_1; omega) ?_
                refine w_ic dX5_readFact_222 zi_1 ?_
                refine w_en dX5_readFact_223 rfl ?_
                exact ⟨_, _, rfl, (by have := zt_1; omega), (by have := zt_1; omega), hJ68, hb⟩
              · skip
                replace hb : zHd _ := hb.2 h73
                refine w_cne_f dX5_readFact_207 (t := 222) rfl (by have := zt_1; omega) ?_
                refine w_lo dX5_readFact_210 rfl rfl rfl rfl ?_
                obtain ⟨b74, f75, h76⟩ := zd_2_8 hJ68.1
                have h77 := zDm_b h76
                refine w_gf dX5_readFact_211 rfl hJ68.1.1 zs_2 f75 ?_
                replace hb : zHd _ := hb b74 (ziR f75) (zDm_or h76)
                refine w_gf dX5_readFact_214 rfl hJ68.1.1 (zs_1_0 h76) (zr_1_0_15 h76 hJ68.1) ?_
                refine w_bi dX5_readFact_217 (c := (-8)) (by decide) ?_
                refine w_iv dX5_readFact_219 rfl rfl (As := [.int (-8)]) rfl rfl hJ68.1.1 (zs_1_13 h76) (Nat.le_of_ble_eq_true rfl) ?_
                obtain ⟨P80, hp81, hb⟩ := hb
                replace hb : zHd _ := hb
                have hp81c : b_515 (b74 + 13) (zi M62) ((-8) : Int32).toInt P80 := by rw [zt_m8]; exact hp81
                refine ZV.imp (u_515 (b74 + 13) (zLw_of h76) (-8) hN hJ68.1 hp81c) ?_
                rintro _ ⟨M78, rfl, hJ79, hq82⟩
                replace hb : zHd _ := hb  (zi M78) (zi_fr hJ79.2) hq82
                have hJ84 := zJ_trans hJ68 hJ79 (zSub_cons (fun _ _ h h' hk => ((zDm_or h76).elim (fun e => zIR_s (zIR_s (zIR_e (by omega) (by omega) hk))) (fun e => zIR_s (zIR_s (zIR_s (zIR_e (by omega) (by omega) hk)))))) (zSub_cons (fun _ _ h h' hk => ((zDm_or h76).elim (fun e => zIR_s (zIR_s (zIR_s (zIR_s (zIR_a (by omega) (by omega)))))) (fun e => zIR_s (zIR_s (zIR_s (zIR_s (zIR_s (zIR_a (by omega) (by omega))))))))) zSub_nil))
                show ZW _ _ _ _ _ _ _ (222, [some (.ref 2), some (.int 2), some (.int v28_2), o28_3], [], M78)
                refine w_ic dX5_readFact_222 zi_1 ?_
                refine w_en dX5_readFact_223 rfl ?_
                exact ⟨_, _, rfl, (by have := zt_1; omega), (by have := zt_1; omega), hJ84, hb⟩
            · skip
              replace hb : zHd _ := hb.2 h61
              refine w_ine_f dX5_readFact_71 (t := 80) rfl (by omega) ?_
              refine w_lo dX5_readFact_74 rfl rfl rfl rfl ?_
              refine w_ic dX5_readFact_75 zi_1 ?_
              refine w_iv dX5_readFact_76 rfl rfl (As := [.int 1]) rfl rfl hJ60.1.1 zs_2 (Nat.le_of_ble_eq_true rfl) ?_
              obtain ⟨P87, hp88, hb⟩ := hb
              replace hb : zHd _ := hb
              have hp88c : b_1286 (zi M51) (1 : Int32).toInt P87 := by rw [zt_1]; exact hp88
              refine ZV.imp (u_1286 1 (by have := zt_1; omega) (by have := zt_1; omega) hN hJ60.1 hp88c) ?_
              rintro _ ⟨x90, M85, rfl, h91, h92, hJ86, hq89⟩
              replace hb : zHd _ := hb x90.toInt h91 h92 (zi M85) (zi_fr hJ86.2) hq89
              have hJ94 := zJ_trans hJ60 hJ86 (zSub_cons (fun _ _ h h' hk => zIR_e (by omega) (by omega) hk) (zSub_cons (fun _ _ h h' hk => zIR_s (zIR_e (by omega) (by omega) hk)) zSub_nil))
              show ZW _ _ _ _ _ _ _ (79, [some (.ref 2), some (.int 2), some (.int v28_2), o28_3], [.int x90], M85)
              refine w_eni dX5_readFact_79 rfl (znb (by omega) (by omega)) ?_
              exact ⟨_, _, rfl, (by omega), (by omega), hJ94, hb⟩
          · skip
            replace hb : zHd _ := hb.2 h50
            refine w_ine_f dX5_readFact_60 (t := 65) rfl (by omega) ?_
            refine w_ic dX5_readFact_63 zi_0 ?_
            refine w_en dX5_readFact_64 rfl ?_
            exact ⟨_, _, rfl, (by have := zt_0; omega), (by have := zt_0; omega), hJ49, hb⟩
        · skip
          replace hb : zHd _ := hb.2 h32
          refine w_ieq_t dX5_readFact_34 (t := 87) rfl (by omega) ?_
          refine w_lo dX5_readFact_87 rfl rfl rfl rfl ?_
          refine w_iv dX5_readFact_88 rfl rfl (As := []) rfl rfl hJ31.1.1 zs_2 (Nat.le_of_ble_eq_true rfl) ?_
          obtain ⟨P97, hp98, hb⟩ := hb
          replace hb : zHd _ := hb
          refine ZV.imp (u_1287 hN hJ31.1 hp98) ?_
          rintro _ ⟨x100, M95, rfl, h101, h102, hJ96, hq99⟩
          replace hb : zHd _ := hb x100.toInt h101 h102 (zi M95) (zi_fr hJ96.2) hq99
          have hJ104 := zJ_trans hJ31 hJ96 zSub_nil
          show ZW _ _ _ _ _ _ _ (91, [some (.ref 2), some (.int 2), some (.int v28_2), o28_3], [.int x100], M95)
          refine w_bi dX5_readFact_91 (c := 24) (by decide) ?_
          rcases Int.decEq x100.toInt (24 : Int) with h105 | h105
          · skip
            replace hb : zHd _ := hb.1 h105
            refine w_cne_t dX5_readFact_93 (t := 114) rfl (by have := zt_24; omega) ?_
            refine w_lo dX5_readFact_114 rfl rfl rfl rfl ?_
            refine w_lo dX5_readFact_115 rfl rfl rfl rfl ?_
            refine w_iv dX5_readFact_116 rfl rfl (As := [.int 2]) rfl rfl hJ104.1.1 zs_2 (Nat.le_of_ble_eq_true rfl) ?_
            obtain ⟨P108, hp109, hb⟩ := hb
            replace hb : zHd _ := hb
            refine ZV.imp (u_1297_c2 hN hJ104.1 hp109) ?_
            rintro _ ⟨x111, M106, rfl, h112, h113, hJ107, hq110⟩
            replace hb : zHd _ := hb x111.toInt h112 h113 (zi M106) (zi_fr hJ107.2) hq110
            have hJ115 := zJ_trans hJ104 hJ107 (zSub_cons (fun _ _ h h' hk => zIR_e (by omega) (by omega) hk) (zSub_cons (fun _ _ h h' hk => zIR_s (zIR_e (by omega) (by omega) hk)) (zSub_cons (fun _ _ h h' hk => zIR_s (zIR_s (zIR_e (by omega) (by omega) hk))) (zSub_cons (fun _ _ h h' hk => zIR_s (zIR_s (zIR_s (zIR_e (by omega) (by omega) hk)))) (zSub_cons (fun _ _ h h' hk => zIR_s (zIR_s (zIR_s (zIR_s (zIR_a (by omega) (by omega)))))) (zSub_cons (fun _ _ h h' hk => zIR_s (zIR_s (zIR_s (zIR_s (zIR_s (zIR_a (by omega) (by omega))))))) (zSub_cons (fun _ _ h h' hk => zIR_s (zIR_s (zIR_s (zIR_s (zIR_s (zIR_s (zIR_e (by omega) (by omega) hk))))))) zSub_nil)))))))
            show ZW _ _ _ _ _ _ _ (119, [some (.ref 2), some (.int 2), some (.int v28_2), o28_3], [.int x111], M106)
            rcases Int.decEq x111.toInt (0 : Int) with h116 | h116
            · skip
              replace hb : zHd _ := hb.1 h116
              refine w_ine_t dX5_readFact_119 (t := 124) rfl (by omega) ?_
              refine w_lo dX5_readFact_124 rfl rfl rfl rfl ?_
              refine w_bi dX5_readFact_125 (c := 60) (by decide) ?_
              refine w_iv dX5_readFact_127 rfl rfl (As := [.int 60]) rfl rfl hJ115.1.1 zs_2 (Nat.le_of_ble_eq_true rfl) ?_
              obtain ⟨P119, hp120, hb⟩ := hb
              replace hb : zHd _ := hb
              have hp120c : b_1299 (zi M106) (60 : Int32).toInt P119 := by rw [zt_60]; exact hp120
              refine ZV.imp (u_1299 60 (by have := zt_60; omega) (by have := zt_60; omega) hN hJ115.1 hp120c) ?_
              rintro _ ⟨x122, M117, rfl, h123, h124, hJ118, hq121⟩
              replace hb : zHd _ := hb x122.toInt h123 h124 (zi M117) (zi_fr hJ118.2) hq121
              have hJ126 := zJ_trans hJ115 hJ118 zSub_nil
              show ZW _ _ _ _ _ _ _ (130, [some (.ref 2), some (.int 2), some (.int v28_2), o28_3], [.int x122], M117)
              rcases Int.decEq x122.toInt (0 : Int) with h127 | h127
              · skip
                replace hb : zHd _ := hb.1 h127
                refine w_ieq_f dX5_readFact_130 (t := 138) rfl (by omega) ?_
                refine w_bi dX5_readFact_133 (c := (-14)) (by decide) ?_
                refine w_gt dX5_readFact_135 (t := 167) rfl ?_
                obtain ⟨m, hm, hI⟩ := hb
                exact (ih m hm).2.2 M117 v28_2 o28_3 (-14) hJ126 (by omega) (by omega) (by have := zt_m14; omega) (by have := zt_m14; omega) hI
              · skip
                replace hb : zHd _ := hb.2 h127
                refine w_ieq_t dX5_readFact_130 (t := 138) rfl (by omega) ?_
                refine w_lo dX5_readFact_138 rfl rfl rfl rfl ?_
                refine w_bi dX5_readFact_139 (c := 62) (by decide) ?_
                refine w_iv dX5_readFact_141 rfl rfl (As := [.int 62]) rfl rfl hJ126.1.1 zs_2 (Nat.le_of_ble_eq_true rfl) ?_
                obtain ⟨P130, hp131, hb⟩ := hb
                replace hb : zHd _ := hb
                have hp131c : b_1299 (zi M117) (62 : Int32).toInt P130 := by rw [zt_62]; exact hp131
                refine ZV.imp (u_1299 62 (by have := zt_62; omega) (by have := zt_62; omega) hN hJ126.1 hp131c) ?_
                rintro _ ⟨x133, M128, rfl, h134, h135, hJ129, hq132⟩
                replace hb : zHd _ := hb x133.toInt h134 h135 (zi M128) (zi_fr hJ129.2) hq132
                have hJ137 := zJ_trans hJ126 hJ129 zSub_nil
                show ZW _ _ _ _ _ _ _ (144, [some (.ref 2), some (.int 2), some (.int v28_2), o28_3], [.int x133], M128)
                rcases Int.decEq x133.toInt (0 : Int) with h138 | h138
                · skip
                  replace hb : zHd _ := hb.1 h138
                  refine w_ieq_f dX5_readFact_144 (t := 152) rfl (by omega) ?_
                  refine w_bi dX5_readFact_147 (c := (-15)) (by decide) ?_
                  refine w_gt dX5_readFact_149 (t := 167) rfl ?_
                  obtain ⟨m, hm, hI⟩ := hb
                  exact (ih m hm).2.2 M128 v28_2 o28_3 (-15) hJ137 (by omega) (by omega) (by have := zt_m15; omega) (by have := zt_m15; omega) hI
                · skip
                  replace hb : zHd _ := hb.2 h138
                  refine w_ieq_t dX5_readFact_144 (t := 152) rfl (by omega) ?_
                  refine w_lo dX5_readFact_152 rfl rfl rfl rfl ?_
                  refine w_bi dX5_readFact_153 (c := 61) (by decide) ?_
                  refine w_iv dX5_readFact_155 rfl rfl (As := [.int 61]) rfl rfl hJ137.1.1 zs_2 (Nat.le_of_ble_eq_true rfl) ?_
                  obtain ⟨P141, hp142, hb⟩ := hb
                  replace hb : zHd _ := hb
                  have hp142c : b_1299 (zi M128) (61 : Int32).toInt P141 := by rw [zt_61]; exact hp142
                  refine ZV.imp (u_1299 61 (by have := zt_61; omega) (by have := zt_61; omega) hN hJ137.1 hp142c) ?_
                  rintro _ ⟨x144, M139, rfl, h145, h146, hJ140, hq143⟩
                  replace hb : zHd _ := hb x144.toInt h145 h146 (zi M139) (zi_fr hJ140.2) hq143
                  have hJ148 := zJ_trans hJ137 hJ140 zSub_nil
                  show ZW _ _ _ _ _ _ _ (158, [some (.ref 2), some (.int 2), some (.int v28_2), o28_3], [.int x144], M139)
                  rcases Int.decEq x144.toInt (0 : Int) with h149 | h149
                  · skip
                    replace hb : zHd _ := hb.1 h149
                    refine w_ieq_f dX5_readFact_158 (t := 166) rfl (by omega) ?_
                    refine w_bi dX5_readFact_161 (c := (-16)) (by decide) ?_
                    refine w_gt dX5_readFact_163 (t := 167) rfl ?_
                    obtain ⟨m, hm, hI⟩ := hb
                    exact (ih m hm).2.2 M139 v28_2 o28_3 (-16) hJ148 (by omega) (by omega) (by have := zt_m16; omega) (by have := zt_m16; omega) hI
                  · skip
                    replace hb : zHd _ := hb.2 h149
                    refine w_ieq_t dX5_readFact_158 (t := 166) rfl (by omega) ?_
                    refine w_ic dX5_readFact_166 zi_0 ?_
                    obtain ⟨m, hm, hI⟩ := hb
                    exact (ih m hm).2.2 M139 v28_2 o28_3 0 hJ148 (by omega) (by omega) (by have := zt_0; omega) (by have := zt_0; omega) hI
            · skip
              replace hb : zHd _ := hb.2 h116
              refine w_ine_f dX5_readFact_119 (t := 124) rfl (by omega) ?_
              refine w_ic dX5_readFact_122 zi_0 ?_
              refine w_en dX5_readFact_123 rfl ?_
              exact ⟨_, _, rfl, (by have := zt_0; omega), (by have := zt_0; omega), hJ115, hb⟩
          · skip
            replace hb : zHd _ := hb.2 h105
            refine w_cne_f dX5_readFact_93 (t := 114) rfl (by have := zt_24; omega) ?_
            refine w_lo dX5_readFact_96 rfl rfl rfl rfl ?_
            refine w_iv dX5_readFact_97 rfl rfl (As := []) rfl rfl hJ104.1.1 zs_2 (Nat.le_of_ble_eq_true rfl) ?_
            obtain ⟨P152, hp153, hb⟩ := hb
            replace hb : zHd _ := hb
            refine ZV.imp (u_1289 hN hJ104.1 hp153) ?_
            rintro _ ⟨M150, rfl, hJ151, hq154⟩
            replace hb : zHd _ := hb  (zi M150) (zi_fr hJ151.2) hq154
            have hJ156 := zJ_trans hJ104 hJ151 (zSub_cons (fun _ _ h h' hk => zIR_s (zIR_s (zIR_s (zIR_s (zIR_s (zIR_s (zIR_e (by omega) (by omega) hk))))))) zSub_nil)
            show ZW _ _ _ _ _ _ _ (100, [some (.ref 2), some (.int 2), some (.int v28_2), o28_3], [], M150)
            refine w_lo dX5_readFact_100 rfl rfl rfl rfl ?_
            obtain ⟨b157, f158, h159⟩ := zd_2_8 hJ156.1
            have h160 := zDm_b h159
            refine w_gf dX5_readFact_101 rfl hJ156.1.1 zs_2 f158 ?_
            replace hb : zHd _ := hb b157 (ziR f158) (zDm_or h159)
            refine w_gf dX5_readFact_104 rfl hJ156.1.1 (zs_1_0 h159) (zr_1_0_15 h159 hJ156.1) ?_
            refine w_ic dX5_readFact_107 zi_1 ?_
            refine w_iv dX5_readFact_108 rfl rfl (As := [.int 1]) rfl rfl hJ156.1.1 (zs_1_13 h159) (Nat.le_of_ble_eq_true rfl) ?_
            obtain ⟨P163, hp164, hb⟩ := hb
            replace hb : zHd _ := hb
            have hp164c : b_515 (b157 + 13) (zi M150) (1 : Int32).toInt P163 := by rw [zt_1]; exact hp164
            refine ZV.imp (u_515 (b157 + 13) (zLw_of h159) 1 hN hJ156.1 hp164c) ?_
            rintro _ ⟨M161, rfl, hJ162, hq165⟩
            replace hb : zHd _ := hb  (zi M161) (zi_fr hJ162.2) hq165
            have hJ167 := zJ_trans hJ156 hJ162 (zSub_cons (fun _ _ h h' hk => ((zDm_or h159).elim (fun e => zIR_s (zIR_s (zIR_e (by omega) (by omega) hk))) (fun e => zIR_s (zIR_s (zIR_s (zIR_e (by omega) (by omega) hk)))))) (zSub_cons (fun _ _ h h' hk => ((zDm_or h159).elim (fun e => zIR_s (zIR_s (zIR_s (zIR_s (zIR_a (by omega) (by omega)))))) (fun e => zIR_s (zIR_s (zIR_s (zIR_s (zIR_s (zIR_a (by omega) (by omega))))))))) zSub_nil))
            show ZW _ _ _ _ _ _ _ (111, [some (.ref 2), some (.int 2), some (.int v28_2), o28_3], [], M161)
            refine w_gt dX5_readFact_111 (t := 203) rfl ?_
            refine w_lo dX5_readFact_203 rfl rfl rfl rfl ?_
            refine w_ic dX5_readFact_204 zi_2 ?_
            refine w_remE dX5_readFact_205 (by omega) (by have := zt_2; omega) ?_
            intro x168 h169 h170 h171
            have := zt_2
            replace hb : zHd _ := hb x168.toInt h169 (by omega) (by rw [h171, zt_2])
            refine w_ic dX5_readFact_206 zi_1 ?_
            rcases Int.decEq x168.toInt (1 : Int) with h172 | h172
            · skip
              replace hb : zHd _ := hb.1 h172
              refine w_cne_t dX5_readFact_207 (t := 222) rfl (by have := zt_1; omega) ?_
              refine w_ic dX5_readFact_222 zi_1 ?_
              refine w_en dX5_readFact_223 rfl ?_
              exact ⟨_, _, rfl, (by have := zt_1; omega), (by have := zt_1; omega), hJ167, hb⟩
            · skip
              replace hb : zHd _ := hb.2 h172
              refine w_cne_f dX5_readFact_207 (t := 222) rfl (by have := zt_1; omega) ?_
              refine w_lo dX5_readFact_210 rfl rfl rfl rfl ?_
              have f173 := (hJ162.2 (2) 8 (zNI_k (by decide) (by decide) (zNI (by omega) zNI_nil))).trans (f158)
              refine w_gf dX5_readFact_211 rfl hJ167.1.1 zs_2 f173 ?_
              refine w_gf dX5_readFact_214 rfl hJ167.1.1 (zs_1_0 h159) (zr_1_0_15 h159 hJ167.1) ?_
              refine w_bi dX5_readFact_217 (c := (-8)) (by decide) ?_
              refine w_iv dX5_readFact_219 rfl rfl (As := [.int (-8)]) rfl rfl hJ167.1.1 (zs_1_13 h159) (Nat.le_of_ble_eq_true rfl) ?_
              obtain ⟨P176, hp177, hb⟩ := hb
              replace hb : zHd _ := hb
              have hp177c : b_515 (b157 + 13) (zi M161) ((-8) : Int32).toInt P176 := by rw [zt_m8]; exact hp177
              refine ZV.imp (u_515 (b157 + 13) (zLw_of h159) (-8) hN hJ167.1 hp177c) ?_
              rintro _ ⟨M174, rfl, hJ175, hq178⟩
              replace hb : zHd _ := hb  (zi M174) (zi_fr hJ175.2) hq178
              have hJ180 := zJ_trans hJ167 hJ175 (zSub_cons (fun _ _ h h' hk => ((zDm_or h159).elim (fun e => zIR_s (zIR_s (zIR_e (by omega) (by omega) hk))) (fun e => zIR_s (zIR_s (zIR_s (zIR_e (by omega) (by omega) hk)))))) (zSub_cons (fun _ _ h h' hk => ((zDm_or h159).elim (fun e => zIR_s (zIR_s (zIR_s (zIR_s (zIR_a (by omega) (by omega)))))) (fun e => zIR_s (zIR_s (zIR_s (zIR_s (zIR_s (zIR_a (by omega) (by omega))))))))) zSub_nil))
              show ZW _ _ _ _ _ _ _ (222, [some (.ref 2), some (.int 2), some (.int v28_2), o28_3], [], M174)
              refine w_ic dX5_readFact_222 zi_1 ?_
              refine w_en dX5_readFact_223 rfl ?_
              exact ⟨_, _, rfl, (by have := zt_1; omega), (by have := zt_1; omega), hJ180, hb⟩
      · intro M v167_2 o167_3 s167_0 hJ v167_20 v167_21 s167_00 s167_01 hI
        have hb : zHd _ := hb167 n (zi M) v167_2.toInt s167_0.toInt (zi_fr hJ.2) v167_20 v167_21 s167_00 s167_01 hI
        refine w_lo (ml' := [some (.ref 2), some (.int 2), some (.int v167_2), some (.int s167_0)]) dX5_readFact_167 rfl rfl rfl rfl ?_
        refine w_lo dX5_readFact_168 rfl rfl rfl rfl ?_
        rcases Int.decEq s167_0.toInt (0 : Int) with h181 | h181
        · skip
          replace hb : zHd _ := hb.1 h181
          refine w_ine_t dX5_readFact_169 (t := 178) rfl (by omega) ?_
          refine w_lo dX5_readFact_178 rfl rfl rfl rfl ?_
          refine w_iv dX5_readFact_179 rfl rfl (As := []) rfl rfl hJ.1.1 zs_2 (Nat.le_of_ble_eq_true rfl) ?_
          obtain ⟨P184, hp185, hb⟩ := hb
          replace hb : zHd _ := hb
          refine ZV.imp (u_1289 hN hJ.1 hp185) ?_
          rintro _ ⟨M182, rfl, hJ183, hq186⟩
          replace hb : zHd _ := hb  (zi M182) (zi_fr hJ183.2) hq186
          have hJ188 := zJ_trans hJ hJ183 (zSub_cons (fun _ _ h h' hk => zIR_s (zIR_s (zIR_s (zIR_s (zIR_s (zIR_s (zIR_e (by omega) (by omega) hk))))))) zSub_nil)
          show ZW _ _ _ _ _ _ _ (182, [some (.ref 2), some (.int 2), some (.int v167_2), some (.int s167_0)], [], M182)
          refine w_lo dX5_readFact_182 rfl rfl rfl rfl ?_
          refine w_lo dX5_readFact_183 rfl rfl rfl rfl ?_
          refine w_iv dX5_readFact_184 rfl rfl (As := [.int 2]) rfl rfl hJ188.1.1 zs_2 (Nat.le_of_ble_eq_true rfl) ?_
          obtain ⟨P191, hp192, hb⟩ := hb
          replace hb : zHd _ := hb
          refine ZV.imp (u_1297_c2 hN hJ188.1 hp192) ?_
          rintro _ ⟨x194, M189, rfl, h195, h196, hJ190, hq193⟩
          replace hb : zHd _ := hb x194.toInt h195 h196 (zi M189) (zi_fr hJ190.2) hq193
          have hJ198 := zJ_trans hJ188 hJ190 (zSub_cons (fun _ _ h h' hk => zIR_e (by omega) (by omega) hk) (zSub_cons (fun _ _ h h' hk => zIR_s (zIR_e (by omega) (by omega) hk)) (zSub_cons (fun _ _ h h' hk => zIR_s (zIR_s (zIR_e (by omega) (by omega) hk))) (zSub_cons (fun _ _ h h' hk => zIR_s (zIR_s (zIR_s (zIR_e (by omega) (by omega) hk)))) (zSub_cons (fun _ _ h h' hk => zIR_s (zIR_s (zIR_s (zIR_s (zIR_a (by omega) (by omega)))))) (zSub_cons (fun _ _ h h' hk => zIR_s (zIR_s (zIR_s (zIR_s (zIR_s (zIR_a (by omega) (by omega))))))) (zSub_cons (fun _ _ h h' hk => zIR_s (zIR_s (zIR_s (zIR_s (zIR_s (zIR_s (zIR_e (by omega) (by omega) hk))))))) zSub_nil)))))))
          show ZW _ _ _ _ _ _ _ (187, [some (.ref 2), some (.int 2), some (.int v167_2), some (.int s167_0)], [.int x194], M189)
          rcases Int.decEq x194.toInt (0 : Int) with h199 | h199
          · skip
            replace hb : zHd _ := hb.1 h199
            refine w_ine_t dX5_readFact_187 (t := 192) rfl (by omega) ?_
            refine w_lo dX5_readFact_192 rfl rfl rfl rfl ?_
            obtain ⟨b200, f201, h202⟩ := zd_2_8 hJ198.1
            have h203 := zDm_b h202
            refine w_gf dX5_readFact_193 rfl hJ198.1.1 zs_2 f201 ?_
            replace hb : zHd _ := hb b200 (ziR f201) (zDm_or h202)
            refine w_gf dX5_readFact_196 rfl hJ198.1.1 (zs_1_0 h202) (zr_1_0_15 h202 hJ198.1) ?_
            refine w_lo dX5_readFact_199 rfl rfl rfl rfl ?_
            refine w_iv dX5_readFact_200 rfl rfl (As := [.int s167_0]) rfl rfl hJ198.1.1 (zs_1_13 h202) (Nat.le_of_ble_eq_true rfl) ?_
            obtain ⟨P206, hp207, hb⟩ := hb
            replace hb : zHd _ := hb
            refine ZV.imp (u_515 (b200 + 13) (zLw_of h202) s167_0 hN hJ198.1 hp207) ?_
            rintro _ ⟨M204, rfl, hJ205, hq208⟩
            replace hb : zHd _ := hb  (zi M204) (zi_fr hJ205.2) hq208
            have hJ210 := zJ_trans hJ198 hJ205 (zSub_cons (fun _ _ h h' hk => ((zDm_or h202).elim (fun e => zIR_s (zIR_s (zIR_e (by omega) (by omega) hk))) (fun e => zIR_s (zIR_s (zIR_s (zIR_e (by omega) (by omega) hk)))))) (zSub_cons (fun _ _ h h' hk => ((zDm_or h202).elim (fun e => zIR_s (zIR_s (zIR_s (zIR_s (zIR_a (by omega) (by omega)))))) (fun e => zIR_s (zIR_s (zIR_s (zIR_s (zIR_s (zIR_a (by omega) (by omega))))))))) zSub_nil))
            show ZW _ _ _ _ _ _ _ (203, [some (.ref 2), some (.int 2), some (.int v167_2), some (.int s167_0)], [], M204)
            refine w_lo dX5_readFact_203 rfl rfl rfl rfl ?_
            refine w_ic dX5_readFact_204 zi_2 ?_
            refine w_remE dX5_readFact_205 (by omega) (by have := zt_2; omega) ?_
            intro x211 h212 h213 h214
            have := zt_2
            replace hb : zHd _ := hb x211.toInt h212 (by omega) (by rw [h214, zt_2])
            refine w_ic dX5_readFact_206 zi_1 ?_
            rcases Int.decEq x211.toInt (1 : Int) with h215 | h215
            · skip
              replace hb : zHd _ := hb.1 h215
              refine w_cne_t dX5_readFact_207 (t := 222) rfl (by have := zt_1; omega) ?_
              refine w_ic dX5_readFact_222 zi_1 ?_
              refine w_en dX5_readFact_223 rfl ?_
              exact ⟨_, _, rfl, (by have := zt_1; omega), (by have := zt_1; omega), hJ210, hb⟩
            · skip
              replace hb : zHd _ := hb.2 h215
              refine w_cne_f dX5_readFact_207 (t := 222) rfl (by have := zt_1; omega) ?_
              refine w_lo dX5_readFact_210 rfl rfl rfl rfl ?_
              have f216 := (hJ205.2 (2) 8 (zNI_k (by decide) (by decide) (zNI (by omega) zNI_nil))).trans (f201)
              refine w_gf dX5_readFact_211 rfl hJ210.1.1 zs_2 f216 ?_
              refine w_gf dX5_readFact_214 rfl hJ210.1.1 (zs_1_0 h202) (zr_1_0_15 h202 hJ210.1) ?_
              refine w_bi dX5_readFact_217 (c := (-8)) (by decide) ?_
              refine w_iv dX5_readFact_219 rfl rfl (As := [.int (-8)]) rfl rfl hJ210.1.1 (zs_1_13 h202) (Nat.le_of_ble_eq_true rfl) ?_
              obtain ⟨P219, hp220, hb⟩ := hb
              replace hb : zHd _ := hb
              have hp220c : b_515 (b200 + 13) (zi M204) ((-8) : Int32).toInt P219 := by rw [zt_m8]; exact hp220
              refine ZV.imp (u_515 (b200 + 13) (zLw_of h202) (-8) hN hJ210.1 hp220c) ?_
              rintro _ ⟨M217, rfl, hJ218, hq221⟩
              replace hb : zHd _ := hb  (zi M217) (zi_fr hJ218.2) hq221
              have hJ223 := zJ_trans hJ210 hJ218 (zSub_cons (fun _ _ h h' hk => ((zDm_or h202).elim (fun e => zIR_s (zIR_s (zIR_e (by omega) (by omega) hk))) (fun e => zIR_s (zIR_s (zIR_s (zIR_e (by omega) (by omega) hk)))))) (zSub_cons (fun _ _ h h' hk => ((zDm_or h202).elim (fun e => zIR_s (zIR_s (zIR_s (zIR_s (zIR_a (by omega) (by omega)))))) (fun e => zIR_s (zIR_s (zIR_s (zIR_s (zIR_s (zIR_a (by omega) (by omega))))))))) zSub_nil))
              show ZW _ _ _ _ _ _ _ (222, [some (.ref 2), some (.int 2), some (.int v167_2), some (.int s167_0)], [], M217)
              refine w_ic dX5_readFact_222 zi_1 ?_
              refine w_en dX5_readFact_223 rfl ?_
              exact ⟨_, _, rfl, (by have := zt_1; omega), (by have := zt_1; omega), hJ223, hb⟩
          · skip
            replace hb : zHd _ := hb.2 h199
            refine w_ine_f dX5_readFact_187 (t := 192) rfl (by omega) ?_
            refine w_ic dX5_readFact_190 zi_0 ?_
            refine w_en dX5_readFact_191 rfl ?_
            exact ⟨_, _, rfl, (by have := zt_0; omega), (by have := zt_0; omega), hJ198, hb⟩
        · skip
          replace hb : zHd _ := hb.2 h181
          refine w_ine_f dX5_readFact_169 (t := 178) rfl (by omega) ?_
          refine w_lo dX5_readFact_172 rfl rfl rfl rfl ?_
          refine w_ic dX5_readFact_173 zi_1 ?_
          refine w_iv dX5_readFact_174 rfl rfl (As := [.int 1]) rfl rfl hJ.1.1 zs_2 (Nat.le_of_ble_eq_true rfl) ?_
          obtain ⟨P226, hp227, hb⟩ := hb
          replace hb : zHd _ := hb
          have hp227c : b_1286 (zi M) (1 : Int32).toInt P226 := by rw [zt_1]; exact hp227
          refine ZV.imp (u_1286 1 (by have := zt_1; omega) (by have := zt_1; omega) hN hJ.1 hp227c) ?_
          rintro _ ⟨x229, M224, rfl, h230, h231, hJ225, hq228⟩
          replace hb : zHd _ := hb x229.toInt h230 h231 (zi M224) (zi_fr hJ225.2) hq228
          have hJ233 := zJ_trans hJ hJ225 (zSub_cons (fun _ _ h h' hk => zIR_e (by omega) (by omega) hk) (zSub_cons (fun _ _ h h' hk => zIR_s (zIR_e (by omega) (by omega) hk)) zSub_nil))
          show ZW _ _ _ _ _ _ _ (177, [some (.ref 2), some (.int 2), some (.int v167_2), some (.int s167_0)], [.int x229], M224)
          refine w_eni dX5_readFact_177 rfl (znb (by omega) (by omega)) ?_
          exact ⟨_, _, rfl, (by omega), (by omega), hJ233, hb⟩
  have hb : zHd _ := hbE
  show ZW _ _ _ _ _ _ _ (0, [some (.ref 2), some (.int 2), none, none], [], M0)
  refine w_ic dX5_readFact_0 zi_0 ?_
  refine w_lo (ml' := [some (.ref 2), some (.int 2), some (.int 0), none]) dX5_readFact_1 rfl rfl rfl rfl ?_
  obtain ⟨m, hI⟩ := hb
  exact (main m).1 M0 0 none hJ0 (by have := zt_0; omega) (by have := zt_0; omega) hI
set_option maxRecDepth 100000 in
theorem u_1300_c2 {X : List Int32} {d N : Nat} {M0 : zM}  (hN : N ≤ 600) (hB0 : zB N M0) {Q : Int → zF → Prop} (hb : b_1300_c2 (zi M0) Q) : ZV X (d + 17) 1300 [.ref 2, .int 2] M0 (zRI N [(2, 3, 0), (2, 3, 1), (20, 21, 1), (41, 42, 1), (21, 22, 1000), (42, 43, 1000), (2, 3, 7)] M0 (0) (1) (fun v M' => Q v.toInt (zi M'))) := by
  have hJ0 : zJ N [(2, 3, 0), (2, 3, 1), (20, 21, 1), (41, 42, 1), (21, 22, 1000), (42, 43, 1000), (2, 3, 7)] M0 M0 := zJ_refl hB0
  refine ZV.of (ini := false) rfl (Nat.le_of_ble_eq_true rfl) (by decide +kernel) ?_
  obtain ⟨I2, I11, I44, I66, hbE, hb2, hb11, hb44, hb66⟩ := hb
  replace hbE : zHd _ := hbE
  replace hb2 : zHd _ := hb2
  replace hb11 : zHd _ := hb11
  replace hb44 : zHd _ := hb44
  replace hb66 : zHd _ := hb66
  have main : ∀ n : Nat,
      (∀ (M : zM) (v2_2 : Int32) (o2_3 : Option Value), zJ N [(2, 3, 0), (2, 3, 1), (20, 21, 1), (41, 42, 1), (21, 22, 1000), (42, 43, 1000), (2, 3, 7)] M0 M → ((0 : Int) ≤ v2_2.toInt) → (v2_2.toInt ≤ 1601) → I2 n (zi M) v2_2.toInt → ZW X (d + 16) 5 false (some .boolean) cX5_readTest (zRI N [(2, 3, 0), (2, 3, 1), (20, 21, 1), (41, 42, 1), (21, 22, 1000), (42, 43, 1000), (2, 3, 7)] M0 (0) (1) (fun v M' => Q v.toInt (zi M'))) (2, [some (.ref 2), some (.int 2), some (.int v2_2), o2_3], [], M)) ∧
      (∀ (M : zM) (v11_2 : Int32) (v11_3 : Int32), zJ N [(2, 3, 0), (2, 3, 1), (20, 21, 1), (41, 42, 1), (21, 22, 1000), (42, 43, 1000), (2, 3, 7)] M0 M → ((0 : Int) ≤ v11_2.toInt) → (v11_2.toInt ≤ 1600) → ((0 : Int) ≤ v11_3.toInt) → (v11_3.toInt ≤ 1601) → I11 n (zi M) v11_2.toInt v11_3.toInt → ZW X (d + 16) 5 false (some .boolean) cX5_readTest (zRI N [(2, 3, 0), (2, 3, 1), (20, 21, 1), (41, 42, 1), (21, 22, 1000), (42, 43, 1000), (2, 3, 7)] M0 (0) (1) (fun v M' => Q v.toInt (zi M'))) (11, [some (.ref 2), some (.int 2), some (.int v11_2), some (.int v11_3)], [], M)) ∧
      (∀ (M : zM) (v44_2 : Int32) (v44_3 : Int32), zJ N [(2, 3, 0), (2, 3, 1), (20, 21, 1), (41, 42, 1), (21, 22, 1000), (42, 43, 1000), (2, 3, 7)] M0 M → ((0 : Int) ≤ v44_2.toInt) → (v44_2.toInt ≤ 1600) → ((0 : Int) ≤ v44_3.toInt) → (v44_3.toInt ≤ 1600) → I44 n (zi M) v44_2.toInt v44_3.toInt → ZW X (d + 16) 5 false (some .boolean) cX5_readTest (zRI N [(2, 3, 0), (2, 3, 1), (20, 21, 1), (41, 42, 1), (21, 22, 1000), (42, 43, 1000), (2, 3, 7)] M0 (0) (1) (fun v M' => Q v.toInt (zi M'))) (44, [some (.ref 2), some (.int 2), some (.int v44_2), some (.int v44_3)], [], M)) ∧
      (∀ (M : zM) (v66_2 : Int32) (u66_3 : Int32), zJ N [(2, 3, 0), (2, 3, 1), (20, 21, 1), (41, 42, 1), (21, 22, 1000), (42, 43, 1000), (2, 3, 7)] M0 M → ((0 : Int) ≤ v66_2.toInt) → (v66_2.toInt ≤ 1600) → I66 n (zi M) v66_2.toInt → ZW X (d + 16) 5 false (some .boolean) cX5_readTest (zRI N [(2, 3, 0), (2, 3, 1), (20, 21, 1), (41, 42, 1), (21, 22, 1000), (42, 43, 1000), (2, 3, 7)] M0 (0) (1) (fun v M' => Q v.toInt (zi M'))) (66, [some (.ref 2), some (.int 2), some (.int v66_2), some (.int u66_3)], [], M)) := by
    intro n
    induction n using Nat.strongRecOn with
    | _ n ih =>
      refine ⟨?_, ?_, ?_, ?_⟩
      · intro M v2_2 o2_3 hJ v2_20 v2_21 hI
        have hb : zHd _ := hb2 n (zi M) v2_2.toInt (zi_fr hJ.2) v2_20 v2_21 hI
        refine w_lo dX5_readTest_2 rfl rfl rfl rfl ?_
        refine w_si dX5_readTest_3 (c := 1600) (by decide) ?_
        rcases zcut (1600 : Int) v2_2.toInt with h1 | h1
        · skip
          replace hb : zHd _ := hb.1 h1
          refine w_cgt_t dX5_readTest_6 (t := 104) rfl (by have := zt_1600; omega) ?_
          refine w_ic dX5_readTest_104 zi_1 ?_
          refine w_en dX5_readTest_105 rfl ?_
          exact ⟨_, _, rfl, (by have := zt_1; omega), (by have := zt_1; omega), hJ, hb⟩
        · skip
          replace hb : zHd _ := hb.2 h1
          refine w_cgt_f dX5_readTest_6 (t := 104) rfl (by have := zt_1600; omega) ?_
          refine w_ic dX5_readTest_9 zi_0 ?_
          refine w_lo (ml' := [some (.ref 2), some (.int 2), some (.int v2_2), some (.int 0)]) dX5_readTest_10 rfl rfl rfl rfl ?_
          obtain ⟨m, hm, hI⟩ := hb
          exact (ih m hm).2.1 M v2_2 0 hJ (by omega) (by omega) (by have := zt_0; omega) (by have := zt_0; omega) hI
      · intro M v11_2 v11_3 hJ v11_20 v11_21 v11_30 v11_31 hI
        have hb : zHd _ := hb11 n (zi M) v11_2.toInt v11_3.toInt (zi_fr hJ.2) v11_20 v11_21 v11_30 v11_31 hI
        refine w_lo dX5_readTest_11 rfl rfl rfl rfl ?_
        refine w_si dX5_readTest_12 (c := 1600) (by decide) ?_
        rcases zcut (1600 : Int) v11_3.toInt with h2 | h2
        · skip
          replace hb : zHd _ := hb.1 h2
          refine w_cgt_t dX5_readTest_15 (t := 66) rfl (by have := zt_1600; omega) ?_
          obtain ⟨m, hm, hI⟩ := hb
          exact (ih m hm).2.2.2 M v11_2 v11_3 hJ (by omega) (by omega) hI
        · skip
          replace hb : zHd _ := hb.2 h2
          refine w_cgt_f dX5_readTest_15 (t := 66) rfl (by have := zt_1600; omega) ?_
          refine w_lo dX5_readTest_18 rfl rfl rfl rfl ?_
          refine w_lo dX5_readTest_19 rfl rfl rfl rfl ?_
          refine w_iv dX5_readTest_20 rfl rfl (As := [.int 2]) rfl rfl hJ.1.1 zs_2 (Nat.le_of_ble_eq_true rfl) ?_
          obtain ⟨P5, hp6, hb⟩ := hb
          replace hb : zHd _ := hb
          refine ZV.imp (u_1301_c2 hN hJ.1 hp6) ?_
          rintro _ ⟨x8, M3, rfl, h9, h10, hJ4, hq7⟩
          replace hb : zHd _ := hb x8.toInt h9 h10 (zi M3) (zi_fr hJ4.2) hq7
          have hJ12 := zJ_trans hJ hJ4 (zSub_cons (fun _ _ h h' hk => zIR_e (by omega) (by omega) hk) (zSub_cons (fun _ _ h h' hk => zIR_s (zIR_e (by omega) (by omega) hk)) (zSub_cons (fun _ _ h h' hk => zIR_s (zIR_s (zIR_e (by omega) (by omega) hk))) (zSub_cons (fun _ _ h h' hk => zIR_s (zIR_s (zIR_s (zIR_e (by omega) (by omega) hk)))) (zSub_cons (fun _ _ h h' hk => zIR_s (zIR_s (zIR_s (zIR_s (zIR_a (by omega) (by omega)))))) (zSub_cons (fun _ _ h h' hk => zIR_s (zIR_s (zIR_s (zIR_s (zIR_s (zIR_a (by omega) (by omega))))))) (zSub_cons (fun _ _ h h' hk => zIR_s (zIR_s (zIR_s (zIR_s (zIR_s (zIR_s (zIR_e (by omega) (by omega) hk))))))) zSub_nil)))))))
          show ZW _ _ _ _ _ _ _ (23, [some (.ref 2), some (.int 2), some (.int v11_2), some (.int v11_3)], [.int x8], M3)
          rcases Int.decEq x8.toInt (0 : Int) with h13 | h13
          · skip
            replace hb : zHd _ := hb.1 h13
            refine w_ine_t dX5_readTest_23 (t := 28) rfl (by omega) ?_
            refine w_lo dX5_readTest_28 rfl rfl rfl rfl ?_
            rcases zcut (0 : Int) v11_3.toInt with h14 | h14
            · skip
              replace hb : zHd _ := hb.1 h14
              refine w_ile_f dX5_readTest_29 (t := 44) rfl (by omega) ?_
              refine w_lo dX5_readTest_32 rfl rfl rfl rfl ?_
              obtain ⟨b15, f16, h17⟩ := zd_2_8 hJ12.1
              have h18 := zDm_b h17
              refine w_gf dX5_readTest_33 rfl hJ12.1.1 zs_2 f16 ?_
              replace hb : zHd _ := hb b15 (ziR f16) (zDm_or h17)
              refine w_gf dX5_readTest_36 rfl hJ12.1.1 (zs_1_0 h17) (zr_1_0_15 h17 hJ12.1) ?_
              refine w_bi dX5_readTest_39 (c := (-17)) (by decide) ?_
              refine w_iv dX5_readTest_41 rfl rfl (As := [.int (-17)]) rfl rfl hJ12.1.1 (zs_1_13 h17) (Nat.le_of_ble_eq_true rfl) ?_
              obtain ⟨P21, hp22, hb⟩ := hb
              replace hb : zHd _ := hb
              have hp22c : b_515 (b15 + 13) (zi M3) ((-17) : Int32).toInt P21 := by rw [zt_m17]; exact hp22
              refine ZV.imp (u_515 (b15 + 13) (zLw_of h17) (-17) hN hJ12.1 hp22c) ?_
              rintro _ ⟨M19, rfl, hJ20, hq23⟩
              replace hb : zHd _ := hb  (zi M19) (zi_fr hJ20.2) hq23
              have hJ25 := zJ_trans hJ12 hJ20 (zSub_cons (fun _ _ h h' hk => ((zDm_or h17).elim (fun e => zIR_s (zIR_s (zIR_e (by omega) (by omega) hk))) (fun e => zIR_s (zIR_s (zIR_s (zIR_e (by omega) (by omega) hk)))))) (zSub_cons (fun _ _ h h' hk => ((zDm_or h17).elim (fun e => zIR_s (zIR_s (zIR_s (zIR_s (zIR_a (by omega) (by omega)))))) (fun e => zIR_s (zIR_s (zIR_s (zIR_s (zIR_s (zIR_a (by omega) (by omega))))))))) zSub_nil))
              show ZW _ _ _ _ _ _ _ (44, [some (.ref 2), some (.int 2), some (.int v11_2), some (.int v11_3)], [], M19)
              obtain ⟨m, hm, hI⟩ := hb
              exact (ih m hm).2.2.1 M19 v11_2 v11_3 hJ25 (by omega) (by omega) (by omega) (by omega) hI
            · skip
              replace hb : zHd _ := hb.2 h14
              refine w_ile_t dX5_readTest_29 (t := 44) rfl (by omega) ?_
              obtain ⟨m, hm, hI⟩ := hb
              exact (ih m hm).2.2.1 M3 v11_2 v11_3 hJ12 (by omega) (by omega) (by omega) (by omega) hI
          · skip
            replace hb : zHd _ := hb.2 h13
            refine w_ine_f dX5_readTest_23 (t := 28) rfl (by omega) ?_
            refine w_ic dX5_readTest_26 zi_0 ?_
            refine w_en dX5_readTest_27 rfl ?_
            exact ⟨_, _, rfl, (by have := zt_0; omega), (by have := zt_0; omega), hJ12, hb⟩
      · intro M v44_2 v44_3 hJ v44_20 v44_21 v44_30 v44_31 hI
        have hb : zHd _ := hb44 n (zi M) v44_2.toInt v44_3.toInt (zi_fr hJ.2) v44_20 v44_21 v44_30 v44_31 hI
        refine w_lo dX5_readTest_44 rfl rfl rfl rfl ?_
        refine w_iv dX5_readTest_45 rfl rfl (As := []) rfl rfl hJ.1.1 zs_2 (Nat.le_of_ble_eq_true rfl) ?_
        obtain ⟨P28, hp29, hb⟩ := hb
        replace hb : zHd _ := hb
        refine ZV.imp (u_1287 hN hJ.1 hp29) ?_
        rintro _ ⟨x31, M26, rfl, h32, h33, hJ27, hq30⟩
        replace hb : zHd _ := hb x31.toInt h32 h33 (zi M26) (zi_fr hJ27.2) hq30
        have hJ35 := zJ_trans hJ hJ27 zSub_nil
        show ZW _ _ _ _ _ _ _ (48, [some (.ref 2), some (.int 2), some (.int v44_2), some (.int v44_3)], [.int x31], M26)
        refine w_bi dX5_readTest_48 (c := 22) (by decide) ?_
        rcases Int.decEq x31.toInt (22 : Int) with h36 | h36
        · skip
          replace hb : zHd _ := hb.1 h36
          refine w_ceq_f dX5_readTest_50 (t := 56) rfl (by have := zt_22; omega) ?_
          refine w_gt dX5_readTest_53 (t := 66) rfl ?_
          obtain ⟨m, hm, hI⟩ := hb
          exact (ih m hm).2.2.2 M26 v44_2 v44_3 hJ35 (by omega) (by omega) hI
        · skip
          replace hb : zHd _ := hb.2 h36
          refine w_ceq_t dX5_readTest_50 (t := 56) rfl (by have := zt_22; omega) ?_
          refine w_lo dX5_readTest_56 rfl rfl rfl rfl ?_
          refine w_iv dX5_readTest_57 rfl rfl (As := []) rfl rfl hJ35.1.1 zs_2 (Nat.le_of_ble_eq_true rfl) ?_
          obtain ⟨P39, hp40, hb⟩ := hb
          replace hb : zHd _ := hb
          refine ZV.imp (u_1289 hN hJ35.1 hp40) ?_
          rintro _ ⟨M37, rfl, hJ38, hq41⟩
          replace hb : zHd _ := hb  (zi M37) (zi_fr hJ38.2) hq41
          have hJ43 := zJ_trans hJ35 hJ38 (zSub_cons (fun _ _ h h' hk => zIR_s (zIR_s (zIR_s (zIR_s (zIR_s (zIR_s (zIR_e (by omega) (by omega) hk))))))) zSub_nil)
          show ZW _ _ _ _ _ _ _ (60, [some (.ref 2), some (.int 2), some (.int v44_2), some (.int v44_3)], [], M37)
          refine w_inc (kk := 3) dX5_readTest_60 rfl (m := 1) (by decide) (by omega) ?_
          intro x44 h45
          refine ⟨_, rfl, ?_⟩
          replace hb : zHd _ := hb x44.toInt h45
          show ZW _ _ _ _ _ _ _ (63, [some (.ref 2), some (.int 2), some (.int v44_2), some (.int x44)], [], M37)
          refine w_gt dX5_readTest_63 (t := 11) rfl ?_
          obtain ⟨m, hm, hI⟩ := hb
          exact (ih m hm).2.1 M37 v44_2 x44 hJ43 (by omega) (by omega) (by omega) (by omega) hI
      · intro M v66_2 u66_3 hJ v66_20 v66_21 hI
        have hb : zHd _ := hb66 n (zi M) v66_2.toInt (zi_fr hJ.2) v66_20 v66_21 hI
        refine w_lo dX5_readTest_66 rfl rfl rfl rfl ?_
        rcases zcut (0 : Int) v66_2.toInt with h46 | h46
        · skip
          replace hb : zHd _ := hb.1 h46
          refine w_ile_f dX5_readTest_67 (t := 82) rfl (by omega) ?_
          refine w_lo dX5_readTest_70 rfl rfl rfl rfl ?_
          obtain ⟨b47, f48, h49⟩ := zd_2_8 hJ.1
          have h50 := zDm_b h49
          refine w_gf dX5_readTest_71 rfl hJ.1.1 zs_2 f48 ?_
          replace hb : zHd _ := hb b47 (ziR f48) (zDm_or h49)
          refine w_gf dX5_readTest_74 rfl hJ.1.1 (zs_1_0 h49) (zr_1_0_15 h49 hJ.1) ?_
          refine w_bi dX5_readTest_77 (c := (-18)) (by decide) ?_
          refine w_iv dX5_readTest_79 rfl rfl (As := [.int (-18)]) rfl rfl hJ.1.1 (zs_1_13 h49) (Nat.le_of_ble_eq_true rfl) ?_
          obtain ⟨P53, hp54, hb⟩ := hb
          replace hb : zHd _ := hb
          have hp54c : b_515 (b47 + 13) (zi M) ((-18) : Int32).toInt P53 := by rw [zt_m18]; exact hp54
          refine ZV.imp (u_515 (b47 + 13) (zLw_of h49) (-18) hN hJ.1 hp54c) ?_
          rintro _ ⟨M51, rfl, hJ52, hq55⟩
          replace hb : zHd _ := hb  (zi M51) (zi_fr hJ52.2) hq55
          have hJ57 := zJ_trans hJ hJ52 (zSub_cons (fun _ _ h h' hk => ((zDm_or h49).elim (fun e => zIR_s (zIR_s (zIR_e (by omega) (by omega) hk))) (fun e => zIR_s (zIR_s (zIR_s (zIR_e (by omega) (by omega) hk)))))) (zSub_cons (fun _ _ h h' hk => ((zDm_or h49).elim (fun e => zIR_s (zIR_s (zIR_s (zIR_s (zIR_a (by omega) (by omega)))))) (fun e => zIR_s (zIR_s (zIR_s (zIR_s (zIR_s (zIR_a (by omega) (by omega))))))))) zSub_nil))
          show ZW _ _ _ _ _ _ _ (82, [some (.ref 2), some (.int 2), some (.int v66_2), some (.int u66_3)], [], M51)
          refine w_lo dX5_readTest_82 rfl rfl rfl rfl ?_
          refine w_iv dX5_readTest_83 rfl rfl (As := []) rfl rfl hJ57.1.1 zs_2 (Nat.le_of_ble_eq_true rfl) ?_
          obtain ⟨P60, hp61, hb⟩ := hb
          replace hb : zHd _ := hb
          refine ZV.imp (u_1287 hN hJ57.1 hp61) ?_
          rintro _ ⟨x63, M58, rfl, h64, h65, hJ59, hq62⟩
          replace hb : zHd _ := hb x63.toInt h64 h65 (zi M58) (zi_fr hJ59.2) hq62
          have hJ67 := zJ_trans hJ57 hJ59 zSub_nil
          show ZW _ _ _ _ _ _ _ (86, [some (.ref 2), some (.int 2), some (.int v66_2), some (.int u66_3)], [.int x63], M58)
          refine w_bi dX5_readTest_86 (c := 21) (by decide) ?_
          rcases Int.decEq x63.toInt (21 : Int) with h68 | h68
          · skip
            replace hb : zHd _ := hb.1 h68
            refine w_ceq_f dX5_readTest_88 (t := 94) rfl (by have := zt_21; omega) ?_
            refine w_gt dX5_readTest_91 (t := 104) rfl ?_
            refine w_ic dX5_readTest_104 zi_1 ?_
            refine w_en dX5_readTest_105 rfl ?_
            exact ⟨_, _, rfl, (by have := zt_1; omega), (by have := zt_1; omega), hJ67, hb⟩
          · skip
            replace hb : zHd _ := hb.2 h68
            refine w_ceq_t dX5_readTest_88 (t := 94) rfl (by have := zt_21; omega) ?_
            refine w_lo dX5_readTest_94 rfl rfl rfl rfl ?_
            refine w_iv dX5_readTest_95 rfl rfl (As := []) rfl rfl hJ67.1.1 zs_2 (Nat.le_of_ble_eq_true rfl) ?_
            obtain ⟨P71, hp72, hb⟩ := hb
            replace hb : zHd _ := hb
            refine ZV.imp (u_1289 hN hJ67.1 hp72) ?_
            rintro _ ⟨M69, rfl, hJ70, hq73⟩
            replace hb : zHd _ := hb  (zi M69) (zi_fr hJ70.2) hq73
            have hJ75 := zJ_trans hJ67 hJ70 (zSub_cons (fun _ _ h h' hk => zIR_s (zIR_s (zIR_s (zIR_s (zIR_s (zIR_s (zIR_e (by omega) (by omega) hk))))))) zSub_nil)
            show ZW _ _ _ _ _ _ _ (98, [some (.ref 2), some (.int 2), some (.int v66_2), some (.int u66_3)], [], M69)
            refine w_inc (kk := 2) dX5_readTest_98 rfl (m := 1) (by decide) (by omega) ?_
            intro x76 h77
            refine ⟨_, rfl, ?_⟩
            replace hb : zHd _ := hb x76.toInt h77
            show ZW _ _ _ _ _ _ _ (101, [some (.ref 2), some (.int 2), some (.int x76), some (.int u66_3)], [], M69)
            refine w_gt dX5_readTest_101 (t := 2) rfl ?_
            obtain ⟨m, hm, hI⟩ := hb
            exact (ih m hm).1 M69 x76 (some (.int u66_3)) hJ75 (by omega) (by omega) hI
        · skip
          replace hb : zHd _ := hb.2 h46
          refine w_ile_t dX5_readTest_67 (t := 82) rfl (by omega) ?_
          refine w_lo dX5_readTest_82 rfl rfl rfl rfl ?_
          refine w_iv dX5_readTest_83 rfl rfl (As := []) rfl rfl hJ.1.1 zs_2 (Nat.le_of_ble_eq_true rfl) ?_
          obtain ⟨P80, hp81, hb⟩ := hb
          replace hb : zHd _ := hb
          refine ZV.imp (u_1287 hN hJ.1 hp81) ?_
          rintro _ ⟨x83, M78, rfl, h84, h85, hJ79, hq82⟩
          replace hb : zHd _ := hb x83.toInt h84 h85 (zi M78) (zi_fr hJ79.2) hq82
          have hJ87 := zJ_trans hJ hJ79 zSub_nil
          show ZW _ _ _ _ _ _ _ (86, [some (.ref 2), some (.int 2), some (.int v66_2), some (.int u66_3)], [.int x83], M78)
          refine w_bi dX5_readTest_86 (c := 21) (by decide) ?_
          rcases Int.decEq x83.toInt (21 : Int) with h88 | h88
          · skip
            replace hb : zHd _ := hb.1 h88
            refine w_ceq_f dX5_readTest_88 (t := 94) rfl (by have := zt_21; omega) ?_
            refine w_gt dX5_readTest_91 (t := 104) rfl ?_
            refine w_ic dX5_readTest_104 zi_1 ?_
            refine w_en dX5_readTest_105 rfl ?_
            exact ⟨_, _, rfl, (by have := zt_1; omega), (by have := zt_1; omega), hJ87, hb⟩
          · skip
            replace hb : zHd _ := hb.2 h88
            refine w_ceq_t dX5_readTest_88 (t := 94) rfl (by have := zt_21; omega) ?_
            refine w_lo dX5_readTest_94 rfl rfl rfl rfl ?_
            refine w_iv dX5_readTest_95 rfl rfl (As := []) rfl rfl hJ87.1.1 zs_2 (Nat.le_of_ble_eq_true rfl) ?_
            obtain ⟨P91, hp92, hb⟩ := hb
            replace hb : zHd _ := hb
            refine ZV.imp (u_1289 hN hJ87.1 hp92) ?_
            rintro _ ⟨M89, rfl, hJ90, hq93⟩
            replace hb : zHd _ := hb  (zi M89) (zi_fr hJ90.2) hq93
            have hJ95 := zJ_trans hJ87 hJ90 (zSub_cons (fun _ _ h h' hk => zIR_s (zIR_s (zIR_s (zIR_s (zIR_s (zIR_s (zIR_e (by omega) (by omega) hk))))))) zSub_nil)
            show ZW _ _ _ _ _ _ _ (98, [some (.ref 2), some (.int 2), some (.int v66_2), some (.int u66_3)], [], M89)
            refine w_inc (kk := 2) dX5_readTest_98 rfl (m := 1) (by decide) (by omega) ?_
            intro x96 h97
            refine ⟨_, rfl, ?_⟩
            replace hb : zHd _ := hb x96.toInt h97
            show ZW _ _ _ _ _ _ _ (101, [some (.ref 2), some (.int 2), some (.int x96), some (.int u66_3)], [], M89)
            refine w_gt dX5_readTest_101 (t := 2) rfl ?_
            obtain ⟨m, hm, hI⟩ := hb
            exact (ih m hm).1 M89 x96 (some (.int u66_3)) hJ95 (by omega) (by omega) hI
  have hb : zHd _ := hbE
  show ZW _ _ _ _ _ _ _ (0, [some (.ref 2), some (.int 2), none, none], [], M0)
  refine w_ic dX5_readTest_0 zi_0 ?_
  refine w_lo (ml' := [some (.ref 2), some (.int 2), some (.int 0), none]) dX5_readTest_1 rfl rfl rfl rfl ?_
  obtain ⟨m, hI⟩ := hb
  exact (main m).1 M0 0 none hJ0 (by have := zt_0; omega) (by have := zt_0; omega) hI
