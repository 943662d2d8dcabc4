/-! walks of the Reader by pure conditions (wip/safe/gen32.py) -/
set_option maxRecDepth 100000 in
theorem u_1295 {X : List Int32} {d N : Nat} {M0 : zM}  (hN : N ≤ 600) (hB0 : zB N M0) {Q : Int → zF → Prop} (hb : b_1295 (zi M0) Q) : ZV X (d + 3) 1295 [.ref 2] M0 (zRI N [(2, 3, 0), (2, 3, 1), (2, 3, 10), (14, 19, 1000), (35, 40, 1000), (7, 8, 2), (28, 29, 2), (2, 3, 7), (2, 3, 9)] M0 (0) (1) (fun v M' => Q v.toInt (zi M'))) := by
  have hJ0 : zJ N [(2, 3, 0), (2, 3, 1), (2, 3, 10), (14, 19, 1000), (35, 40, 1000), (7, 8, 2), (28, 29, 2), (2, 3, 7), (2, 3, 9)] M0 M0 := zJ_refl hB0
  refine ZV.of (ini := false) rfl (Nat.le_of_ble_eq_true rfl) (by decide +kernel) ?_
  unfold b_1295 at hb
  replace hb : zHd _ := hb
  show ZW _ _ _ _ _ _ _ (0, [some (.ref 2), none], [], M0)
  refine w_lo dX5_readDream_0 rfl rfl rfl rfl ?_
  obtain ⟨b1, f2, h3⟩ := zd_2_8 hJ0.1
  have h4 := zDm_b h3
  refine w_gf dX5_readDream_1 rfl hJ0.1.1 zs_2 f2 ?_
  replace hb : zHd _ := hb b1 (ziR f2) (zDm_or h3)
  refine w_gfi dX5_readDream_4 rfl hJ0.1 (zs_1_0 h3) (Nat.le_of_ble_eq_true rfl) (zo_1_0_2 h3) ?_
  intro x5 f6 h7 h8
  replace hb : zHd _ := hb x5.toInt (ziE f6) h7 h8
  refine w_lo (ml' := [some (.ref 2), some (.int x5)]) dX5_readDream_7 rfl rfl rfl rfl ?_
  refine w_lo dX5_readDream_8 rfl rfl rfl rfl ?_
  refine w_bi dX5_readDream_9 (c := 6) (by decide) ?_
  rcases zcut x5.toInt (6 : Int) with h9 | h9
  · skip
    replace hb : zHd _ := hb.1 h9
    refine w_clt_t dX5_readDream_11 (t := 20) rfl (by have := zt_6; omega) ?_
    refine w_lo dX5_readDream_20 rfl rfl rfl rfl ?_
    refine w_iv dX5_readDream_21 rfl rfl (As := []) rfl rfl hJ0.1.1 zs_2 (Nat.le_of_ble_eq_true rfl) ?_
    obtain ⟨P12, hp13, hb⟩ := hb
    replace hb : zHd _ := hb
    refine ZV.imp (u_1289 hN hJ0.1 hp13) ?_
    rintro _ ⟨M10, rfl, hJ11, hq14⟩
    replace hb : zHd _ := hb  (zi M10) (zi_fr hJ11.2) hq14
    have hJ16 := zJ_trans hJ0 hJ11 (zSub_cons (fun _ _ h h' hk => zIR_s (zIR_s (zIR_s (zIR_s (zIR_s (zIR_s (zIR_s (zIR_e (by omega) (by omega) hk)))))))) zSub_nil)
    show ZW _ _ _ _ _ _ _ (24, [some (.ref 2), some (.int x5)], [], M10)
    refine w_lo dX5_readDream_24 rfl rfl rfl rfl ?_
    refine w_iv dX5_readDream_25 rfl rfl (As := []) rfl rfl hJ16.1.1 zs_2 (Nat.le_of_ble_eq_true rfl) ?_
    obtain ⟨P19, hp20, hb⟩ := hb
    replace hb : zHd _ := hb
    refine ZV.imp (u_1290 hN hJ16.1 hp20) ?_
    rintro _ ⟨x22, M17, rfl, h23, h24, hJ18, hq21⟩
    replace hb : zHd _ := hb x22.toInt h23 h24 (zi M17) (zi_fr hJ18.2) hq21
    have hJ26 := zJ_trans hJ16 hJ18 (zSub_cons (fun _ _ h h' hk => zIR_e (by omega) (by omega) hk) (zSub_cons (fun _ _ h h' hk => zIR_s (zIR_e (by omega) (by omega) hk)) (zSub_cons (fun _ _ h h' hk => zIR_s (zIR_s (zIR_s (zIR_s (zIR_s (zIR_s (zIR_s (zIR_e (by omega) (by omega) hk)))))))) (zSub_cons (fun _ _ h h' hk => zIR_s (zIR_s (zIR_s (zIR_s (zIR_s (zIR_s (zIR_s (zIR_s (zIR_e (by omega) (by omega) hk))))))))) zSub_nil))))
    show ZW _ _ _ _ _ _ _ (28, [some (.ref 2), some (.int x5)], [.int x22], M17)
    rcases Int.decEq x22.toInt (0 : Int) with h27 | h27
    · skip
      replace hb : zHd _ := hb.1 h27
      refine w_ine_t dX5_readDream_28 (t := 33) rfl (by omega) ?_
      refine w_lo dX5_readDream_33 rfl rfl rfl rfl ?_
      have f28 := (hJ18.2 (2) 8 (zNI_k (by decide) (by decide) (zNI_k (by decide) (by decide) (zNI_k (by decide) (by decide) (zNI_k (by decide) (by decide) zNI_nil))))).trans ((hJ11.2 (2) 8 (zNI_k (by decide) (by decide) zNI_nil)).trans (f2))
      refine w_gf dX5_readDream_34 rfl hJ26.1.1 zs_2 f28 ?_
      refine w_gf dX5_readDream_37 rfl hJ26.1.1 (zs_1_0 h3) (zr_1_0_9 h3 hJ26.1) ?_
      refine w_lo dX5_readDream_40 rfl rfl rfl rfl ?_
      refine w_lo dX5_readDream_41 rfl rfl rfl rfl ?_
      refine w_gfi dX5_readDream_42 rfl hJ26.1 zs_2 (Nat.le_of_ble_eq_true rfl) zo_2_9 ?_
      intro x29 f30 h31 h32
      replace hb : zHd _ := hb x29.toInt (ziE f30)
      refine w_isi dX5_readDream_45 hJ26 (zs_1_7 h3) (by omega) (by omega) (zu_1_7 h3) (zbot _) (ztop _) ((zDm_or h3).elim (fun e => zIR_s (zIR_s (zIR_s (zIR_a (by omega) (by omega))))) (fun e => zIR_s (zIR_s (zIR_s (zIR_s (zIR_a (by omega) (by omega))))))) ?_
      intro M33 hJ34 f35 hn36
      replace hb : zHd _ := hb (zi M33) (zi_zup hn36 f35 rfl rfl)
      refine w_lo dX5_readDream_46 rfl rfl rfl rfl ?_
      refine w_bi dX5_readDream_47 (c := 15) (by decide) ?_
      refine w_iv dX5_readDream_49 rfl rfl (As := [.int 15]) rfl rfl hJ34.1.1 zs_2 (Nat.le_of_ble_eq_true rfl) ?_
      obtain ⟨P40, hp41, hb⟩ := hb
      replace hb : zHd _ := hb
      have hp41c : b_1291 (zi M33) (15 : Int32).toInt P40 := by rw [zt_15]; exact hp41
      refine ZV.imp (u_1291 15 (by have := zt_15; omega) (by have := zt_15; omega) hN hJ34.1 hp41c) ?_
      rintro _ ⟨x43, M38, rfl, h44, h45, hJ39, hq42⟩
      replace hb : zHd _ := hb x43.toInt h44 h45 (zi M38) (zi_fr hJ39.2) hq42
      have hJ47 := zJ_trans hJ34 hJ39 (zSub_cons (fun _ _ h h' hk => zIR_e (by omega) (by omega) hk) (zSub_cons (fun _ _ h h' hk => zIR_s (zIR_e (by omega) (by omega) hk)) (zSub_cons (fun _ _ h h' hk => zIR_s (zIR_s (zIR_s (zIR_s (zIR_s (zIR_s (zIR_s (zIR_e (by omega) (by omega) hk)))))))) zSub_nil)))
      show ZW _ _ _ _ _ _ _ (52, [some (.ref 2), some (.int x5)], [.int x43], M38)
      rcases Int.decEq x43.toInt (0 : Int) with h48 | h48
      · skip
        replace hb : zHd _ := hb.1 h48
        refine w_ieq_f dX5_readDream_52 (t := 66) rfl (by omega) ?_
        refine w_lo dX5_readDream_55 rfl rfl rfl rfl ?_
        refine w_ic dX5_readDream_56 zi_1 ?_
        refine w_si dX5_readDream_57 (c := 999) (by decide) ?_
        refine w_iv dX5_readDream_60 rfl rfl (As := [.int 1, .int 999]) rfl rfl hJ47.1.1 zs_2 (Nat.le_of_ble_eq_true rfl) ?_
        obtain ⟨P51, hp52, hb⟩ := hb
        replace hb : zHd _ := hb
        have hp52c : b_1292 (zi M38) (1 : Int32).toInt (999 : Int32).toInt P51 := by rw [zt_1, zt_999]; exact hp52
        refine ZV.imp (u_1292 1 (by have := zt_1; omega) (by have := zt_1; omega) 999 (by have := zt_999; omega) (by have := zt_999; omega) hN hJ47.1 hp52c) ?_
        rintro _ ⟨x54, M49, rfl, h55, h56, hJ50, hq53⟩
        replace hb : zHd _ := hb x54.toInt h55 h56 (zi M49) (zi_fr hJ50.2) hq53
        have hJ58 := zJ_trans hJ47 hJ50 (zSub_cons (fun _ _ h h' hk => zIR_e (by omega) (by omega) hk) (zSub_cons (fun _ _ h h' hk => zIR_s (zIR_e (by omega) (by omega) hk)) (zSub_cons (fun _ _ h h' hk => zIR_s (zIR_s (zIR_e (by omega) (by omega) hk))) (zSub_cons (fun _ _ h h' hk => zIR_s (zIR_s (zIR_s (zIR_s (zIR_s (zIR_s (zIR_s (zIR_e (by omega) (by omega) hk)))))))) zSub_nil))))
        show ZW _ _ _ _ _ _ _ (63, [some (.ref 2), some (.int x5)], [.int x54], M49)
        rcases Int.decEq x54.toInt (0 : Int) with h59 | h59
        · skip
          replace hb : zHd _ := hb.1 h59
          refine w_ine_t dX5_readDream_63 (t := 68) rfl (by omega) ?_
          refine w_lo dX5_readDream_68 rfl rfl rfl rfl ?_
          have f60 := (hJ50.2 (2) 8 (zNI_k (by decide) (by decide) (zNI_k (by decide) (by decide) (zNI_k (by decide) (by decide) (zNI_k (by decide) (by decide) zNI_nil))))).trans ((hJ39.2 (2) 8 (zNI_k (by decide) (by decide) (zNI_k (by decide) (by decide) (zNI_k (by decide) (by decide) zNI_nil)))).trans ((hn36 (2) 8 (Or.inl (by omega))).trans (f28)))
          refine w_gf dX5_readDream_69 rfl hJ58.1.1 zs_2 f60 ?_
          refine w_gf dX5_readDream_72 rfl hJ58.1.1 (zs_1_0 h3) (zr_1_0_10 h3 hJ58.1) ?_
          refine w_lo dX5_readDream_75 rfl rfl rfl rfl ?_
          refine w_lo dX5_readDream_76 rfl rfl rfl rfl ?_
          refine w_gfi dX5_readDream_77 rfl hJ58.1 zs_2 (Nat.le_of_ble_eq_true rfl) zo_2_10 ?_
          intro x61 f62 h63 h64
          replace hb : zHd _ := hb x61.toInt (ziE f62)
          refine w_isi dX5_readDream_80 hJ58 (zs_1_8 h3) (by omega) (by omega) (zu_1_8 h3) (zbot _) (ztop _) ((zDm_or h3).elim (fun e => zIR_s (zIR_s (zIR_s (zIR_a (by omega) (by omega))))) (fun e => zIR_s (zIR_s (zIR_s (zIR_s (zIR_a (by omega) (by omega))))))) ?_
          intro M65 hJ66 f67 hn68
          replace hb : zHd _ := hb (zi M65) (zi_zup hn68 f67 rfl rfl)
          refine w_lo dX5_readDream_81 rfl rfl rfl rfl ?_
          refine w_bi dX5_readDream_82 (c := 16) (by decide) ?_
          refine w_iv dX5_readDream_84 rfl rfl (As := [.int 16]) rfl rfl hJ66.1.1 zs_2 (Nat.le_of_ble_eq_true rfl) ?_
          obtain ⟨P72, hp73, hb⟩ := hb
          replace hb : zHd _ := hb
          have hp73c : b_1291 (zi M65) (16 : Int32).toInt P72 := by rw [zt_16]; exact hp73
          refine ZV.imp (u_1291 16 (by have := zt_16; omega) (by have := zt_16; omega) hN hJ66.1 hp73c) ?_
          rintro _ ⟨x75, M70, rfl, h76, h77, hJ71, hq74⟩
          replace hb : zHd _ := hb x75.toInt h76 h77 (zi M70) (zi_fr hJ71.2) hq74
          have hJ79 := zJ_trans hJ66 hJ71 (zSub_cons (fun _ _ h h' hk => zIR_e (by omega) (by omega) hk) (zSub_cons (fun _ _ h h' hk => zIR_s (zIR_e (by omega) (by omega) hk)) (zSub_cons (fun _ _ h h' hk => zIR_s (zIR_s (zIR_s (zIR_s (zIR_s (zIR_s (zIR_s (zIR_e (by omega) (by omega) hk)))))))) zSub_nil)))
          show ZW _ _ _ _ _ _ _ (87, [some (.ref 2), some (.int x5)], [.int x75], M70)
          rcases Int.decEq x75.toInt (0 : Int) with h80 | h80
          · skip
            replace hb : zHd _ := hb.1 h80
            refine w_ieq_f dX5_readDream_87 (t := 100) rfl (by omega) ?_
            refine w_lo dX5_readDream_90 rfl rfl rfl rfl ?_
            refine w_ic dX5_readDream_91 zi_1 ?_
            refine w_bi dX5_readDream_92 (c := 60) (by decide) ?_
            refine w_iv dX5_readDream_94 rfl rfl (As := [.int 1, .int 60]) rfl rfl hJ79.1.1 zs_2 (Nat.le_of_ble_eq_true rfl) ?_
            obtain ⟨P83, hp84, hb⟩ := hb
            replace hb : zHd _ := hb
            have hp84c : b_1292 (zi M70) (1 : Int32).toInt (60 : Int32).toInt P83 := by rw [zt_1, zt_60]; exact hp84
            refine ZV.imp (u_1292 1 (by have := zt_1; omega) (by have := zt_1; omega) 60 (by have := zt_60; omega) (by have := zt_60; omega) hN hJ79.1 hp84c) ?_
            rintro _ ⟨x86, M81, rfl, h87, h88, hJ82, hq85⟩
            replace hb : zHd _ := hb x86.toInt h87 h88 (zi M81) (zi_fr hJ82.2) hq85
            have hJ90 := zJ_trans hJ79 hJ82 (zSub_cons (fun _ _ h h' hk => zIR_e (by omega) (by omega) hk) (zSub_cons (fun _ _ h h' hk => zIR_s (zIR_e (by omega) (by omega) hk)) (zSub_cons (fun _ _ h h' hk => zIR_s (zIR_s (zIR_e (by omega) (by omega) hk))) (zSub_cons (fun _ _ h h' hk => zIR_s (zIR_s (zIR_s (zIR_s (zIR_s (zIR_s (zIR_s (zIR_e (by omega) (by omega) hk)))))))) zSub_nil))))
            show ZW _ _ _ _ _ _ _ (97, [some (.ref 2), some (.int x5)], [.int x86], M81)
            rcases Int.decEq x86.toInt (0 : Int) with h91 | h91
            · skip
              replace hb : zHd _ := hb.1 h91
              refine w_ine_t dX5_readDream_97 (t := 102) rfl (by omega) ?_
              refine w_lo dX5_readDream_102 rfl rfl rfl rfl ?_
              have f92 := (hJ82.2 (2) 8 (zNI_k (by decide) (by decide) (zNI_k (by decide) (by decide) (zNI_k (by decide) (by decide) (zNI_k (by decide) (by decide) zNI_nil))))).trans ((hJ71.2 (2) 8 (zNI_k (by decide) (by decide) (zNI_k (by decide) (by decide) (zNI_k (by decide) (by decide) zNI_nil)))).trans ((hn68 (2) 8 (Or.inl (by omega))).trans (f60)))
              refine w_gf dX5_readDream_103 rfl hJ90.1.1 zs_2 f92 ?_
              refine w_gf dX5_readDream_106 rfl hJ90.1.1 (zs_1_0 h3) (zr_1_0_11 h3 hJ90.1) ?_
              refine w_lo dX5_readDream_109 rfl rfl rfl rfl ?_
              refine w_lo dX5_readDream_110 rfl rfl rfl rfl ?_
              refine w_gfi dX5_readDream_111 rfl hJ90.1 zs_2 (Nat.le_of_ble_eq_true rfl) zo_2_10 ?_
              intro x93 f94 h95 h96
              replace hb : zHd _ := hb x93.toInt (ziE f94)
              refine w_isi dX5_readDream_114 hJ90 (zs_1_9 h3) (by omega) (by omega) (zu_1_9 h3) (zbot _) (ztop _) ((zDm_or h3).elim (fun e => zIR_s (zIR_s (zIR_s (zIR_a (by omega) (by omega))))) (fun e => zIR_s (zIR_s (zIR_s (zIR_s (zIR_a (by omega) (by omega))))))) ?_
              intro M97 hJ98 f99 hn100
              replace hb : zHd _ := hb (zi M97) (zi_zup hn100 f99 rfl rfl)
              refine w_lo dX5_readDream_115 rfl rfl rfl rfl ?_
              refine w_bi dX5_readDream_116 (c := 17) (by decide) ?_
              refine w_iv dX5_readDream_118 rfl rfl (As := [.int 17]) rfl rfl hJ98.1.1 zs_2 (Nat.le_of_ble_eq_true rfl) ?_
              obtain ⟨P104, hp105, hb⟩ := hb
              replace hb : zHd _ := hb
              have hp105c : b_1291 (zi M97) (17 : Int32).toInt P104 := by rw [zt_17]; exact hp105
              refine ZV.imp (u_1291 17 (by have := zt_17; omega) (by have := zt_17; omega) hN hJ98.1 hp105c) ?_
              rintro _ ⟨x107, M102, rfl, h108, h109, hJ103, hq106⟩
              replace hb : zHd _ := hb x107.toInt h108 h109 (zi M102) (zi_fr hJ103.2) hq106
              have hJ111 := zJ_trans hJ98 hJ103 (zSub_cons (fun _ _ h h' hk => zIR_e (by omega) (by omega) hk) (zSub_cons (fun _ _ h h' hk => zIR_s (zIR_e (by omega) (by omega) hk)) (zSub_cons (fun _ _ h h' hk => zIR_s (zIR_s (zIR_s (zIR_s (zIR_s (zIR_s (zIR_s (zIR_e (by omega) (by omega) hk)))))))) zSub_nil)))
              show ZW _ _ _ _ _ _ _ (121, [some (.ref 2), some (.int x5)], [.int x107], M102)
              rcases Int.decEq x107.toInt (0 : Int) with h112 | h112
              · skip
                replace hb : zHd _ := hb.1 h112
                refine w_ieq_f dX5_readDream_121 (t := 135) rfl (by omega) ?_
                refine w_lo dX5_readDream_124 rfl rfl rfl rfl ?_
                refine w_ic dX5_readDream_125 zi_1 ?_
                refine w_si dX5_readDream_126 (c := 999) (by decide) ?_
                refine w_iv dX5_readDream_129 rfl rfl (As := [.int 1, .int 999]) rfl rfl hJ111.1.1 zs_2 (Nat.le_of_ble_eq_true rfl) ?_
                obtain ⟨P115, hp116, hb⟩ := hb
                replace hb : zHd _ := hb
                have hp116c : b_1292 (zi M102) (1 : Int32).toInt (999 : Int32).toInt P115 := by rw [zt_1, zt_999]; exact hp116
                refine ZV.imp (u_1292 1 (by have := zt_1; omega) (by have := zt_1; omega) 999 (by have := zt_999; omega) (by have := zt_999; omega) hN hJ111.1 hp116c) ?_
                rintro _ ⟨x118, M113, rfl, h119, h120, hJ114, hq117⟩
                replace hb : zHd _ := hb x118.toInt h119 h120 (zi M113) (zi_fr hJ114.2) hq117
                have hJ122 := zJ_trans hJ111 hJ114 (zSub_cons (fun _ _ h h' hk => zIR_e (by omega) (by omega) hk) (zSub_cons (fun _ _ h h' hk => zIR_s (zIR_e (by omega) (by omega) hk)) (zSub_cons (fun _ _ h h' hk => zIR_s (zIR_s (zIR_e (by omega) (by omega) hk))) (zSub_cons (fun _ _ h h' hk => zIR_s (zIR_s (zIR_s (zIR_s (zIR_s (zIR_s (zIR_s (zIR_e (by omega) (by omega) hk)))))))) zSub_nil))))
                show ZW _ _ _ _ _ _ _ (132, [some (.ref 2), some (.int x5)], [.int x118], M113)
                rcases Int.decEq x118.toInt (0 : Int) with h123 | h123
                · skip
                  replace hb : zHd _ := hb.1 h123
                  refine w_ine_t dX5_readDream_132 (t := 137) rfl (by omega) ?_
                  refine w_lo dX5_readDream_137 rfl rfl rfl rfl ?_
                  have f124 := (hJ114.2 (2) 8 (zNI_k (by decide) (by decide) (zNI_k (by decide) (by decide) (zNI_k (by decide) (by decide) (zNI_k (by decide) (by decide) zNI_nil))))).trans ((hJ103.2 (2) 8 (zNI_k (by decide) (by decide) (zNI_k (by decide) (by decide) (zNI_k (by decide) (by decide) zNI_nil)))).trans ((hn100 (2) 8 (Or.inl (by omega))).trans (f92)))
                  refine w_gf dX5_readDream_138 rfl hJ122.1.1 zs_2 f124 ?_
                  refine w_gf dX5_readDream_141 rfl hJ122.1.1 (zs_1_0 h3) (zr_1_0_12 h3 hJ122.1) ?_
                  refine w_lo dX5_readDream_144 rfl rfl rfl rfl ?_
                  refine w_lo dX5_readDream_145 rfl rfl rfl rfl ?_
                  refine w_gfi dX5_readDream_146 rfl hJ122.1 zs_2 (Nat.le_of_ble_eq_true rfl) zo_2_10 ?_
                  intro x125 f126 h127 h128
                  replace hb : zHd _ := hb x125.toInt (ziE f126)
                  refine w_isi dX5_readDream_149 hJ122 (zs_1_10 h3) (by omega) (by omega) (zu_1_10 h3) (zbot _) (ztop _) ((zDm_or h3).elim (fun e => zIR_s (zIR_s (zIR_s (zIR_a (by omega) (by omega))))) (fun e => zIR_s (zIR_s (zIR_s (zIR_s (zIR_a (by omega) (by omega))))))) ?_
                  intro M129 hJ130 f131 hn132
                  replace hb : zHd _ := hb (zi M129) (zi_zup hn132 f131 rfl rfl)
                  refine w_lo dX5_readDream_150 rfl rfl rfl rfl ?_
                  refine w_bi dX5_readDream_151 (c := 8) (by decide) ?_
                  refine w_iv dX5_readDream_153 rfl rfl (As := [.int 8]) rfl rfl hJ130.1.1 zs_2 (Nat.le_of_ble_eq_true rfl) ?_
                  obtain ⟨P136, hp137, hb⟩ := hb
                  replace hb : zHd _ := hb
                  have hp137c : b_1291 (zi M129) (8 : Int32).toInt P136 := by rw [zt_8]; exact hp137
                  refine ZV.imp (u_1291 8 (by have := zt_8; omega) (by have := zt_8; omega) hN hJ130.1 hp137c) ?_
                  rintro _ ⟨x139, M134, rfl, h140, h141, hJ135, hq138⟩
                  replace hb : zHd _ := hb x139.toInt h140 h141 (zi M134) (zi_fr hJ135.2) hq138
                  have hJ143 := zJ_trans hJ130 hJ135 (zSub_cons (fun _ _ h h' hk => zIR_e (by omega) (by omega) hk) (zSub_cons (fun _ _ h h' hk => zIR_s (zIR_e (by omega) (by omega) hk)) (zSub_cons (fun _ _ h h' hk => zIR_s (zIR_s (zIR_s (zIR_s (zIR_s (zIR_s (zIR_s (zIR_e (by omega) (by omega) hk)))))))) zSub_nil)))
                  show ZW _ _ _ _ _ _ _ (156, [some (.ref 2), some (.int x5)], [.int x139], M134)
                  rcases Int.decEq x139.toInt (0 : Int) with h144 | h144
                  · skip
                    replace hb : zHd _ := hb.1 h144
                    refine w_ieq_f dX5_readDream_156 (t := 169) rfl (by omega) ?_
                    refine w_lo dX5_readDream_159 rfl rfl rfl rfl ?_
                    refine w_ic dX5_readDream_160 zi_1 ?_
                    refine w_bi dX5_readDream_161 (c := 99) (by decide) ?_
                    refine w_iv dX5_readDream_163 rfl rfl (As := [.int 1, .int 99]) rfl rfl hJ143.1.1 zs_2 (Nat.le_of_ble_eq_true rfl) ?_
                    obtain ⟨P147, hp148, hb⟩ := hb
                    replace hb : zHd _ := hb
                    have hp148c : b_1292 (zi M134) (1 : Int32).toInt (99 : Int32).toInt P147 := by rw [zt_1, zt_99]; exact hp148
                    refine ZV.imp (u_1292 1 (by have := zt_1; omega) (by have := zt_1; omega) 99 (by have := zt_99; omega) (by have := zt_99; omega) hN hJ143.1 hp148c) ?_
                    rintro _ ⟨x150, M145, rfl, h151, h152, hJ146, hq149⟩
                    replace hb : zHd _ := hb x150.toInt h151 h152 (zi M145) (zi_fr hJ146.2) hq149
                    have hJ154 := zJ_trans hJ143 hJ146 (zSub_cons (fun _ _ h h' hk => zIR_e (by omega) (by omega) hk) (zSub_cons (fun _ _ h h' hk => zIR_s (zIR_e (by omega) (by omega) hk)) (zSub_cons (fun _ _ h h' hk => zIR_s (zIR_s (zIR_e (by omega) (by omega) hk))) (zSub_cons (fun _ _ h h' hk => zIR_s (zIR_s (zIR_s (zIR_s (zIR_s (zIR_s (zIR_s (zIR_e (by omega) (by omega) hk)))))))) zSub_nil))))
                    show ZW _ _ _ _ _ _ _ (166, [some (.ref 2), some (.int x5)], [.int x150], M145)
                    rcases Int.decEq x150.toInt (0 : Int) with h155 | h155
                    · skip
                      replace hb : zHd _ := hb.1 h155
                      refine w_ine_t dX5_readDream_166 (t := 171) rfl (by omega) ?_
                      refine w_lo dX5_readDream_171 rfl rfl rfl rfl ?_
                      have f156 := (hJ146.2 (2) 8 (zNI_k (by decide) (by decide) (zNI_k (by decide) (by decide) (zNI_k (by decide) (by decide) (zNI_k (by decide) (by decide) zNI_nil))))).trans ((hJ135.2 (2) 8 (zNI_k (by decide) (by decide) (zNI_k (by decide) (by decide) (zNI_k (by decide) (by decide) zNI_nil)))).trans ((hn132 (2) 8 (Or.inl (by omega))).trans (f124)))
                      refine w_gf dX5_readDream_172 rfl hJ154.1.1 zs_2 f156 ?_
                      refine w_gf dX5_readDream_175 rfl hJ154.1.1 (zs_1_0 h3) (zr_1_0_13 h3 hJ154.1) ?_
                      refine w_lo dX5_readDream_178 rfl rfl rfl rfl ?_
                      refine w_lo dX5_readDream_179 rfl rfl rfl rfl ?_
                      refine w_gfi dX5_readDream_180 rfl hJ154.1 zs_2 (Nat.le_of_ble_eq_true rfl) zo_2_10 ?_
                      intro x157 f158 h159 h160
                      replace hb : zHd _ := hb x157.toInt (ziE f158)
                      refine w_isi dX5_readDream_183 hJ154 (zs_1_11 h3) (by omega) (by omega) (zu_1_11 h3) (zbot _) (ztop _) ((zDm_or h3).elim (fun e => zIR_s (zIR_s (zIR_s (zIR_a (by omega) (by omega))))) (fun e => zIR_s (zIR_s (zIR_s (zIR_s (zIR_a (by omega) (by omega))))))) ?_
                      intro M161 hJ162 f163 hn164
                      replace hb : zHd _ := hb (zi M161) (zi_zup hn164 f163 rfl rfl)
                      refine w_lo dX5_readDream_184 rfl rfl rfl rfl ?_
                      have f166 := (hn164 (2) 8 (Or.inl (by omega))).trans (f156)
                      refine w_gf dX5_readDream_185 rfl hJ162.1.1 zs_2 f166 ?_
                      refine w_pu dX5_readDream_188 rfl rfl ?_
                      have f167 := (hn164 (b1) 2 (Or.inl (by omega))).trans ((hJ146.2 (b1) 2 (zNI_k (by decide) (by decide) (zNI_k (by decide) (by decide) (zNI_k (by decide) (by decide) (zNI_k (by decide) (by decide) zNI_nil))))).trans ((hJ135.2 (b1) 2 (zNI_k (by decide) (by decide) (zNI_k (by decide) (by decide) (zNI_k (by decide) (by decide) zNI_nil)))).trans ((hn132 (b1) 2 (Or.inl (by omega))).trans ((hJ114.2 (b1) 2 (zNI_k (by decide) (by decide) (zNI_k (by decide) (by decide) (zNI_k (by decide) (by decide) (zNI_k (by decide) (by decide) zNI_nil))))).trans ((hJ103.2 (b1) 2 (zNI_k (by decide) (by decide) (zNI_k (by decide) (by decide) (zNI_k (by decide) (by decide) zNI_nil)))).trans ((hn100 (b1) 2 (Or.inl (by omega))).trans ((hJ82.2 (b1) 2 (zNI_k (by decide) (by decide) (zNI_k (by decide) (by decide) (zNI_k (by decide) (by decide) (zNI_k (by decide) (by decide) zNI_nil))))).trans ((hJ71.2 (b1) 2 (zNI_k (by decide) (by decide) (zNI_k (by decide) (by decide) (zNI_k (by decide) (by decide) zNI_nil)))).trans ((hn68 (b1) 2 (Or.inl (by omega))).trans ((hJ50.2 (b1) 2 (zNI_k (by decide) (by decide) (zNI_k (by decide) (by decide) (zNI_k (by decide) (by decide) (zNI_k (by decide) (by decide) zNI_nil))))).trans ((hJ39.2 (b1) 2 (zNI_k (by decide) (by decide) (zNI_k (by decide) (by decide) (zNI_k (by decide) (by decide) zNI_nil)))).trans ((hn36 (b1) 2 (Or.inl (by omega))).trans ((hJ18.2 (b1) 2 (zNI_k (by decide) (by decide) (zNI_k (by decide) (by decide) (zNI_k (by decide) (by decide) (zNI_k (by decide) (by decide) zNI_nil))))).trans ((hJ11.2 (b1) 2 (zNI_k (by decide) (by decide) zNI_nil)).trans (f6)))))))))))))))
                      refine w_gf dX5_readDream_189 rfl hJ162.1.1 (zs_1_0 h3) f167 ?_
                      refine w_ic dX5_readDream_192 zi_1 ?_
                      refine w_add dX5_readDream_193 (by have := zt_1; omega) ?_
                      intro x168 h169
                      have := zt_1
                      replace hb : zHd _ := hb x168.toInt (by have := zt_1; omega)
                      refine w_pfi dX5_readDream_194 rfl hJ162 (zs_1_0 h3) (Nat.le_of_ble_eq_true rfl) (zo_1_0_2 h3) (by omega) (by omega) ((zDm_or h3).elim (fun e => zIR_s (zIR_s (zIR_s (zIR_s (zIR_s (zIR_k (by omega) (by omega))))))) (fun e => zIR_s (zIR_s (zIR_s (zIR_s (zIR_s (zIR_s (zIR_k (by omega) (by omega))))))))) rfl rfl rfl ?_
                      intro M170 hJ171 f172 hn173
                      replace hb : zHd _ := hb (zi M170) (zi_zup hn173 f172 rfl rfl)
                      refine w_ic dX5_readDream_197 zi_1 ?_
                      refine w_en dX5_readDream_198 rfl ?_
                      exact ⟨_, _, rfl, (by have := zt_1; omega), (by have := zt_1; omega), hJ171, hb⟩
                    · skip
                      replace hb : zHd _ := hb.2 h155
                      refine w_ine_f dX5_readDream_166 (t := 171) rfl (by omega) ?_
                      refine w_ic dX5_readDream_169 zi_0 ?_
                      refine w_en dX5_readDream_170 rfl ?_
                      exact ⟨_, _, rfl, (by have := zt_0; omega), (by have := zt_0; omega), hJ154, hb⟩
                  · skip
                    replace hb : zHd _ := hb.2 h144
                    refine w_ieq_t dX5_readDream_156 (t := 169) rfl (by omega) ?_
                    refine w_ic dX5_readDream_169 zi_0 ?_
                    refine w_en dX5_readDream_170 rfl ?_
                    exact ⟨_, _, rfl, (by have := zt_0; omega), (by have := zt_0; omega), hJ143, hb⟩
                · skip
                  replace hb : zHd _ := hb.2 h123
                  refine w_ine_f dX5_readDream_132 (t := 137) rfl (by omega) ?_
                  refine w_ic dX5_readDream_135 zi_0 ?_
                  refine w_en dX5_readDream_136 rfl ?_
                  exact ⟨_, _, rfl, (by have := zt_0; omega), (by have := zt_0; omega), hJ122, hb⟩
              · skip
                replace hb : zHd _ := hb.2 h112
                refine w_ieq_t dX5_readDream_121 (t := 135) rfl (by omega) ?_
                refine w_ic dX5_readDream_135 zi_0 ?_
                refine w_en dX5_readDream_136 rfl ?_
                exact ⟨_, _, rfl, (by have := zt_0; omega), (by have := zt_0; omega), hJ111, hb⟩
            · skip
              replace hb : zHd _ := hb.2 h91
              refine w_ine_f dX5_readDream_97 (t := 102) rfl (by omega) ?_
              refine w_ic dX5_readDream_100 zi_0 ?_
              refine w_en dX5_readDream_101 rfl ?_
              exact ⟨_, _, rfl, (by have := zt_0; omega), (by have := zt_0; omega), hJ90, hb⟩
          · skip
            replace hb : zHd _ := hb.2 h80
            refine w_ieq_t dX5_readDream_87 (t := 100) rfl (by omega) ?_
            refine w_ic dX5_readDream_100 zi_0 ?_
            refine w_en dX5_readDream_101 rfl ?_
            exact ⟨_, _, rfl, (by have := zt_0; omega), (by have := zt_0; omega), hJ79, hb⟩
        · skip
          replace hb : zHd _ := hb.2 h59
          refine w_ine_f dX5_readDream_63 (t := 68) rfl (by omega) ?_
          refine w_ic dX5_readDream_66 zi_0 ?_
          refine w_en dX5_readDream_67 rfl ?_
          exact ⟨_, _, rfl, (by have := zt_0; omega), (by have := zt_0; omega), hJ58, hb⟩
      · skip
        replace hb : zHd _ := hb.2 h48
        refine w_ieq_t dX5_readDream_52 (t := 66) rfl (by omega) ?_
        refine w_ic dX5_readDream_66 zi_0 ?_
        refine w_en dX5_readDream_67 rfl ?_
        exact ⟨_, _, rfl, (by have := zt_0; omega), (by have := zt_0; omega), hJ47, hb⟩
    · skip
      replace hb : zHd _ := hb.2 h27
      refine w_ine_f dX5_readDream_28 (t := 33) rfl (by omega) ?_
      refine w_ic dX5_readDream_31 zi_0 ?_
      refine w_en dX5_readDream_32 rfl ?_
      exact ⟨_, _, rfl, (by have := zt_0; omega), (by have := zt_0; omega), hJ26, hb⟩
  · skip
    replace hb : zHd _ := hb.2 h9
    refine w_clt_f dX5_readDream_11 (t := 20) rfl (by have := zt_6; omega) ?_
    refine w_lo dX5_readDream_14 rfl rfl rfl rfl ?_
    refine w_ic dX5_readDream_15 zi_5 ?_
    refine w_iv dX5_readDream_16 rfl rfl (As := [.int 5]) rfl rfl hJ0.1.1 zs_2 (Nat.le_of_ble_eq_true rfl) ?_
    obtain ⟨P177, hp178, hb⟩ := hb
    replace hb : zHd _ := hb
    have hp178c : b_1286 (zi M0) (5 : Int32).toInt P177 := by rw [zt_5]; exact hp178
    refine ZV.imp (u_1286 5 (by have := zt_5; omega) (by have := zt_5; omega) hN hJ0.1 hp178c) ?_
    rintro _ ⟨x180, M175, rfl, h181, h182, hJ176, hq179⟩
    replace hb : zHd _ := hb x180.toInt h181 h182 (zi M175) (zi_fr hJ176.2) hq179
    have hJ184 := zJ_trans hJ0 hJ176 (zSub_cons (fun _ _ h h' hk => zIR_e (by omega) (by omega) hk) (zSub_cons (fun _ _ h h' hk => zIR_s (zIR_e (by omega) (by omega) hk)) zSub_nil))
    show ZW _ _ _ _ _ _ _ (19, [some (.ref 2), some (.int x5)], [.int x180], M175)
    refine w_eni dX5_readDream_19 rfl (znb (by omega) (by omega)) ?_
    exact ⟨_, _, rfl, (by omega), (by omega), hJ184, hb⟩
set_option maxRecDepth 100000 in
theorem u_1299 {X : List Int32} {d N : Nat} {M0 : zM} (a0 : Int32) (ha00 : (27 : Int) ≤ a0.toInt) (ha01 : a0.toInt ≤ 98) (hN : N ≤ 600) (hB0 : zB N M0) {Q : Int → zF → Prop} (hb : b_1299 (zi M0) a0.toInt Q) : ZV X (d + 1) 1299 [.ref 2, .int a0] M0 (zRI N [] M0 (0) (1) (fun v M' => Q v.toInt (zi M'))) := by
  have hJ0 : zJ N [] M0 M0 := zJ_refl hB0
  refine ZV.of (ini := false) rfl (Nat.le_of_ble_eq_true rfl) (by decide +kernel) ?_
  unfold b_1299 at hb
  replace hb : zHd _ := hb
  show ZW _ _ _ _ _ _ _ (0, [some (.ref 2), some (.int a0)], [], M0)
  refine w_lo dX5_isSign_0 rfl rfl rfl rfl ?_
  refine w_gf dX5_isSign_1 rfl hJ0.1.1 zs_2 (zr_2_3 hJ0.1) ?_
  refine w_lo dX5_isSign_4 rfl rfl rfl rfl ?_
  refine w_gfi dX5_isSign_5 rfl hJ0.1 zs_2 (Nat.le_of_ble_eq_true rfl) zo_2_7 ?_
  intro x1 f2 h3 h4
  replace hb : zHd _ := hb x1.toInt (ziE f2) h3 h4
  refine w_iai dX5_isSign_8 hJ0.1 zs_4 (by omega) (by omega) zu_4 ?_
  intro x8 f5 h6 h7
  replace hb : zHd _ := hb x8.toInt (ziEk f5 rfl) h6 h7
  refine w_ic dX5_isSign_9 zi_5 ?_
  rcases Int.decEq x8.toInt (5 : Int) with h9 | h9
  · skip
    replace hb : zHd _ := hb.1 h9
    refine w_cne_t dX5_isSign_10 (t := 30) rfl (by have := zt_5; omega) ?_
    refine w_ic dX5_isSign_30 zi_0 ?_
    refine w_en dX5_isSign_31 rfl ?_
    exact ⟨_, _, rfl, (by have := zt_0; omega), (by have := zt_0; omega), hJ0, hb⟩
  · skip
    replace hb : zHd _ := hb.2 h9
    refine w_cne_f dX5_isSign_10 (t := 30) rfl (by have := zt_5; omega) ?_
    refine w_lo dX5_isSign_13 rfl rfl rfl rfl ?_
    refine w_gf dX5_isSign_14 rfl hJ0.1.1 zs_2 (zr_2_4 hJ0.1) ?_
    refine w_lo dX5_isSign_17 rfl rfl rfl rfl ?_
    refine w_gf dX5_isSign_18 rfl hJ0.1.1 zs_2 f2 ?_
    refine w_iai dX5_isSign_21 hJ0.1 zs_5 (by omega) (by omega) zu_5 ?_
    intro x13 f10 h11 h12
    replace hb : zHd _ := hb x13.toInt (ziEk f10 rfl)
    refine w_lo dX5_isSign_22 rfl rfl rfl rfl ?_
    rcases Int.decEq x13.toInt a0.toInt with h14 | h14
    · skip
      replace hb : zHd _ := hb.1 h14
      refine w_cne_t dX5_isSign_23 (t := 30) rfl (by omega) ?_
      refine w_ic dX5_isSign_30 zi_0 ?_
      refine w_en dX5_isSign_31 rfl ?_
      exact ⟨_, _, rfl, (by have := zt_0; omega), (by have := zt_0; omega), hJ0, hb⟩
    · skip
      replace hb : zHd _ := hb.2 h14
      refine w_cne_f dX5_isSign_23 (t := 30) rfl (by omega) ?_
      refine w_ic dX5_isSign_26 zi_1 ?_
      refine w_gt dX5_isSign_27 (t := 31) rfl ?_
      refine w_en dX5_isSign_31 rfl ?_
      exact ⟨_, _, rfl, (by have := zt_1; omega), (by have := zt_1; omega), hJ0, hb⟩
set_option maxRecDepth 100000 in
theorem u_1298_c8 {X : List Int32} {d N : Nat} {M0 : zM}  (hN : N ≤ 600) (hB0 : zB N M0) {Q : Int → zF → Prop} (hb : b_1298_c8 (zi M0) Q) : ZV X (d + 2) 1298 [.ref 2, .int 8] M0 (zRI N [(2, 3, 0), (2, 3, 1), (20, 21, 1), (41, 42, 1), (21, 22, 1000), (42, 43, 1000), (2, 3, 7)] M0 (0) (1) (fun v M' => Q v.toInt (zi M'))) := by
  have hJ0 : zJ N [(2, 3, 0), (2, 3, 1), (20, 21, 1), (41, 42, 1), (21, 22, 1000), (42, 43, 1000), (2, 3, 7)] M0 M0 := zJ_refl hB0
  refine ZV.of (ini := false) rfl (Nat.le_of_ble_eq_true rfl) (by decide +kernel) ?_
  obtain ⟨I73, I85, I99, hbE, hb73, hb85, hb99⟩ := hb
  replace hbE : zHd _ := hbE
  replace hb73 : zHd _ := hb73
  replace hb85 : zHd _ := hb85
  replace hb99 : zHd _ := hb99
  have main : ∀ n : Nat,
      (∀ (M : zM) (v73_2 : Int32) (o73_3 : Option Value), zJ N [(2, 3, 0), (2, 3, 1), (20, 21, 1), (41, 42, 1), (21, 22, 1000), (42, 43, 1000), (2, 3, 7)] M0 M → ((-1 : Int) ≤ v73_2.toInt) → (v73_2.toInt ≤ 26) → I73 n (zi M) v73_2.toInt → ZW X (d + 1) 5 false (some .boolean) cX5_readPart (zRI N [(2, 3, 0), (2, 3, 1), (20, 21, 1), (41, 42, 1), (21, 22, 1000), (42, 43, 1000), (2, 3, 7)] M0 (0) (1) (fun v M' => Q v.toInt (zi M'))) (73, [some (.ref 2), some (.int 8), some (.int v73_2), o73_3], [], M)) ∧
      (∀ (M : zM) (v85_2 : Int32) (o85_3 : Option Value), zJ N [(2, 3, 0), (2, 3, 1), (20, 21, 1), (41, 42, 1), (21, 22, 1000), (42, 43, 1000), (2, 3, 7)] M0 M → ((25 : Int) ≤ v85_2.toInt) → (v85_2.toInt ≤ 26) → I85 n (zi M) v85_2.toInt → ZW X (d + 1) 5 false (some .boolean) cX5_readPart (zRI N [(2, 3, 0), (2, 3, 1), (20, 21, 1), (41, 42, 1), (21, 22, 1000), (42, 43, 1000), (2, 3, 7)] M0 (0) (1) (fun v M' => Q v.toInt (zi M'))) (85, [some (.ref 2), some (.int 8), some (.int v85_2), o85_3], [], M)) ∧
      (∀ (M : zM) (v99_2 : Int32) (v99_3 : Int32), zJ N [(2, 3, 0), (2, 3, 1), (20, 21, 1), (41, 42, 1), (21, 22, 1000), (42, 43, 1000), (2, 3, 7)] M0 M → ((-1 : Int) ≤ v99_2.toInt) → (v99_2.toInt ≤ 26) → ((0 : Int) ≤ v99_3.toInt) → (v99_3.toInt ≤ 1) → I99 n (zi M) v99_2.toInt v99_3.toInt → ZW X (d + 1) 5 false (some .boolean) cX5_readPart (zRI N [(2, 3, 0), (2, 3, 1), (20, 21, 1), (41, 42, 1), (21, 22, 1000), (42, 43, 1000), (2, 3, 7)] M0 (0) (1) (fun v M' => Q v.toInt (zi M'))) (99, [some (.ref 2), some (.int 8), some (.int v99_2), some (.int v99_3)], [], M)) := by
    intro n
    induction n using Nat.strongRecOn with
    | _ n ih =>
      refine ⟨?_, ?_, ?_⟩
      · intro M v73_2 o73_3 hJ v73_20 v73_21 hI
        have hb : zHd _ := hb73 n (zi M) v73_2.toInt (zi_fr hJ.2) v73_20 v73_21 hI
        refine w_lo dX5_readPart_73 rfl rfl rfl rfl ?_
        refine w_bi dX5_readPart_74 (c := 25) (by decide) ?_
        rcases Int.decEq v73_2.toInt (25 : Int) with h1 | h1
        · skip
          replace hb : zHd _ := hb.1 h1
          refine w_ceq_f dX5_readPart_76 (t := 85) rfl (by have := zt_25; omega) ?_
          refine w_lo dX5_readPart_79 rfl rfl rfl rfl ?_
          refine w_bi dX5_readPart_80 (c := 26) (by decide) ?_
          rcases Int.decEq v73_2.toInt (26 : Int) with h2 | h2
          · skip
            replace hb : zHd _ := hb.1 h2
            refine w_cne_t dX5_readPart_82 (t := 89) rfl (by have := zt_26; omega) ?_
            refine w_ic dX5_readPart_89 zi_0 ?_
            refine w_lo (ml' := [some (.ref 2), some (.int 8), some (.int v73_2), some (.int 0)]) dX5_readPart_90 rfl rfl rfl rfl ?_
            refine w_lo dX5_readPart_91 rfl rfl rfl rfl ?_
            refine w_ieq_t dX5_readPart_92 (t := 99) rfl (by have := zt_0; omega) ?_
            obtain ⟨m, hm, hI⟩ := hb
            exact (ih m hm).2.2 M v73_2 0 hJ (by omega) (by omega) (by have := zt_0; omega) (by have := zt_0; omega) hI
          · skip
            replace hb : zHd _ := hb.2 h2
            refine w_cne_f dX5_readPart_82 (t := 89) rfl (by have := zt_26; omega) ?_
            obtain ⟨m, hm, hI⟩ := hb
            exact (ih m hm).2.1 M v73_2 o73_3 hJ (by omega) (by omega) hI
        · skip
          replace hb : zHd _ := hb.2 h1
          refine w_ceq_t dX5_readPart_76 (t := 85) rfl (by have := zt_25; omega) ?_
          obtain ⟨m, hm, hI⟩ := hb
          exact (ih m hm).2.1 M v73_2 o73_3 hJ (by omega) (by omega) hI
      · intro M v85_2 o85_3 hJ v85_20 v85_21 hI
        have hb : zHd _ := hb85 n (zi M) v85_2.toInt (zi_fr hJ.2) v85_20 v85_21 hI
        refine w_ic dX5_readPart_85 zi_1 ?_
        refine w_gt dX5_readPart_86 (t := 90) rfl ?_
        refine w_lo (ml' := [some (.ref 2), some (.int 8), some (.int v85_2), some (.int 1)]) dX5_readPart_90 rfl rfl rfl rfl ?_
        refine w_lo dX5_readPart_91 rfl rfl rfl rfl ?_
        refine w_ieq_f dX5_readPart_92 (t := 99) rfl (by have := zt_1; omega) ?_
        refine w_lo dX5_readPart_95 rfl rfl rfl rfl ?_
        refine w_iv dX5_readPart_96 rfl rfl (As := []) rfl rfl hJ.1.1 zs_2 (Nat.le_of_ble_eq_true rfl) ?_
        obtain ⟨P5, hp6, hb⟩ := hb
        replace hb : zHd _ := hb
        refine ZV.imp (u_1289 hN hJ.1 hp6) ?_
        rintro _ ⟨M3, rfl, hJ4, hq7⟩
        replace hb : zHd _ := hb  (zi M3) (zi_fr hJ4.2) hq7
        have hJ9 := zJ_trans hJ hJ4 (zSub_cons (fun _ _ h h' hk => zIR_s (zIR_s (zIR_s (zIR_s (zIR_s (zIR_s (zIR_e (by omega) (by omega) hk))))))) zSub_nil)
        show ZW _ _ _ _ _ _ _ (99, [some (.ref 2), some (.int 8), some (.int v85_2), some (.int 1)], [], M3)
        obtain ⟨m, hm, hI⟩ := hb
        exact (ih m hm).2.2 M3 v85_2 1 hJ9 (by omega) (by omega) (by have := zt_1; omega) (by have := zt_1; omega) hI
      · intro M v99_2 v99_3 hJ v99_20 v99_21 v99_30 v99_31 hI
        have hb : zHd _ := hb99 n (zi M) v99_2.toInt v99_3.toInt (zi_fr hJ.2) v99_20 v99_21 v99_30 v99_31 hI
        refine w_lo dX5_readPart_99 rfl rfl rfl rfl ?_
        refine w_bi dX5_readPart_100 (c := 40) (by decide) ?_
        refine w_iv dX5_readPart_102 rfl rfl (As := [.int 40]) rfl rfl hJ.1.1 zs_2 (Nat.le_of_ble_eq_true rfl) ?_
        obtain ⟨P12, hp13, hb⟩ := hb
        replace hb : zHd _ := hb
        have hp13c : b_1299 (zi M) (40 : Int32).toInt P12 := by rw [zt_40]; exact hp13
        refine ZV.imp (u_1299 40 (by have := zt_40; omega) (by have := zt_40; omega) hN hJ.1 hp13c) ?_
        rintro _ ⟨x15, M10, rfl, h16, h17, hJ11, hq14⟩
        replace hb : zHd _ := hb x15.toInt h16 h17 (zi M10) (zi_fr hJ11.2) hq14
        have hJ19 := zJ_trans hJ hJ11 zSub_nil
        show ZW _ _ _ _ _ _ _ (105, [some (.ref 2), some (.int 8), some (.int v99_2), some (.int v99_3)], [.int x15], M10)
        rcases Int.decEq x15.toInt (0 : Int) with h20 | h20
        · skip
          replace hb : zHd _ := hb.1 h20
          refine w_ine_t dX5_readPart_105 (t := 114) rfl (by omega) ?_
          refine w_lo dX5_readPart_114 rfl rfl rfl rfl ?_
          refine w_bi dX5_readPart_115 (c := 8) (by decide) ?_
          refine w_clt_f dX5_readPart_117 (t := 126) rfl (by have := zt_8; have := zt_8; omega) ?_
          refine w_lo dX5_readPart_120 rfl rfl rfl rfl ?_
          refine w_ic dX5_readPart_121 zi_5 ?_
          refine w_iv dX5_readPart_122 rfl rfl (As := [.int 5]) rfl rfl hJ19.1.1 zs_2 (Nat.le_of_ble_eq_true rfl) ?_
          obtain ⟨P23, hp24, hb⟩ := hb
          replace hb : zHd _ := hb
          have hp24c : b_1286 (zi M10) (5 : Int32).toInt P23 := by rw [zt_5]; exact hp24
          refine ZV.imp (u_1286 5 (by have := zt_5; omega) (by have := zt_5; omega) hN hJ19.1 hp24c) ?_
          rintro _ ⟨x26, M21, rfl, h27, h28, hJ22, hq25⟩
          replace hb : zHd _ := hb x26.toInt h27 h28 (zi M21) (zi_fr hJ22.2) hq25
          have hJ30 := zJ_trans hJ19 hJ22 (zSub_cons (fun _ _ h h' hk => zIR_e (by omega) (by omega) hk) (zSub_cons (fun _ _ h h' hk => zIR_s (zIR_e (by omega) (by omega) hk)) zSub_nil))
          show ZW _ _ _ _ _ _ _ (125, [some (.ref 2), some (.int 8), some (.int v99_2), some (.int v99_3)], [.int x26], M21)
          refine w_eni dX5_readPart_125 rfl (znb (by omega) (by omega)) ?_
          exact ⟨_, _, rfl, (by omega), (by omega), hJ30, hb⟩
        · skip
          replace hb : zHd _ := hb.2 h20
          refine w_ine_f dX5_readPart_105 (t := 114) rfl (by omega) ?_
          refine w_lo dX5_readPart_108 rfl rfl rfl rfl ?_
          refine w_ic dX5_readPart_109 zi_1 ?_
          refine w_iv dX5_readPart_110 rfl rfl (As := [.int 1]) rfl rfl hJ19.1.1 zs_2 (Nat.le_of_ble_eq_true rfl) ?_
          obtain ⟨P33, hp34, hb⟩ := hb
          replace hb : zHd _ := hb
          have hp34c : b_1286 (zi M10) (1 : Int32).toInt P33 := by rw [zt_1]; exact hp34
          refine ZV.imp (u_1286 1 (by have := zt_1; omega) (by have := zt_1; omega) hN hJ19.1 hp34c) ?_
          rintro _ ⟨x36, M31, rfl, h37, h38, hJ32, hq35⟩
          replace hb : zHd _ := hb x36.toInt h37 h38 (zi M31) (zi_fr hJ32.2) hq35
          have hJ40 := zJ_trans hJ19 hJ32 (zSub_cons (fun _ _ h h' hk => zIR_e (by omega) (by omega) hk) (zSub_cons (fun _ _ h h' hk => zIR_s (zIR_e (by omega) (by omega) hk)) zSub_nil))
          show ZW _ _ _ _ _ _ _ (113, [some (.ref 2), some (.int 8), some (.int v99_2), some (.int v99_3)], [.int x36], M31)
          refine w_eni dX5_readPart_113 rfl (znb (by omega) (by omega)) ?_
          exact ⟨_, _, rfl, (by omega), (by omega), hJ40, hb⟩
  have hb : zHd _ := hbE
  show ZW _ _ _ _ _ _ _ (0, [some (.ref 2), some (.int 8), none, none], [], M0)
  refine w_lo dX5_readPart_0 rfl rfl rfl rfl ?_
  refine w_gf dX5_readPart_1 rfl hJ0.1.1 zs_2 (zr_2_3 hJ0.1) ?_
  refine w_lo dX5_readPart_4 rfl rfl rfl rfl ?_
  refine w_gfi dX5_readPart_5 rfl hJ0.1 zs_2 (Nat.le_of_ble_eq_true rfl) zo_2_7 ?_
  intro x41 f42 h43 h44
  replace hb : zHd _ := hb x41.toInt (ziE f42) h43 h44
  refine w_iai dX5_readPart_8 hJ0.1 zs_4 (by omega) (by omega) zu_4 ?_
  intro x48 f45 h46 h47
  replace hb : zHd _ := hb x48.toInt (ziEk f45 rfl) h46 h47
  refine w_ic dX5_readPart_9 zi_4 ?_
  rcases Int.decEq x48.toInt (4 : Int) with h49 | h49
  · skip
    replace hb : zHd _ := hb.1 h49
    refine w_cne_t dX5_readPart_10 (t := 38) rfl (by have := zt_4; omega) ?_
    refine w_lo dX5_readPart_38 rfl rfl rfl rfl ?_
    refine w_iv dX5_readPart_39 rfl rfl (As := []) rfl rfl hJ0.1.1 zs_2 (Nat.le_of_ble_eq_true rfl) ?_
    obtain ⟨P52, hp53, hb⟩ := hb
    replace hb : zHd _ := hb
    refine ZV.imp (u_1287 hN hJ0.1 hp53) ?_
    rintro _ ⟨x55, M50, rfl, h56, h57, hJ51, hq54⟩
    replace hb : zHd _ := hb x55.toInt h56 h57 (zi M50) (zi_fr hJ51.2) hq54
    have hJ59 := zJ_trans hJ0 hJ51 zSub_nil
    show ZW _ _ _ _ _ _ _ (42, [some (.ref 2), some (.int 8), none, none], [.int x55], M50)
    refine w_lo (ml' := [some (.ref 2), some (.int 8), some (.int x55), none]) dX5_readPart_42 rfl rfl rfl rfl ?_
    refine w_lo dX5_readPart_43 rfl rfl rfl rfl ?_
    refine w_ic dX5_readPart_44 zi_m1 ?_
    rcases Int.decEq x55.toInt (-1 : Int) with h60 | h60
    · skip
      replace hb : zHd _ := hb.1 h60
      refine w_ceq_f dX5_readPart_45 (t := 73) rfl (by have := zt_m1; omega) ?_
      refine w_lo dX5_readPart_48 rfl rfl rfl rfl ?_
      refine w_bi dX5_readPart_49 (c := 7) (by decide) ?_
      rcases zcut x55.toInt (7 : Int) with h61 | h61
      · skip
        replace hb : zHd _ := hb.1 h61
        refine w_cge_f dX5_readPart_51 (t := 73) rfl (by have := zt_7; omega) ?_
        refine w_lo dX5_readPart_54 rfl rfl rfl rfl ?_
        obtain ⟨b62, f63, h64⟩ := zd_2_8 hJ59.1
        have h65 := zDm_b h64
        refine w_gf dX5_readPart_55 rfl hJ59.1.1 zs_2 f63 ?_
        replace hb : zHd _ := hb b62 (ziR f63) (zDm_or h64)
        refine w_gf dX5_readPart_58 rfl hJ59.1.1 (zs_1_0 h64) (zr_1_0_15 h64 hJ59.1) ?_
        refine w_ic dX5_readPart_61 zi_m1 ?_
        refine w_lo dX5_readPart_62 rfl rfl rfl rfl ?_
        refine w_sub dX5_readPart_63 (by have := zt_m1; omega) ?_
        intro x66 h67
        have := zt_m1
        replace hb : zHd _ := hb x66.toInt (by have := zt_m1; omega)
        refine w_iv dX5_readPart_64 rfl rfl (As := [.int x66]) rfl rfl hJ59.1.1 (zs_1_13 h64) (Nat.le_of_ble_eq_true rfl) ?_
        obtain ⟨P70, hp71, hb⟩ := hb
        replace hb : zHd _ := hb
        refine ZV.imp (u_515 (b62 + 13) (zLw_of h64) x66 hN hJ59.1 hp71) ?_
        rintro _ ⟨M68, rfl, hJ69, hq72⟩
        replace hb : zHd _ := hb  (zi M68) (zi_fr hJ69.2) hq72
        have hJ74 := zJ_trans hJ59 hJ69 (zSub_cons (fun _ _ h h' hk => ((zDm_or h64).elim (fun e => zIR_s (zIR_s (zIR_e (by omega) (by omega) hk))) (fun e => zIR_s (zIR_s (zIR_s (zIR_e (by omega) (by omega) hk)))))) (zSub_cons (fun _ _ h h' hk => ((zDm_or h64).elim (fun e => zIR_s (zIR_s (zIR_s (zIR_s (zIR_a (by omega) (by omega)))))) (fun e => zIR_s (zIR_s (zIR_s (zIR_s (zIR_s (zIR_a (by omega) (by omega))))))))) zSub_nil))
        show ZW _ _ _ _ _ _ _ (67, [some (.ref 2), some (.int 8), some (.int x55), none], [], M68)
        refine w_lo dX5_readPart_67 rfl rfl rfl rfl ?_
        refine w_iv dX5_readPart_68 rfl rfl (As := []) rfl rfl hJ74.1.1 zs_2 (Nat.le_of_ble_eq_true rfl) ?_
        obtain ⟨P77, hp78, hb⟩ := hb
        replace hb : zHd _ := hb
        refine ZV.imp (u_1289 hN hJ74.1 hp78) ?_
        rintro _ ⟨M75, rfl, hJ76, hq79⟩
        replace hb : zHd _ := hb  (zi M75) (zi_fr hJ76.2) hq79
        have hJ81 := zJ_trans hJ74 hJ76 (zSub_cons (fun _ _ h h' hk => zIR_s (zIR_s (zIR_s (zIR_s (zIR_s (zIR_s (zIR_e (by omega) (by omega) hk))))))) zSub_nil)
        show ZW _ _ _ _ _ _ _ (71, [some (.ref 2), some (.int 8), some (.int x55), none], [], M75)
        refine w_ic dX5_readPart_71 zi_1 ?_
        refine w_en dX5_readPart_72 rfl ?_
        exact ⟨_, _, rfl, (by have := zt_1; omega), (by have := zt_1; omega), hJ81, hb⟩
      · skip
        replace hb : zHd _ := hb.2 h61
        refine w_cge_t dX5_readPart_51 (t := 73) rfl (by have := zt_7; omega) ?_
        obtain ⟨m, hI⟩ := hb
        exact (main m).1 M50 x55 none hJ59 (by omega) (by omega) hI
    · skip
      replace hb : zHd _ := hb.2 h60
      refine w_ceq_t dX5_readPart_45 (t := 73) rfl (by have := zt_m1; omega) ?_
      obtain ⟨m, hI⟩ := hb
      exact (main m).1 M50 x55 none hJ59 (by omega) (by omega) hI
  · skip
    replace hb : zHd _ := hb.2 h49
    refine w_cne_f dX5_readPart_10 (t := 38) rfl (by have := zt_4; omega) ?_
    refine w_lo dX5_readPart_13 rfl rfl rfl rfl ?_
    obtain ⟨b82, f83, h84⟩ := zd_2_8 hJ0.1
    have h85 := zDm_b h84
    refine w_gf dX5_readPart_14 rfl hJ0.1.1 zs_2 f83 ?_
    replace hb : zHd _ := hb b82 (ziR f83) (zDm_or h84)
    refine w_gf dX5_readPart_17 rfl hJ0.1.1 (zs_1_0 h84) (zr_1_0_15 h84 hJ0.1) ?_
    refine w_lo dX5_readPart_20 rfl rfl rfl rfl ?_
    refine w_gf dX5_readPart_21 rfl hJ0.1.1 zs_2 (zr_2_4 hJ0.1) ?_
    refine w_lo dX5_readPart_24 rfl rfl rfl rfl ?_
    refine w_gf dX5_readPart_25 rfl hJ0.1.1 zs_2 f42 ?_
    refine w_iai dX5_readPart_28 hJ0.1 zs_5 (by omega) (by omega) zu_5 ?_
    intro x89 f86 h87 h88
    replace hb : zHd _ := hb x89.toInt (ziEk f86 rfl)
    refine w_iv dX5_readPart_29 rfl rfl (As := [.int x89]) rfl rfl hJ0.1.1 (zs_1_13 h84) (Nat.le_of_ble_eq_true rfl) ?_
    obtain ⟨P92, hp93, hb⟩ := hb
    replace hb : zHd _ := hb
    refine ZV.imp (u_515 (b82 + 13) (zLw_of h84) x89 hN hJ0.1 hp93) ?_
    rintro _ ⟨M90, rfl, hJ91, hq94⟩
    replace hb : zHd _ := hb  (zi M90) (zi_fr hJ91.2) hq94
    have hJ96 := zJ_trans hJ0 hJ91 (zSub_cons (fun _ _ h h' hk => ((zDm_or h84).elim (fun e => zIR_s (zIR_s (zIR_e (by omega) (by omega) hk))) (fun e => zIR_s (zIR_s (zIR_s (zIR_e (by omega) (by omega) hk)))))) (zSub_cons (fun _ _ h h' hk => ((zDm_or h84).elim (fun e => zIR_s (zIR_s (zIR_s (zIR_s (zIR_a (by omega) (by omega)))))) (fun e => zIR_s (zIR_s (zIR_s (zIR_s (zIR_s (zIR_a (by omega) (by omega))))))))) zSub_nil))
    show ZW _ _ _ _ _ _ _ (32, [some (.ref 2), some (.int 8), none, none], [], M90)
    refine w_lo dX5_readPart_32 rfl rfl rfl rfl ?_
    refine w_iv dX5_readPart_33 rfl rfl (As := []) rfl rfl hJ96.1.1 zs_2 (Nat.le_of_ble_eq_true rfl) ?_
    obtain ⟨P99, hp100, hb⟩ := hb
    replace hb : zHd _ := hb
    refine ZV.imp (u_1289 hN hJ96.1 hp100) ?_
    rintro _ ⟨M97, rfl, hJ98, hq101⟩
    replace hb : zHd _ := hb  (zi M97) (zi_fr hJ98.2) hq101
    have hJ103 := zJ_trans hJ96 hJ98 (zSub_cons (fun _ _ h h' hk => zIR_s (zIR_s (zIR_s (zIR_s (zIR_s (zIR_s (zIR_e (by omega) (by omega) hk))))))) zSub_nil)
    show ZW _ _ _ _ _ _ _ (36, [some (.ref 2), some (.int 8), none, none], [], M97)
    refine w_ic dX5_readPart_36 zi_1 ?_
    refine w_en dX5_readPart_37 rfl ?_
    exact ⟨_, _, rfl, (by have := zt_1; omega), (by have := zt_1; omega), hJ103, hb⟩
set_option maxRecDepth 100000 in
theorem u_1297_c8 {X : List Int32} {d N : Nat} {M0 : zM}  (hN : N ≤ 600) (hB0 : zB N M0) {Q : Int → zF → Prop} (hb : b_1297_c8 (zi M0) Q) : ZV X (d + 3) 1297 [.ref 2, .int 8] M0 (zRI N [(2, 3, 0), (2, 3, 1), (20, 21, 1), (41, 42, 1), (21, 22, 1000), (42, 43, 1000), (2, 3, 7)] M0 (0) (1) (fun v M' => Q v.toInt (zi M'))) := by
  have hJ0 : zJ N [(2, 3, 0), (2, 3, 1), (20, 21, 1), (41, 42, 1), (21, 22, 1000), (42, 43, 1000), (2, 3, 7)] M0 M0 := zJ_refl hB0
  refine ZV.of (ini := false) rfl (Nat.le_of_ble_eq_true rfl) (by decide +kernel) ?_
  obtain ⟨I4, I17, I52, I95, I115, I130, hbE, hb4, hb17, hb52, hb95, hb115, hb130⟩ := hb
  replace hbE : zHd _ := hbE
  replace hb4 : zHd _ := hb4
  replace hb17 : zHd _ := hb17
  replace hb52 : zHd _ := hb52
  replace hb95 : zHd _ := hb95
  replace hb115 : zHd _ := hb115
  replace hb130 : zHd _ := hb130
  have main : ∀ n : Nat,
      (∀ (M : zM) (v4_2 : Int32) (v4_3 : Int32) (o4_4 : Option Value) (o4_5 : Option Value), zJ N [(2, 3, 0), (2, 3, 1), (20, 21, 1), (41, 42, 1), (21, 22, 1000), (42, 43, 1000), (2, 3, 7)] M0 M → ((-13 : Int) ≤ v4_2.toInt) → (v4_2.toInt ≤ 0) → ((0 : Int) ≤ v4_3.toInt) → (v4_3.toInt ≤ 1601) → I4 n (zi M) v4_2.toInt v4_3.toInt → ZW X (d + 2) 5 false (some .boolean) cX5_readSum (zRI N [(2, 3, 0), (2, 3, 1), (20, 21, 1), (41, 42, 1), (21, 22, 1000), (42, 43, 1000), (2, 3, 7)] M0 (0) (1) (fun v M' => Q v.toInt (zi M'))) (4, [some (.ref 2), some (.int 8), some (.int v4_2), some (.int v4_3), o4_4, o4_5], [], M)) ∧
      (∀ (M : zM) (v17_2 : Int32) (v17_3 : Int32) (v17_4 : Int32) (v17_5 : Int32), zJ N [(2, 3, 0), (2, 3, 1), (20, 21, 1), (41, 42, 1), (21, 22, 1000), (42, 43, 1000), (2, 3, 7)] M0 M → ((-2147483648 : Int) ≤ v17_2.toInt) → (v17_2.toInt ≤ 0) → ((0 : Int) ≤ v17_3.toInt) → (v17_3.toInt ≤ 1600) → ((-11 : Int) ≤ v17_4.toInt) → (v17_4.toInt ≤ 0) → ((0 : Int) ≤ v17_5.toInt) → (v17_5.toInt ≤ 1601) → I17 n (zi M) v17_2.toInt v17_3.toInt v17_4.toInt v17_5.toInt → ZW X (d + 2) 5 false (some .boolean) cX5_readSum (zRI N [(2, 3, 0), (2, 3, 1), (20, 21, 1), (41, 42, 1), (21, 22, 1000), (42, 43, 1000), (2, 3, 7)] M0 (0) (1) (fun v M' => Q v.toInt (zi M'))) (17, [some (.ref 2), some (.int 8), some (.int v17_2), some (.int v17_3), some (.int v17_4), some (.int v17_5)], [], M)) ∧
      (∀ (M : zM) (v52_2 : Int32) (v52_3 : Int32) (u52_4 : Int32) (v52_5 : Int32), zJ N [(2, 3, 0), (2, 3, 1), (20, 21, 1), (41, 42, 1), (21, 22, 1000), (42, 43, 1000), (2, 3, 7)] M0 M → ((-2147483648 : Int) ≤ v52_2.toInt) → (v52_2.toInt ≤ 0) → ((0 : Int) ≤ v52_3.toInt) → (v52_3.toInt ≤ 1600) → ((0 : Int) ≤ v52_5.toInt) → (v52_5.toInt ≤ 1600) → I52 n (zi M) v52_2.toInt v52_3.toInt v52_5.toInt → ZW X (d + 2) 5 false (some .boolean) cX5_readSum (zRI N [(2, 3, 0), (2, 3, 1), (20, 21, 1), (41, 42, 1), (21, 22, 1000), (42, 43, 1000), (2, 3, 7)] M0 (0) (1) (fun v M' => Q v.toInt (zi M'))) (52, [some (.ref 2), some (.int 8), some (.int v52_2), some (.int v52_3), some (.int u52_4), some (.int v52_5)], [], M)) ∧
      (∀ (M : zM) (v95_2 : Int32) (v95_3 : Int32) (u95_4 : Int32) (v95_5 : Int32) (s95_0 : Int32), zJ N [(2, 3, 0), (2, 3, 1), (20, 21, 1), (41, 42, 1), (21, 22, 1000), (42, 43, 1000), (2, 3, 7)] M0 M → ((-2147483648 : Int) ≤ v95_2.toInt) → (v95_2.toInt ≤ 0) → ((0 : Int) ≤ v95_3.toInt) → (v95_3.toInt ≤ 1600) → ((0 : Int) ≤ v95_5.toInt) → (v95_5.toInt ≤ 1600) → ((-11 : Int) ≤ s95_0.toInt) → (s95_0.toInt ≤ 0) → I95 n (zi M) v95_2.toInt v95_3.toInt v95_5.toInt s95_0.toInt → ZW X (d + 2) 5 false (some .boolean) cX5_readSum (zRI N [(2, 3, 0), (2, 3, 1), (20, 21, 1), (41, 42, 1), (21, 22, 1000), (42, 43, 1000), (2, 3, 7)] M0 (0) (1) (fun v M' => Q v.toInt (zi M'))) (95, [some (.ref 2), some (.int 8), some (.int v95_2), some (.int v95_3), some (.int u95_4), some (.int v95_5)], [.int s95_0], M)) ∧
      (∀ (M : zM) (v115_2 : Int32) (v115_3 : Int32) (u115_4 : Int32) (u115_5 : Int32), zJ N [(2, 3, 0), (2, 3, 1), (20, 21, 1), (41, 42, 1), (21, 22, 1000), (42, 43, 1000), (2, 3, 7)] M0 M → ((-2147483648 : Int) ≤ v115_2.toInt) → (v115_2.toInt ≤ 0) → ((0 : Int) ≤ v115_3.toInt) → (v115_3.toInt ≤ 1600) → I115 n (zi M) v115_2.toInt v115_3.toInt → ZW X (d + 2) 5 false (some .boolean) cX5_readSum (zRI N [(2, 3, 0), (2, 3, 1), (20, 21, 1), (41, 42, 1), (21, 22, 1000), (42, 43, 1000), (2, 3, 7)] M0 (0) (1) (fun v M' => Q v.toInt (zi M'))) (115, [some (.ref 2), some (.int 8), some (.int v115_2), some (.int v115_3), some (.int u115_4), some (.int u115_5)], [], M)) ∧
      (∀ (M : zM) (u130_2 : Int32) (v130_3 : Int32) (u130_4 : Int32) (u130_5 : Int32), zJ N [(2, 3, 0), (2, 3, 1), (20, 21, 1), (41, 42, 1), (21, 22, 1000), (42, 43, 1000), (2, 3, 7)] M0 M → ((0 : Int) ≤ v130_3.toInt) → (v130_3.toInt ≤ 1600) → I130 n (zi M) v130_3.toInt → ZW X (d + 2) 5 false (some .boolean) cX5_readSum (zRI N [(2, 3, 0), (2, 3, 1), (20, 21, 1), (41, 42, 1), (21, 22, 1000), (42, 43, 1000), (2, 3, 7)] M0 (0) (1) (fun v M' => Q v.toInt (zi M'))) (130, [some (.ref 2), some (.int 8), some (.int u130_2), some (.int v130_3), some (.int u130_4), some (.int u130_5)], [], M)) := by
    intro n
    induction n using Nat.strongRecOn with
    | _ n ih =>
      refine ⟨?_, ?_, ?_, ?_, ?_, ?_⟩
      · intro M v4_2 v4_3 o4_4 o4_5 hJ v4_20 v4_21 v4_30 v4_31 hI
        have hb : zHd _ := hb4 n (zi M) v4_2.toInt v4_3.toInt (zi_fr hJ.2) v4_20 v4_21 v4_30 v4_31 hI
        refine w_lo dX5_readSum_4 rfl rfl rfl rfl ?_
        refine w_si dX5_readSum_5 (c := 1600) (by decide) ?_
        rcases zcut (1600 : Int) v4_3.toInt with h1 | h1
        · skip
          replace hb : zHd _ := hb.1 h1
          refine w_cgt_t dX5_readSum_8 (t := 177) rfl (by have := zt_1600; omega) ?_
          refine w_ic dX5_readSum_177 zi_1 ?_
          refine w_en dX5_readSum_178 rfl ?_
          exact ⟨_, _, rfl, (by have := zt_1; omega), (by have := zt_1; omega), hJ, hb⟩
        · skip
          replace hb : zHd _ := hb.2 h1
          refine w_cgt_f dX5_readSum_8 (t := 177) rfl (by have := zt_1600; omega) ?_
          refine w_ic dX5_readSum_11 zi_0 ?_
          refine w_lo (ml' := [some (.ref 2), some (.int 8), some (.int v4_2), some (.int v4_3), some (.int 0), o4_5]) dX5_readSum_12 rfl rfl rfl rfl ?_
          refine w_ic dX5_readSum_14 zi_0 ?_
          refine w_lo (ml' := [some (.ref 2), some (.int 8), some (.int v4_2), some (.int v4_3), some (.int 0), some (.int 0)]) dX5_readSum_15 rfl rfl rfl rfl ?_
          obtain ⟨m, hm, hI⟩ := hb
          exact (ih m hm).2.1 M v4_2 v4_3 0 0 hJ (zbot _) (by omega) (by omega) (by omega) (by have := zt_0; omega) (by have := zt_0; omega) (by have := zt_0; omega) (by have := zt_0; omega) hI
      · intro M v17_2 v17_3 v17_4 v17_5 hJ v17_20 v17_21 v17_30 v17_31 v17_40 v17_41 v17_50 v17_51 hI
        have hb : zHd _ := hb17 n (zi M) v17_2.toInt v17_3.toInt v17_4.toInt v17_5.toInt (zi_fr hJ.2) v17_21 v17_30 v17_31 v17_40 v17_41 v17_50 v17_51 hI
        refine w_lo dX5_readSum_17 rfl rfl rfl rfl ?_
        refine w_si dX5_readSum_19 (c := 1600) (by decide) ?_
        rcases zcut (1600 : Int) v17_5.toInt with h2 | h2
        · skip
          replace hb : zHd _ := hb.1 h2
          refine w_cgt_t dX5_readSum_22 (t := 115) rfl (by have := zt_1600; omega) ?_
          obtain ⟨m, hm, hI⟩ := hb
          exact (ih m hm).2.2.2.2.1 M v17_2 v17_3 v17_4 v17_5 hJ (zbot _) (by omega) (by omega) (by omega) hI
        · skip
          replace hb : zHd _ := hb.2 h2
          refine w_cgt_f dX5_readSum_22 (t := 115) rfl (by have := zt_1600; omega) ?_
          refine w_lo dX5_readSum_25 rfl rfl rfl rfl ?_
          refine w_lo dX5_readSum_26 rfl rfl rfl rfl ?_
          refine w_iv dX5_readSum_27 rfl rfl (As := [.int 8]) rfl rfl hJ.1.1 zs_2 (Nat.le_of_ble_eq_true rfl) ?_
          obtain ⟨P5, hp6, hb⟩ := hb
          replace hb : zHd _ := hb
          refine ZV.imp (u_1298_c8 hN hJ.1 hp6) ?_
          rintro _ ⟨x8, M3, rfl, h9, h10, hJ4, hq7⟩
          replace hb : zHd _ := hb x8.toInt h9 h10 (zi M3) (zi_fr hJ4.2) hq7
          have hJ12 := zJ_trans hJ hJ4 (zSub_cons (fun _ _ h h' hk => zIR_e (by omega) (by omega) hk) (zSub_cons (fun _ _ h h' hk => zIR_s (zIR_e (by omega) (by omega) hk)) (zSub_cons (fun _ _ h h' hk => zIR_s (zIR_s (zIR_e (by omega) (by omega) hk))) (zSub_cons (fun _ _ h h' hk => zIR_s (zIR_s (zIR_s (zIR_e (by omega) (by omega) hk)))) (zSub_cons (fun _ _ h h' hk => zIR_s (zIR_s (zIR_s (zIR_s (zIR_a (by omega) (by omega)))))) (zSub_cons (fun _ _ h h' hk => zIR_s (zIR_s (zIR_s (zIR_s (zIR_s (zIR_a (by omega) (by omega))))))) (zSub_cons (fun _ _ h h' hk => zIR_s (zIR_s (zIR_s (zIR_s (zIR_s (zIR_s (zIR_e (by omega) (by omega) hk))))))) zSub_nil)))))))
          show ZW _ _ _ _ _ _ _ (30, [some (.ref 2), some (.int 8), some (.int v17_2), some (.int v17_3), some (.int v17_4), some (.int v17_5)], [.int x8], M3)
          rcases Int.decEq x8.toInt (0 : Int) with h13 | h13
          · skip
            replace hb : zHd _ := hb.1 h13
            refine w_ine_t dX5_readSum_30 (t := 35) rfl (by omega) ?_
            refine w_lo dX5_readSum_35 rfl rfl rfl rfl ?_
            rcases Int.decEq v17_4.toInt (0 : Int) with h14 | h14
            · skip
              replace hb : zHd _ := hb.1 h14
              refine w_ieq_f dX5_readSum_37 (t := 52) rfl (by omega) ?_
              refine w_lo dX5_readSum_40 rfl rfl rfl rfl ?_
              obtain ⟨b15, f16, h17⟩ := zd_2_8 hJ12.1
              have h18 := zDm_b h17
              refine w_gf dX5_readSum_41 rfl hJ12.1.1 zs_2 f16 ?_
              replace hb : zHd _ := hb b15 (ziR f16) (zDm_or h17)
              refine w_gf dX5_readSum_44 rfl hJ12.1.1 (zs_1_0 h17) (zr_1_0_15 h17 hJ12.1) ?_
              refine w_lo dX5_readSum_47 rfl rfl rfl rfl ?_
              refine w_iv dX5_readSum_49 rfl rfl (As := [.int v17_4]) rfl rfl hJ12.1.1 (zs_1_13 h17) (Nat.le_of_ble_eq_true rfl) ?_
              obtain ⟨P21, hp22, hb⟩ := hb
              replace hb : zHd _ := hb
              refine ZV.imp (u_515 (b15 + 13) (zLw_of h17) v17_4 hN hJ12.1 hp22) ?_
              rintro _ ⟨M19, rfl, hJ20, hq23⟩
              replace hb : zHd _ := hb  (zi M19) (zi_fr hJ20.2) hq23
              have hJ25 := zJ_trans hJ12 hJ20 (zSub_cons (fun _ _ h h' hk => ((zDm_or h17).elim (fun e => zIR_s (zIR_s (zIR_e (by omega) (by omega) hk))) (fun e => zIR_s (zIR_s (zIR_s (zIR_e (by omega) (by omega) hk)))))) (zSub_cons (fun _ _ h h' hk => ((zDm_or h17).elim (fun e => zIR_s (zIR_s (zIR_s (zIR_s (zIR_a (by omega) (by omega)))))) (fun e => zIR_s (zIR_s (zIR_s (zIR_s (zIR_s (zIR_a (by omega) (by omega))))))))) zSub_nil))
              show ZW _ _ _ _ _ _ _ (52, [some (.ref 2), some (.int 8), some (.int v17_2), some (.int v17_3), some (.int v17_4), some (.int v17_5)], [], M19)
              obtain ⟨m, hm, hI⟩ := hb
              exact (ih m hm).2.2.1 M19 v17_2 v17_3 v17_4 v17_5 hJ25 (zbot _) (by omega) (by omega) (by omega) (by omega) (by omega) hI
            · skip
              replace hb : zHd _ := hb.2 h14
              refine w_ieq_t dX5_readSum_37 (t := 52) rfl (by omega) ?_
              obtain ⟨m, hm, hI⟩ := hb
              exact (ih m hm).2.2.1 M3 v17_2 v17_3 v17_4 v17_5 hJ12 (zbot _) (by omega) (by omega) (by omega) (by omega) (by omega) hI
          · skip
            replace hb : zHd _ := hb.2 h13
            refine w_ine_f dX5_readSum_30 (t := 35) rfl (by omega) ?_
            refine w_ic dX5_readSum_33 zi_0 ?_
            refine w_en dX5_readSum_34 rfl ?_
            exact ⟨_, _, rfl, (by have := zt_0; omega), (by have := zt_0; omega), hJ12, hb⟩
      · intro M v52_2 v52_3 u52_4 v52_5 hJ v52_20 v52_21 v52_30 v52_31 v52_50 v52_51 hI
        have hb : zHd _ := hb52 n (zi M) v52_2.toInt v52_3.toInt v52_5.toInt (zi_fr hJ.2) v52_21 v52_30 v52_31 v52_50 v52_51 hI
        refine w_lo dX5_readSum_52 rfl rfl rfl rfl ?_
        refine w_bi dX5_readSum_53 (c := 42) (by decide) ?_
        refine w_iv dX5_readSum_55 rfl rfl (As := [.int 42]) rfl rfl hJ.1.1 zs_2 (Nat.le_of_ble_eq_true rfl) ?_
        obtain ⟨P28, hp29, hb⟩ := hb
        replace hb : zHd _ := hb
        have hp29c : b_1299 (zi M) (42 : Int32).toInt P28 := by rw [zt_42]; exact hp29
        refine ZV.imp (u_1299 42 (by have := zt_42; omega) (by have := zt_42; omega) hN hJ.1 hp29c) ?_
        rintro _ ⟨x31, M26, rfl, h32, h33, hJ27, hq30⟩
        replace hb : zHd _ := hb x31.toInt h32 h33 (zi M26) (zi_fr hJ27.2) hq30
        have hJ35 := zJ_trans hJ hJ27 zSub_nil
        show ZW _ _ _ _ _ _ _ (58, [some (.ref 2), some (.int 8), some (.int v52_2), some (.int v52_3), some (.int u52_4), some (.int v52_5)], [.int x31], M26)
        rcases Int.decEq x31.toInt (0 : Int) with h36 | h36
        · skip
          replace hb : zHd _ := hb.1 h36
          refine w_ieq_f dX5_readSum_58 (t := 66) rfl (by omega) ?_
          refine w_bi dX5_readSum_61 (c := (-9)) (by decide) ?_
          refine w_gt dX5_readSum_63 (t := 95) rfl ?_
          obtain ⟨m, hm, hI⟩ := hb
          exact (ih m hm).2.2.2.1 M26 v52_2 v52_3 u52_4 v52_5 (-9) hJ35 (zbot _) (by omega) (by omega) (by omega) (by omega) (by omega) (by have := zt_m9; omega) (by have := zt_m9; omega) hI
        · skip
          replace hb : zHd _ := hb.2 h36
          refine w_ieq_t dX5_readSum_58 (t := 66) rfl (by omega) ?_
          refine w_lo dX5_readSum_66 rfl rfl rfl rfl ?_
          refine w_bi dX5_readSum_67 (c := 47) (by decide) ?_
          refine w_iv dX5_readSum_69 rfl rfl (As := [.int 47]) rfl rfl hJ35.1.1 zs_2 (Nat.le_of_ble_eq_true rfl) ?_
          obtain ⟨P39, hp40, hb⟩ := hb
          replace hb : zHd _ := hb
          have hp40c : b_1299 (zi M26) (47 : Int32).toInt P39 := by rw [zt_47]; exact hp40
          refine ZV.imp (u_1299 47 (by have := zt_47; omega) (by have := zt_47; omega) hN hJ35.1 hp40c) ?_
          rintro _ ⟨x42, M37, rfl, h43, h44, hJ38, hq41⟩
          replace hb : zHd _ := hb x42.toInt h43 h44 (zi M37) (zi_fr hJ38.2) hq41
          have hJ46 := zJ_trans hJ35 hJ38 zSub_nil
          show ZW _ _ _ _ _ _ _ (72, [some (.ref 2), some (.int 8), some (.int v52_2), some (.int v52_3), some (.int u52_4), some (.int v52_5)], [.int x42], M37)
          rcases Int.decEq x42.toInt (0 : Int) with h47 | h47
          · skip
            replace hb : zHd _ := hb.1 h47
            refine w_ieq_f dX5_readSum_72 (t := 80) rfl (by omega) ?_
            refine w_bi dX5_readSum_75 (c := (-10)) (by decide) ?_
            refine w_gt dX5_readSum_77 (t := 95) rfl ?_
            obtain ⟨m, hm, hI⟩ := hb
            exact (ih m hm).2.2.2.1 M37 v52_2 v52_3 u52_4 v52_5 (-10) hJ46 (zbot _) (by omega) (by omega) (by omega) (by omega) (by omega) (by have := zt_m10; omega) (by have := zt_m10; omega) hI
          · skip
            replace hb : zHd _ := hb.2 h47
            refine w_ieq_t dX5_readSum_72 (t := 80) rfl (by omega) ?_
            refine w_lo dX5_readSum_80 rfl rfl rfl rfl ?_
            refine w_bi dX5_readSum_81 (c := 37) (by decide) ?_
            refine w_iv dX5_readSum_83 rfl rfl (As := [.int 37]) rfl rfl hJ46.1.1 zs_2 (Nat.le_of_ble_eq_true rfl) ?_
            obtain ⟨P50, hp51, hb⟩ := hb
            replace hb : zHd _ := hb
            have hp51c : b_1299 (zi M37) (37 : Int32).toInt P50 := by rw [zt_37]; exact hp51
            refine ZV.imp (u_1299 37 (by have := zt_37; omega) (by have := zt_37; omega) hN hJ46.1 hp51c) ?_
            rintro _ ⟨x53, M48, rfl, h54, h55, hJ49, hq52⟩
            replace hb : zHd _ := hb x53.toInt h54 h55 (zi M48) (zi_fr hJ49.2) hq52
            have hJ57 := zJ_trans hJ46 hJ49 zSub_nil
            show ZW _ _ _ _ _ _ _ (86, [some (.ref 2), some (.int 8), some (.int v52_2), some (.int v52_3), some (.int u52_4), some (.int v52_5)], [.int x53], M48)
            rcases Int.decEq x53.toInt (0 : Int) with h58 | h58
            · skip
              replace hb : zHd _ := hb.1 h58
              refine w_ieq_f dX5_readSum_86 (t := 94) rfl (by omega) ?_
              refine w_bi dX5_readSum_89 (c := (-11)) (by decide) ?_
              refine w_gt dX5_readSum_91 (t := 95) rfl ?_
              obtain ⟨m, hm, hI⟩ := hb
              exact (ih m hm).2.2.2.1 M48 v52_2 v52_3 u52_4 v52_5 (-11) hJ57 (zbot _) (by omega) (by omega) (by omega) (by omega) (by omega) (by have := zt_m11; omega) (by have := zt_m11; omega) hI
            · skip
              replace hb : zHd _ := hb.2 h58
              refine w_ieq_t dX5_readSum_86 (t := 94) rfl (by omega) ?_
              refine w_ic dX5_readSum_94 zi_0 ?_
              obtain ⟨m, hm, hI⟩ := hb
              exact (ih m hm).2.2.2.1 M48 v52_2 v52_3 u52_4 v52_5 0 hJ57 (zbot _) (by omega) (by omega) (by omega) (by omega) (by omega) (by have := zt_0; omega) (by have := zt_0; omega) hI
      · intro M v95_2 v95_3 u95_4 v95_5 s95_0 hJ v95_20 v95_21 v95_30 v95_31 v95_50 v95_51 s95_00 s95_01 hI
        have hb : zHd _ := hb95 n (zi M) v95_2.toInt v95_3.toInt v95_5.toInt s95_0.toInt (zi_fr hJ.2) v95_21 v95_30 v95_31 v95_50 v95_51 s95_00 s95_01 hI
        refine w_lo (ml' := [some (.ref 2), some (.int 8), some (.int v95_2), some (.int v95_3), some (.int s95_0), some (.int v95_5)]) dX5_readSum_95 rfl rfl rfl rfl ?_
        refine w_lo dX5_readSum_97 rfl rfl rfl rfl ?_
        rcases Int.decEq s95_0.toInt (0 : Int) with h59 | h59
        · skip
          replace hb : zHd _ := hb.1 h59
          refine w_ine_t dX5_readSum_99 (t := 105) rfl (by omega) ?_
          refine w_lo dX5_readSum_105 rfl rfl rfl rfl ?_
          refine w_iv dX5_readSum_106 rfl rfl (As := []) rfl rfl hJ.1.1 zs_2 (Nat.le_of_ble_eq_true rfl) ?_
          obtain ⟨P62, hp63, hb⟩ := hb
          replace hb : zHd _ := hb
          refine ZV.imp (u_1289 hN hJ.1 hp63) ?_
          rintro _ ⟨M60, rfl, hJ61, hq64⟩
          replace hb : zHd _ := hb  (zi M60) (zi_fr hJ61.2) hq64
          have hJ66 := zJ_trans hJ hJ61 (zSub_cons (fun _ _ h h' hk => zIR_s (zIR_s (zIR_s (zIR_s (zIR_s (zIR_s (zIR_e (by omega) (by omega) hk))))))) zSub_nil)
          show ZW _ _ _ _ _ _ _ (109, [some (.ref 2), some (.int 8), some (.int v95_2), some (.int v95_3), some (.int s95_0), some (.int v95_5)], [], M60)
          refine w_inc (kk := 5) dX5_readSum_109 rfl (m := 1) (by decide) (by omega) ?_
          intro x67 h68
          refine ⟨_, rfl, ?_⟩
          replace hb : zHd _ := hb x67.toInt h68
          show ZW _ _ _ _ _ _ _ (112, [some (.ref 2), some (.int 8), some (.int v95_2), some (.int v95_3), some (.int s95_0), some (.int x67)], [], M60)
          refine w_gt dX5_readSum_112 (t := 17) rfl ?_
          obtain ⟨m, hm, hI⟩ := hb
          exact (ih m hm).2.1 M60 v95_2 v95_3 s95_0 x67 hJ66 (zbot _) (by omega) (by omega) (by omega) (by omega) (by omega) (by omega) (by omega) hI
        · skip
          replace hb : zHd _ := hb.2 h59
          refine w_ine_f dX5_readSum_99 (t := 105) rfl (by omega) ?_
          refine w_gt dX5_readSum_102 (t := 115) rfl ?_
          obtain ⟨m, hm, hI⟩ := hb
          exact (ih m hm).2.2.2.2.1 M v95_2 v95_3 s95_0 v95_5 hJ (zbot _) (by omega) (by omega) (by omega) hI
      · intro M v115_2 v115_3 u115_4 u115_5 hJ v115_20 v115_21 v115_30 v115_31 hI
        have hb : zHd _ := hb115 n (zi M) v115_2.toInt v115_3.toInt (zi_fr hJ.2) v115_21 v115_30 v115_31 hI
        refine w_lo dX5_readSum_115 rfl rfl rfl rfl ?_
        rcases Int.decEq v115_2.toInt (0 : Int) with h69 | h69
        · skip
          replace hb : zHd _ := hb.1 h69
          refine w_ieq_f dX5_readSum_116 (t := 130) rfl (by omega) ?_
          refine w_lo dX5_readSum_119 rfl rfl rfl rfl ?_
          obtain ⟨b70, f71, h72⟩ := zd_2_8 hJ.1
          have h73 := zDm_b h72
          refine w_gf dX5_readSum_120 rfl hJ.1.1 zs_2 f71 ?_
          replace hb : zHd _ := hb b70 (ziR f71) (zDm_or h72)
          refine w_gf dX5_readSum_123 rfl hJ.1.1 (zs_1_0 h72) (zr_1_0_15 h72 hJ.1) ?_
          refine w_lo dX5_readSum_126 rfl rfl rfl rfl ?_
          refine w_iv dX5_readSum_127 rfl rfl (As := [.int v115_2]) rfl rfl hJ.1.1 (zs_1_13 h72) (Nat.le_of_ble_eq_true rfl) ?_
          obtain ⟨P76, hp77, hb⟩ := hb
          replace hb : zHd _ := hb
          refine ZV.imp (u_515 (b70 + 13) (zLw_of h72) v115_2 hN hJ.1 hp77) ?_
          rintro _ ⟨M74, rfl, hJ75, hq78⟩
          replace hb : zHd _ := hb  (zi M74) (zi_fr hJ75.2) hq78
          have hJ80 := zJ_trans hJ hJ75 (zSub_cons (fun _ _ h h' hk => ((zDm_or h72).elim (fun e => zIR_s (zIR_s (zIR_e (by omega) (by omega) hk))) (fun e => zIR_s (zIR_s (zIR_s (zIR_e (by omega) (by omega) hk)))))) (zSub_cons (fun _ _ h h' hk => ((zDm_or h72).elim (fun e => zIR_s (zIR_s (zIR_s (zIR_s (zIR_a (by omega) (by omega)))))) (fun e => zIR_s (zIR_s (zIR_s (zIR_s (zIR_s (zIR_a (by omega) (by omega))))))))) zSub_nil))
          show ZW _ _ _ _ _ _ _ (130, [some (.ref 2), some (.int 8), some (.int v115_2), some (.int v115_3), some (.int u115_4), some (.int u115_5)], [], M74)
          obtain ⟨m, hm, hI⟩ := hb
          exact (ih m hm).2.2.2.2.2 M74 v115_2 v115_3 u115_4 u115_5 hJ80 (by omega) (by omega) hI
        · skip
          replace hb : zHd _ := hb.2 h69
          refine w_ieq_t dX5_readSum_116 (t := 130) rfl (by omega) ?_
          obtain ⟨m, hm, hI⟩ := hb
          exact (ih m hm).2.2.2.2.2 M v115_2 v115_3 u115_4 u115_5 hJ (by omega) (by omega) hI
      · intro M u130_2 v130_3 u130_4 u130_5 hJ v130_30 v130_31 hI
        have hb : zHd _ := hb130 n (zi M) v130_3.toInt (zi_fr hJ.2) v130_30 v130_31 hI
        refine w_lo dX5_readSum_130 rfl rfl rfl rfl ?_
        refine w_bi dX5_readSum_131 (c := 43) (by decide) ?_
        refine w_iv dX5_readSum_133 rfl rfl (As := [.int 43]) rfl rfl hJ.1.1 zs_2 (Nat.le_of_ble_eq_true rfl) ?_
        obtain ⟨P83, hp84, hb⟩ := hb
        replace hb : zHd _ := hb
        have hp84c : b_1299 (zi M) (43 : Int32).toInt P83 := by rw [zt_43]; exact hp84
        refine ZV.imp (u_1299 43 (by have := zt_43; omega) (by have := zt_43; omega) hN hJ.1 hp84c) ?_
        rintro _ ⟨x86, M81, rfl, h87, h88, hJ82, hq85⟩
        replace hb : zHd _ := hb x86.toInt h87 h88 (zi M81) (zi_fr hJ82.2) hq85
        have hJ90 := zJ_trans hJ hJ82 zSub_nil
        show ZW _ _ _ _ _ _ _ (136, [some (.ref 2), some (.int 8), some (.int u130_2), some (.int v130_3), some (.int u130_4), some (.int u130_5)], [.int x86], M81)
        rcases Int.decEq x86.toInt (0 : Int) with h91 | h91
        · skip
          replace hb : zHd _ := hb.1 h91
          refine w_ieq_f dX5_readSum_136 (t := 144) rfl (by omega) ?_
          refine w_bi dX5_readSum_139 (c := (-12)) (by decide) ?_
          refine w_gt dX5_readSum_141 (t := 159) rfl ?_
          refine w_lo (ml' := [some (.ref 2), some (.int 8), some (.int (-12)), some (.int v130_3), some (.int u130_4), some (.int u130_5)]) dX5_readSum_159 rfl rfl rfl rfl ?_
          refine w_lo dX5_readSum_160 rfl rfl rfl rfl ?_
          refine w_ine_t dX5_readSum_161 (t := 167) rfl (by have := zt_m12; omega) ?_
          refine w_lo dX5_readSum_167 rfl rfl rfl rfl ?_
          refine w_iv dX5_readSum_168 rfl rfl (As := []) rfl rfl hJ90.1.1 zs_2 (Nat.le_of_ble_eq_true rfl) ?_
          obtain ⟨P94, hp95, hb⟩ := hb
          replace hb : zHd _ := hb
          refine ZV.imp (u_1289 hN hJ90.1 hp95) ?_
          rintro _ ⟨M92, rfl, hJ93, hq96⟩
          replace hb : zHd _ := hb  (zi M92) (zi_fr hJ93.2) hq96
          have hJ98 := zJ_trans hJ90 hJ93 (zSub_cons (fun _ _ h h' hk => zIR_s (zIR_s (zIR_s (zIR_s (zIR_s (zIR_s (zIR_e (by omega) (by omega) hk))))))) zSub_nil)
          show ZW _ _ _ _ _ _ _ (171, [some (.ref 2), some (.int 8), some (.int (-12)), some (.int v130_3), some (.int u130_4), some (.int u130_5)], [], M92)
          refine w_inc (kk := 3) dX5_readSum_171 rfl (m := 1) (by decide) (by omega) ?_
          intro x99 h100
          refine ⟨_, rfl, ?_⟩
          replace hb : zHd _ := hb x99.toInt h100
          show ZW _ _ _ _ _ _ _ (174, [some (.ref 2), some (.int 8), some (.int (-12)), some (.int x99), some (.int u130_4), some (.int u130_5)], [], M92)
          refine w_gt dX5_readSum_174 (t := 4) rfl ?_
          obtain ⟨m, hm, hI⟩ := hb
          exact (ih m hm).1 M92 (-12) x99 (some (.int u130_4)) (some (.int u130_5)) hJ98 (by have := zt_m12; omega) (by have := zt_m12; omega) (by omega) (by omega) hI
        · skip
          replace hb : zHd _ := hb.2 h91
          refine w_ieq_t dX5_readSum_136 (t := 144) rfl (by omega) ?_
          refine w_lo dX5_readSum_144 rfl rfl rfl rfl ?_
          refine w_bi dX5_readSum_145 (c := 45) (by decide) ?_
          refine w_iv dX5_readSum_147 rfl rfl (As := [.int 45]) rfl rfl hJ90.1.1 zs_2 (Nat.le_of_ble_eq_true rfl) ?_
          obtain ⟨P103, hp104, hb⟩ := hb
          replace hb : zHd _ := hb
          have hp104c : b_1299 (zi M81) (45 : Int32).toInt P103 := by rw [zt_45]; exact hp104
          refine ZV.imp (u_1299 45 (by have := zt_45; omega) (by have := zt_45; omega) hN hJ90.1 hp104c) ?_
          rintro _ ⟨x106, M101, rfl, h107, h108, hJ102, hq105⟩
          replace hb : zHd _ := hb x106.toInt h107 h108 (zi M101) (zi_fr hJ102.2) hq105
          have hJ110 := zJ_trans hJ90 hJ102 zSub_nil
          show ZW _ _ _ _ _ _ _ (150, [some (.ref 2), some (.int 8), some (.int u130_2), some (.int v130_3), some (.int u130_4), some (.int u130_5)], [.int x106], M101)
          rcases Int.decEq x106.toInt (0 : Int) with h111 | h111
          · skip
            replace hb : zHd _ := hb.1 h111
            refine w_ieq_f dX5_readSum_150 (t := 158) rfl (by omega) ?_
            refine w_bi dX5_readSum_153 (c := (-13)) (by decide) ?_
            refine w_gt dX5_readSum_155 (t := 159) rfl ?_
            refine w_lo (ml' := [some (.ref 2), some (.int 8), some (.int (-13)), some (.int v130_3), some (.int u130_4), some (.int u130_5)]) dX5_readSum_159 rfl rfl rfl rfl ?_
            refine w_lo dX5_readSum_160 rfl rfl rfl rfl ?_
            refine w_ine_t dX5_readSum_161 (t := 167) rfl (by have := zt_m13; omega) ?_
            refine w_lo dX5_readSum_167 rfl rfl rfl rfl ?_
            refine w_iv dX5_readSum_168 rfl rfl (As := []) rfl rfl hJ110.1.1 zs_2 (Nat.le_of_ble_eq_true rfl) ?_
            obtain ⟨P114, hp115, hb⟩ := hb
            replace hb : zHd _ := hb
            refine ZV.imp (u_1289 hN hJ110.1 hp115) ?_
            rintro _ ⟨M112, rfl, hJ113, hq116⟩
            replace hb : zHd _ := hb  (zi M112) (zi_fr hJ113.2) hq116
            have hJ118 := zJ_trans hJ110 hJ113 (zSub_cons (fun _ _ h h' hk => zIR_s (zIR_s (zIR_s (zIR_s (zIR_s (zIR_s (zIR_e (by omega) (by omega) hk))))))) zSub_nil)
            show ZW _ _ _ _ _ _ _ (171, [some (.ref 2), some (.int 8), some (.int (-13)), some (.int v130_3), some (.int u130_4), some (.int u130_5)], [], M112)
            refine w_inc (kk := 3) dX5_readSum_171 rfl (m := 1) (by decide) (by omega) ?_
            intro x119 h120
            refine ⟨_, rfl, ?_⟩
            replace hb : zHd _ := hb x119.toInt h120
            show ZW _ _ _ _ _ _ _ (174, [some (.ref 2), some (.int 8), some (.int (-13)), some (.int x119), some (.int u130_4), some (.int u130_5)], [], M112)
            refine w_gt dX5_readSum_174 (t := 4) rfl ?_
            obtain ⟨m, hm, hI⟩ := hb
            exact (ih m hm).1 M112 (-13) x119 (some (.int u130_4)) (some (.int u130_5)) hJ118 (by have := zt_m13; omega) (by have := zt_m13; omega) (by omega) (by omega) hI
          · skip
            replace hb : zHd _ := hb.2 h111
            refine w_ieq_t dX5_readSum_150 (t := 158) rfl (by omega) ?_
            refine w_ic dX5_readSum_158 zi_0 ?_
            refine w_lo (ml' := [some (.ref 2), some (.int 8), some (.int 0), some (.int v130_3), some (.int u130_4), some (.int u130_5)]) dX5_readSum_159 rfl rfl rfl rfl ?_
            refine w_lo dX5_readSum_160 rfl rfl rfl rfl ?_
            refine w_ine_f dX5_readSum_161 (t := 167) rfl (by have := zt_0; omega) ?_
            refine w_gt dX5_readSum_164 (t := 177) rfl ?_
            refine w_ic dX5_readSum_177 zi_1 ?_
            refine w_en dX5_readSum_178 rfl ?_
            exact ⟨_, _, rfl, (by have := zt_1; omega), (by have := zt_1; omega), hJ110, hb⟩
  have hb : zHd _ := hbE
  show ZW _ _ _ _ _ _ _ (0, [some (.ref 2), some (.int 8), none, none, none, none], [], M0)
  refine w_ic dX5_readSum_0 zi_0 ?_
  refine w_lo (ml' := [some (.ref 2), some (.int 8), some (.int 0), none, none, none]) dX5_readSum_1 rfl rfl rfl rfl ?_
  refine w_ic dX5_readSum_2 zi_0 ?_
  refine w_lo (ml' := [some (.ref 2), some (.int 8), some (.int 0), some (.int 0), none, none]) dX5_readSum_3 rfl rfl rfl rfl ?_
  obtain ⟨m, hI⟩ := hb
  exact (main m).1 M0 0 0 none none hJ0 (by have := zt_0; omega) (by have := zt_0; omega) (by have := zt_0; omega) (by have := zt_0; omega) hI
set_option maxRecDepth 100000 in
theorem u_1298_c7 {X : List Int32} {d N : Nat} {M0 : zM}  (hN : N ≤ 600) (hB0 : zB N M0) {Q : Int → zF → Prop} (hb : b_1298_c7 (zi M0) Q) : ZV X (d + 4) 1298 [.ref 2, .int 7] M0 (zRI N [(2, 3, 0), (2, 3, 1), (20, 21, 1), (41, 42, 1), (21, 22, 1000), (42, 43, 1000), (2, 3, 7)] M0 (0) (1) (fun v M' => Q v.toInt (zi M'))) := by
  have hJ0 : zJ N [(2, 3, 0), (2, 3, 1), (20, 21, 1), (41, 42, 1), (21, 22, 1000), (42, 43, 1000), (2, 3, 7)] M0 M0 := zJ_refl hB0
  refine ZV.of (ini := false) rfl (Nat.le_of_ble_eq_true rfl) (by decide +kernel) ?_
  obtain ⟨I73, I85, I99, hbE, hb73, hb85, hb99⟩ := hb
  replace hbE : zHd _ := hbE
  replace hb73 : zHd _ := hb73
  replace hb85 : zHd _ := hb85
  replace hb99 : zHd _ := hb99
  have main : ∀ n : Nat,
      (∀ (M : zM) (v73_2 : Int32) (o73_3 : Option Value), zJ N [(2, 3, 0), (2, 3, 1), (20, 21, 1), (41, 42, 1), (21, 22, 1000), (42, 43, 1000), (2, 3, 7)] M0 M → ((-1 : Int) ≤ v73_2.toInt) → (v73_2.toInt ≤ 26) → I73 n (zi M) v73_2.toInt → ZW X (d + 3) 5 false (some .boolean) cX5_readPart (zRI N [(2, 3, 0), (2, 3, 1), (20, 21, 1), (41, 42, 1), (21, 22, 1000), (42, 43, 1000), (2, 3, 7)] M0 (0) (1) (fun v M' => Q v.toInt (zi M'))) (73, [some (.ref 2), some (.int 7), some (.int v73_2), o73_3], [], M)) ∧
      (∀ (M : zM) (v85_2 : Int32) (o85_3 : Option Value), zJ N [(2, 3, 0), (2, 3, 1), (20, 21, 1), (41, 42, 1), (21, 22, 1000), (42, 43, 1000), (2, 3, 7)] M0 M → ((25 : Int) ≤ v85_2.toInt) → (v85_2.toInt ≤ 26) → I85 n (zi M) v85_2.toInt → ZW X (d + 3) 5 false (some .boolean) cX5_readPart (zRI N [(2, 3, 0), (2, 3, 1), (20, 21, 1), (41, 42, 1), (21, 22, 1000), (42, 43, 1000), (2, 3, 7)] M0 (0) (1) (fun v M' => Q v.toInt (zi M'))) (85, [some (.ref 2), some (.int 7), some (.int v85_2), o85_3], [], M)) ∧
      (∀ (M : zM) (v99_2 : Int32) (v99_3 : Int32), zJ N [(2, 3, 0), (2, 3, 1), (20, 21, 1), (41, 42, 1), (21, 22, 1000), (42, 43, 1000), (2, 3, 7)] M0 M → ((-1 : Int) ≤ v99_2.toInt) → (v99_2.toInt ≤ 26) → ((0 : Int) ≤ v99_3.toInt) → (v99_3.toInt ≤ 1) → I99 n (zi M) v99_2.toInt v99_3.toInt → ZW X (d + 3) 5 false (some .boolean) cX5_readPart (zRI N [(2, 3, 0), (2, 3, 1), (20, 21, 1), (41, 42, 1), (21, 22, 1000), (42, 43, 1000), (2, 3, 7)] M0 (0) (1) (fun v M' => Q v.toInt (zi M'))) (99, [some (.ref 2), some (.int 7), some (.int v99_2), some (.int v99_3)], [], M)) := by
    intro n
    induction n using Nat.strongRecOn with
    | _ n ih =>
      refine ⟨?_, ?_, ?_⟩
      · intro M v73_2 o73_3 hJ v73_20 v73_21 hI
        have hb : zHd _ := hb73 n (zi M) v73_2.toInt (zi_fr hJ.2) v73_20 v73_21 hI
        refine w_lo dX5_readPart_73 rfl rfl rfl rfl ?_
        refine w_bi dX5_readPart_74 (c := 25) (by decide) ?_
        rcases Int.decEq v73_2.toInt (25 : Int) with h1 | h1
        · skip
          replace hb : zHd _ := hb.1 h1
          refine w_ceq_f dX5_readPart_76 (t := 85) rfl (by have := zt_25; omega) ?_
          refine w_lo dX5_readPart_79 rfl rfl rfl rfl ?_
          refine w_bi dX5_readPart_80 (c := 26) (by decide) ?_
          rcases Int.decEq v73_2.toInt (26 : Int) with h2 | h2
          · skip
            replace hb : zHd _ := hb.1 h2
            refine w_cne_t dX5_readPart_82 (t := 89) rfl (by have := zt_26; omega) ?_
            refine w_ic dX5_readPart_89 zi_0 ?_
            refine w_lo (ml' := [some (.ref 2), some (.int 7), some (.int v73_2), some (.int 0)]) dX5_readPart_90 rfl rfl rfl rfl ?_
            refine w_lo dX5_readPart_91 rfl rfl rfl rfl ?_
            refine w_ieq_t dX5_readPart_92 (t := 99) rfl (by have := zt_0; omega) ?_
            obtain ⟨m, hm, hI⟩ := hb
            exact (ih m hm).2.2 M v73_2 0 hJ (by omega) (by omega) (by have := zt_0; omega) (by have := zt_0; omega) hI
          · skip
            replace hb : zHd _ := hb.2 h2
            refine w_cne_f dX5_readPart_82 (t := 89) rfl (by have := zt_26; omega) ?_
            obtain ⟨m, hm, hI⟩ := hb
            exact (ih m hm).2.1 M v73_2 o73_3 hJ (by omega) (by omega) hI
        · skip
          replace hb : zHd _ := hb.2 h1
          refine w_ceq_t dX5_readPart_76 (t := 85) rfl (by have := zt_25; omega) ?_
          obtain ⟨m, hm, hI⟩ := hb
          exact (ih m hm).2.1 M v73_2 o73_3 hJ (by omega) (by omega) hI
      · intro M v85_2 o85_3 hJ v85_20 v85_21 hI
        have hb : zHd _ := hb85 n (zi M) v85_2.toInt (zi_fr hJ.2) v85_20 v85_21 hI
        refine w_ic dX5_readPart_85 zi_1 ?_
        refine w_gt dX5_readPart_86 (t := 90) rfl ?_
        refine w_lo (ml' := [some (.ref 2), some (.int 7), some (.int v85_2), some (.int 1)]) dX5_readPart_90 rfl rfl rfl rfl ?_
        refine w_lo dX5_readPart_91 rfl rfl rfl rfl ?_
        refine w_ieq_f dX5_readPart_92 (t := 99) rfl (by have := zt_1; omega) ?_
        refine w_lo dX5_readPart_95 rfl rfl rfl rfl ?_
        refine w_iv dX5_readPart_96 rfl rfl (As := []) rfl rfl hJ.1.1 zs_2 (Nat.le_of_ble_eq_true rfl) ?_
        obtain ⟨P5, hp6, hb⟩ := hb
        replace hb : zHd _ := hb
        refine ZV.imp (u_1289 hN hJ.1 hp6) ?_
        rintro _ ⟨M3, rfl, hJ4, hq7⟩
        replace hb : zHd _ := hb  (zi M3) (zi_fr hJ4.2) hq7
        have hJ9 := zJ_trans hJ hJ4 (zSub_cons (fun _ _ h h' hk => zIR_s (zIR_s (zIR_s (zIR_s (zIR_s (zIR_s (zIR_e (by omega) (by omega) hk))))))) zSub_nil)
        show ZW _ _ _ _ _ _ _ (99, [some (.ref 2), some (.int 7), some (.int v85_2), some (.int 1)], [], M3)
        obtain ⟨m, hm, hI⟩ := hb
        exact (ih m hm).2.2 M3 v85_2 1 hJ9 (by omega) (by omega) (by have := zt_1; omega) (by have := zt_1; omega) hI
      · intro M v99_2 v99_3 hJ v99_20 v99_21 v99_30 v99_31 hI
        have hb : zHd _ := hb99 n (zi M) v99_2.toInt v99_3.toInt (zi_fr hJ.2) v99_20 v99_21 v99_30 v99_31 hI
        refine w_lo dX5_readPart_99 rfl rfl rfl rfl ?_
        refine w_bi dX5_readPart_100 (c := 40) (by decide) ?_
        refine w_iv dX5_readPart_102 rfl rfl (As := [.int 40]) rfl rfl hJ.1.1 zs_2 (Nat.le_of_ble_eq_true rfl) ?_
        obtain ⟨P12, hp13, hb⟩ := hb
        replace hb : zHd _ := hb
        have hp13c : b_1299 (zi M) (40 : Int32).toInt P12 := by rw [zt_40]; exact hp13
        refine ZV.imp (u_1299 40 (by have := zt_40; omega) (by have := zt_40; omega) hN hJ.1 hp13c) ?_
        rintro _ ⟨x15, M10, rfl, h16, h17, hJ11, hq14⟩
        replace hb : zHd _ := hb x15.toInt h16 h17 (zi M10) (zi_fr hJ11.2) hq14
        have hJ19 := zJ_trans hJ hJ11 zSub_nil
        show ZW _ _ _ _ _ _ _ (105, [some (.ref 2), some (.int 7), some (.int v99_2), some (.int v99_3)], [.int x15], M10)
        rcases Int.decEq x15.toInt (0 : Int) with h20 | h20
        · skip
          replace hb : zHd _ := hb.1 h20
          refine w_ine_t dX5_readPart_105 (t := 114) rfl (by omega) ?_
          refine w_lo dX5_readPart_114 rfl rfl rfl rfl ?_
          refine w_bi dX5_readPart_115 (c := 8) (by decide) ?_
          refine w_clt_t dX5_readPart_117 (t := 126) rfl (by have := zt_7; have := zt_8; omega) ?_
          refine w_lo dX5_readPart_126 rfl rfl rfl rfl ?_
          refine w_iv dX5_readPart_127 rfl rfl (As := []) rfl rfl hJ19.1.1 zs_2 (Nat.le_of_ble_eq_true rfl) ?_
          obtain ⟨P23, hp24, hb⟩ := hb
          replace hb : zHd _ := hb
          refine ZV.imp (u_1289 hN hJ19.1 hp24) ?_
          rintro _ ⟨M21, rfl, hJ22, hq25⟩
          replace hb : zHd _ := hb  (zi M21) (zi_fr hJ22.2) hq25
          have hJ27 := zJ_trans hJ19 hJ22 (zSub_cons (fun _ _ h h' hk => zIR_s (zIR_s (zIR_s (zIR_s (zIR_s (zIR_s (zIR_e (by omega) (by omega) hk))))))) zSub_nil)
          show ZW _ _ _ _ _ _ _ (130, [some (.ref 2), some (.int 7), some (.int v99_2), some (.int v99_3)], [], M21)
          refine w_lo dX5_readPart_130 rfl rfl rfl rfl ?_
          refine w_lo dX5_readPart_131 rfl rfl rfl rfl ?_
          refine w_ic dX5_readPart_132 zi_1 ?_
          refine w_pu (st' := [.int 8, .ref 2]) dX5_readPart_133 rfl rfl ?_
          refine w_iv dX5_readPart_134 rfl rfl (As := [.int 8]) rfl rfl hJ27.1.1 zs_2 (Nat.le_of_ble_eq_true rfl) ?_
          obtain ⟨P30, hp31, hb⟩ := hb
          replace hb : zHd _ := hb
          refine ZV.imp (u_1297_c8 hN hJ27.1 hp31) ?_
          rintro _ ⟨x33, M28, rfl, h34, h35, hJ29, hq32⟩
          replace hb : zHd _ := hb x33.toInt h34 h35 (zi M28) (zi_fr hJ29.2) hq32
          have hJ37 := zJ_trans hJ27 hJ29 (zSub_cons (fun _ _ h h' hk => zIR_e (by omega) (by omega) hk) (zSub_cons (fun _ _ h h' hk => zIR_s (zIR_e (by omega) (by omega) hk)) (zSub_cons (fun _ _ h h' hk => zIR_s (zIR_s (zIR_e (by omega) (by omega) hk))) (zSub_cons (fun _ _ h h' hk => zIR_s (zIR_s (zIR_s (zIR_e (by omega) (by omega) hk)))) (zSub_cons (fun _ _ h h' hk => zIR_s (zIR_s (zIR_s (zIR_s (zIR_a (by omega) (by omega)))))) (zSub_cons (fun _ _ h h' hk => zIR_s (zIR_s (zIR_s (zIR_s (zIR_s (zIR_a (by omega) (by omega))))))) (zSub_cons (fun _ _ h h' hk => zIR_s (zIR_s (zIR_s (zIR_s (zIR_s (zIR_s (zIR_e (by omega) (by omega) hk))))))) zSub_nil)))))))
          show ZW _ _ _ _ _ _ _ (137, [some (.ref 2), some (.int 7), some (.int v99_2), some (.int v99_3)], [.int x33], M28)
          rcases Int.decEq x33.toInt (0 : Int) with h38 | h38
          · skip
            replace hb : zHd _ := hb.1 h38
            refine w_ine_t dX5_readPart_137 (t := 142) rfl (by omega) ?_
            refine w_lo dX5_readPart_142 rfl rfl rfl rfl ?_
            rcases Int.decEq v99_3.toInt (0 : Int) with h39 | h39
            · skip
              replace hb : zHd _ := hb.1 h39
              refine w_ieq_f dX5_readPart_143 (t := 200) rfl (by omega) ?_
              refine w_lo dX5_readPart_146 rfl rfl rfl rfl ?_
              refine w_bi dX5_readPart_147 (c := 44) (by decide) ?_
              refine w_iv dX5_readPart_149 rfl rfl (As := [.int 44]) rfl rfl hJ37.1.1 zs_2 (Nat.le_of_ble_eq_true rfl) ?_
              obtain ⟨P42, hp43, hb⟩ := hb
              replace hb : zHd _ := hb
              have hp43c : b_1299 (zi M28) (44 : Int32).toInt P42 := by rw [zt_44]; exact hp43
              refine ZV.imp (u_1299 44 (by have := zt_44; omega) (by have := zt_44; omega) hN hJ37.1 hp43c) ?_
              rintro _ ⟨x45, M40, rfl, h46, h47, hJ41, hq44⟩
              replace hb : zHd _ := hb x45.toInt h46 h47 (zi M40) (zi_fr hJ41.2) hq44
              have hJ49 := zJ_trans hJ37 hJ41 zSub_nil
              show ZW _ _ _ _ _ _ _ (152, [some (.ref 2), some (.int 7), some (.int v99_2), some (.int v99_3)], [.int x45], M40)
              rcases Int.decEq x45.toInt (0 : Int) with h50 | h50
              · skip
                replace hb : zHd _ := hb.1 h50
                refine w_ine_t dX5_readPart_152 (t := 161) rfl (by omega) ?_
                refine w_lo dX5_readPart_161 rfl rfl rfl rfl ?_
                refine w_iv dX5_readPart_162 rfl rfl (As := []) rfl rfl hJ49.1.1 zs_2 (Nat.le_of_ble_eq_true rfl) ?_
                obtain ⟨P53, hp54, hb⟩ := hb
                replace hb : zHd _ := hb
                refine ZV.imp (u_1289 hN hJ49.1 hp54) ?_
                rintro _ ⟨M51, rfl, hJ52, hq55⟩
                replace hb : zHd _ := hb  (zi M51) (zi_fr hJ52.2) hq55
                have hJ57 := zJ_trans hJ49 hJ52 (zSub_cons (fun _ _ h h' hk => zIR_s (zIR_s (zIR_s (zIR_s (zIR_s (zIR_s (zIR_e (by omega) (by omega) hk))))))) zSub_nil)
                show ZW _ _ _ _ _ _ _ (165, [some (.ref 2), some (.int 7), some (.int v99_2), some (.int v99_3)], [], M51)
                refine w_lo dX5_readPart_165 rfl rfl rfl rfl ?_
                refine w_lo dX5_readPart_166 rfl rfl rfl rfl ?_
                refine w_ic dX5_readPart_167 zi_1 ?_
                refine w_pu (st' := [.int 8, .ref 2]) dX5_readPart_168 rfl rfl ?_
                refine w_iv dX5_readPart_169 rfl rfl (As := [.int 8]) rfl rfl hJ57.1.1 zs_2 (Nat.le_of_ble_eq_true rfl) ?_
                obtain ⟨P60, hp61, hb⟩ := hb
                replace hb : zHd _ := hb
                refine ZV.imp (u_1297_c8 hN hJ57.1 hp61) ?_
                rintro _ ⟨x63, M58, rfl, h64, h65, hJ59, hq62⟩
                replace hb : zHd _ := hb x63.toInt h64 h65 (zi M58) (zi_fr hJ59.2) hq62
                have hJ67 := zJ_trans hJ57 hJ59 (zSub_cons (fun _ _ h h' hk => zIR_e (by omega) (by omega) hk) (zSub_cons (fun _ _ h h' hk => zIR_s (zIR_e (by omega) (by omega) hk)) (zSub_cons (fun _ _ h h' hk => zIR_s (zIR_s (zIR_e (by omega) (by omega) hk))) (zSub_cons (fun _ _ h h' hk => zIR_s (zIR_s (zIR_s (zIR_e (by omega) (by omega) hk)))) (zSub_cons (fun _ _ h h' hk => zIR_s (zIR_s (zIR_s (zIR_s (zIR_a (by omega) (by omega)))))) (zSub_cons (fun _ _ h h' hk => zIR_s (zIR_s (zIR_s (zIR_s (zIR_s (zIR_a (by omega) (by omega))))))) (zSub_cons (fun _ _ h h' hk => zIR_s (zIR_s (zIR_s (zIR_s (zIR_s (zIR_s (zIR_e (by omega) (by omega) hk))))))) zSub_nil)))))))
                show ZW _ _ _ _ _ _ _ (172, [some (.ref 2), some (.int 7), some (.int v99_2), some (.int v99_3)], [.int x63], M58)
                rcases Int.decEq x63.toInt (0 : Int) with h68 | h68
                · skip
                  replace hb : zHd _ := hb.1 h68
                  refine w_ine_t dX5_readPart_172 (t := 177) rfl (by omega) ?_
                  refine w_lo dX5_readPart_177 rfl rfl rfl rfl ?_
                  obtain ⟨b69, f70, h71⟩ := zd_2_8 hJ67.1
                  have h72 := zDm_b h71
                  refine w_gf dX5_readPart_178 rfl hJ67.1.1 zs_2 f70 ?_
                  replace hb : zHd _ := hb b69 (ziR f70) (zDm_or h71)
                  refine w_gf dX5_readPart_181 rfl hJ67.1.1 (zs_1_0 h71) (zr_1_0_15 h71 hJ67.1) ?_
                  refine w_lo dX5_readPart_184 rfl rfl rfl rfl ?_
                  refine w_bi dX5_readPart_185 (c := 25) (by decide) ?_
                  rcases Int.decEq v99_2.toInt (25 : Int) with h73 | h73
                  · skip
                    replace hb : zHd _ := hb.1 h73
                    refine w_cne_t dX5_readPart_187 (t := 195) rfl (by have := zt_25; omega) ?_
                    refine w_bi dX5_readPart_195 (c := (-20)) (by decide) ?_
                    refine w_iv dX5_readPart_197 rfl rfl (As := [.int (-20)]) rfl rfl hJ67.1.1 (zs_1_13 h71) (Nat.le_of_ble_eq_true rfl) ?_
                    obtain ⟨P76, hp77, hb⟩ := hb
                    replace hb : zHd _ := hb
                    have hp77c : b_515 (b69 + 13) (zi M58) ((-20) : Int32).toInt P76 := by rw [zt_m20]; exact hp77
                    refine ZV.imp (u_515 (b69 + 13) (zLw_of h71) (-20) hN hJ67.1 hp77c) ?_
                    rintro _ ⟨M74, rfl, hJ75, hq78⟩
                    replace hb : zHd _ := hb  (zi M74) (zi_fr hJ75.2) hq78
                    have hJ80 := zJ_trans hJ67 hJ75 (zSub_cons (fun _ _ h h' hk => ((zDm_or h71).elim (fun e => zIR_s (zIR_s (zIR_e (by omega) (by omega) hk))) (fun e => zIR_s (zIR_s (zIR_s (zIR_e (by omega) (by omega) hk)))))) (zSub_cons (fun _ _ h h' hk => ((zDm_or h71).elim (fun e => zIR_s (zIR_s (zIR_s (zIR_s (zIR_a (by omega) (by omega)))))) (fun e => zIR_s (zIR_s (zIR_s (zIR_s (zIR_s (zIR_a (by omega) (by omega))))))))) zSub_nil))
                    show ZW _ _ _ _ _ _ _ (200, [some (.ref 2), some (.int 7), some (.int v99_2), some (.int v99_3)], [], M74)
                    refine w_lo dX5_readPart_200 rfl rfl rfl rfl ?_
                    refine w_bi dX5_readPart_201 (c := 41) (by decide) ?_
                    refine w_iv dX5_readPart_203 rfl rfl (As := [.int 41]) rfl rfl hJ80.1.1 zs_2 (Nat.le_of_ble_eq_true rfl) ?_
                    obtain ⟨P83, hp84, hb⟩ := hb
                    replace hb : zHd _ := hb
                    have hp84c : b_1299 (zi M74) (41 : Int32).toInt P83 := by rw [zt_41]; exact hp84
                    refine ZV.imp (u_1299 41 (by have := zt_41; omega) (by have := zt_41; omega) hN hJ80.1 hp84c) ?_
                    rintro _ ⟨x86, M81, rfl, h87, h88, hJ82, hq85⟩
                    replace hb : zHd _ := hb x86.toInt h87 h88 (zi M81) (zi_fr hJ82.2) hq85
                    have hJ90 := zJ_trans hJ80 hJ82 zSub_nil
                    show ZW _ _ _ _ _ _ _ (206, [some (.ref 2), some (.int 7), some (.int v99_2), some (.int v99_3)], [.int x86], M81)
                    rcases Int.decEq x86.toInt (0 : Int) with h91 | h91
                    · skip
                      replace hb : zHd _ := hb.1 h91
                      refine w_ine_t dX5_readPart_206 (t := 215) rfl (by omega) ?_
                      refine w_lo dX5_readPart_215 rfl rfl rfl rfl ?_
                      refine w_iv dX5_readPart_216 rfl rfl (As := []) rfl rfl hJ90.1.1 zs_2 (Nat.le_of_ble_eq_true rfl) ?_
                      obtain ⟨P94, hp95, hb⟩ := hb
                      replace hb : zHd _ := hb
                      refine ZV.imp (u_1289 hN hJ90.1 hp95) ?_
                      rintro _ ⟨M92, rfl, hJ93, hq96⟩
                      replace hb : zHd _ := hb  (zi M92) (zi_fr hJ93.2) hq96
                      have hJ98 := zJ_trans hJ90 hJ93 (zSub_cons (fun _ _ h h' hk => zIR_s (zIR_s (zIR_s (zIR_s (zIR_s (zIR_s (zIR_e (by omega) (by omega) hk))))))) zSub_nil)
                      show ZW _ _ _ _ _ _ _ (219, [some (.ref 2), some (.int 7), some (.int v99_2), some (.int v99_3)], [], M92)
                      refine w_ic dX5_readPart_219 zi_1 ?_
                      refine w_en dX5_readPart_220 rfl ?_
                      exact ⟨_, _, rfl, (by have := zt_1; omega), (by have := zt_1; omega), hJ98, hb⟩
                    · skip
                      replace hb : zHd _ := hb.2 h91
                      refine w_ine_f dX5_readPart_206 (t := 215) rfl (by omega) ?_
                      refine w_lo dX5_readPart_209 rfl rfl rfl rfl ?_
                      refine w_ic dX5_readPart_210 zi_1 ?_
                      refine w_iv dX5_readPart_211 rfl rfl (As := [.int 1]) rfl rfl hJ90.1.1 zs_2 (Nat.le_of_ble_eq_true rfl) ?_
                      obtain ⟨P101, hp102, hb⟩ := hb
                      replace hb : zHd _ := hb
                      have hp102c : b_1286 (zi M81) (1 : Int32).toInt P101 := by rw [zt_1]; exact hp102
                      refine ZV.imp (u_1286 1 (by have := zt_1; omega) (by have := zt_1; omega) hN hJ90.1 hp102c) ?_
                      rintro _ ⟨x104, M99, rfl, h105, h106, hJ100, hq103⟩
                      replace hb : zHd _ := hb x104.toInt h105 h106 (zi M99) (zi_fr hJ100.2) hq103
                      have hJ108 := zJ_trans hJ90 hJ100 (zSub_cons (fun _ _ h h' hk => zIR_e (by omega) (by omega) hk) (zSub_cons (fun _ _ h h' hk => zIR_s (zIR_e (by omega) (by omega) hk)) zSub_nil))
                      show ZW _ _ _ _ _ _ _ (214, [some (.ref 2), some (.int 7), some (.int v99_2), some (.int v99_3)], [.int x104], M99)
                      refine w_eni dX5_readPart_214 rfl (znb (by omega) (by omega)) ?_
                      exact ⟨_, _, rfl, (by omega), (by omega), hJ108, hb⟩
                  · skip
                    replace hb : zHd _ := hb.2 h73
                    refine w_cne_f dX5_readPart_187 (t := 195) rfl (by have := zt_25; omega) ?_
                    refine w_bi dX5_readPart_190 (c := (-19)) (by decide) ?_
                    refine w_gt dX5_readPart_192 (t := 197) rfl ?_
                    refine w_iv dX5_readPart_197 rfl rfl (As := [.int (-19)]) rfl rfl hJ67.1.1 (zs_1_13 h71) (Nat.le_of_ble_eq_true rfl) ?_
                    obtain ⟨P111, hp112, hb⟩ := hb
                    replace hb : zHd _ := hb
                    have hp112c : b_515 (b69 + 13) (zi M58) ((-19) : Int32).toInt P111 := by rw [zt_m19]; exact hp112
                    refine ZV.imp (u_515 (b69 + 13) (zLw_of h71) (-19) hN hJ67.1 hp112c) ?_
                    rintro _ ⟨M109, rfl, hJ110, hq113⟩
                    replace hb : zHd _ := hb  (zi M109) (zi_fr hJ110.2) hq113
                    have hJ115 := zJ_trans hJ67 hJ110 (zSub_cons (fun _ _ h h' hk => ((zDm_or h71).elim (fun e => zIR_s (zIR_s (zIR_e (by omega) (by omega) hk))) (fun e => zIR_s (zIR_s (zIR_s (zIR_e (by omega) (by omega) hk)))))) (zSub_cons (fun _ _ h h' hk => ((zDm_or h71).elim (fun e => zIR_s (zIR_s (zIR_s (zIR_s (zIR_a (by omega) (by omega)))))) (fun e => zIR_s (zIR_s (zIR_s (zIR_s (zIR_s (zIR_a (by omega) (by omega))))))))) zSub_nil))
                    show ZW _ _ _ _ _ _ _ (200, [some (.ref 2), some (.int 7), some (.int v99_2), some (.int v99_3)], [], M109)
                    refine w_lo dX5_readPart_200 rfl rfl rfl rfl ?_
                    refine w_bi dX5_readPart_201 (c := 41) (by decide) ?_
                    refine w_iv dX5_readPart_203 rfl rfl (As := [.int 41]) rfl rfl hJ115.1.1 zs_2 (Nat.le_of_ble_eq_true rfl) ?_
                    obtain ⟨P118, hp119, hb⟩ := hb
                    replace hb : zHd _ := hb
                    have hp119c : b_1299 (zi M109) (41 : Int32).toInt P118 := by rw [zt_41]; exact hp119
                    refine ZV.imp (u_1299 41 (by have := zt_41; omega) (by have := zt_41; omega) hN hJ115.1 hp119c) ?_
                    rintro _ ⟨x121, M116, rfl, h122, h123, hJ117, hq120⟩
                    replace hb : zHd _ := hb x121.toInt h122 h123 (zi M116) (zi_fr hJ117.2) hq120
                    have hJ125 := zJ_trans hJ115 hJ117 zSub_nil
                    show ZW _ _ _ _ _ _ _ (206, [some (.ref 2), some (.int 7), some (.int v99_2), some (.int v99_3)], [.int x121], M116)
                    rcases Int.decEq x121.toInt (0 : Int) with h126 | h126
                    · skip
                      replace hb : zHd _ := hb.1 h126
                      refine w_ine_t dX5_readPart_206 (t := 215) rfl (by omega) ?_
                      refine w_lo dX5_readPart_215 rfl rfl rfl rfl ?_
                      refine w_iv dX5_readPart_216 rfl rfl (As := []) rfl rfl hJ125.1.1 zs_2 (Nat.le_of_ble_eq_true rfl) ?_
                      obtain ⟨P129, hp130, hb⟩ := hb
                      replace hb : zHd _ := hb
                      refine ZV.imp (u_1289 hN hJ125.1 hp130) ?_
                      rintro _ ⟨M127, rfl, hJ128, hq131⟩
                      replace hb : zHd _ := hb  (zi M127) (zi_fr hJ128.2) hq131
                      have hJ133 := zJ_trans hJ125 hJ128 (zSub_cons (fun _ _ h h' hk => zIR_s (zIR_s (zIR_s (zIR_s (zIR_s (zIR_s (zIR_e (by omega) (by omega) hk))))))) zSub_nil)
                      show ZW _ _ _ _ _ _ _ (219, [some (.ref 2), some (.int 7), some (.int v99_2), some (.int v99_3)], [], M127)
                      refine w_ic dX5_readPart_219 zi_1 ?_
                      refine w_en dX5_readPart_220 rfl ?_
                      exact ⟨_, _, rfl, (by have := zt_1; omega), (by have := zt_1; omega), hJ133, hb⟩
                    · skip
                      replace hb : zHd _ := hb.2 h126
                      refine w_ine_f dX5_readPart_206 (t := 215) rfl (by omega) ?_
                      refine w_lo dX5_readPart_209 rfl rfl rfl rfl ?_
                      refine w_ic dX5_readPart_210 zi_1 ?_
                      refine w_iv dX5_readPart_211 rfl rfl (As := [.int 1]) rfl rfl hJ125.1.1 zs_2 (Nat.le_of_ble_eq_true rfl) ?_
                      obtain ⟨P136, hp137, hb⟩ := hb
                      replace hb : zHd _ := hb
                      have hp137c : b_1286 (zi M116) (1 : Int32).toInt P136 := by rw [zt_1]; exact hp137
                      refine ZV.imp (u_1286 1 (by have := zt_1; omega) (by have := zt_1; omega) hN hJ125.1 hp137c) ?_
                      rintro _ ⟨x139, M134, rfl, h140, h141, hJ135, hq138⟩
                      replace hb : zHd _ := hb x139.toInt h140 h141 (zi M134) (zi_fr hJ135.2) hq138
                      have hJ143 := zJ_trans hJ125 hJ135 (zSub_cons (fun _ _ h h' hk => zIR_e (by omega) (by omega) hk) (zSub_cons (fun _ _ h h' hk => zIR_s (zIR_e (by omega) (by omega) hk)) zSub_nil))
                      show ZW _ _ _ _ _ _ _ (214, [some (.ref 2), some (.int 7), some (.int v99_2), some (.int v99_3)], [.int x139], M134)
                      refine w_eni dX5_readPart_214 rfl (znb (by omega) (by omega)) ?_
                      exact ⟨_, _, rfl, (by omega), (by omega), hJ143, hb⟩
                · skip
                  replace hb : zHd _ := hb.2 h68
                  refine w_ine_f dX5_readPart_172 (t := 177) rfl (by omega) ?_
                  refine w_ic dX5_readPart_175 zi_0 ?_
                  refine w_en dX5_readPart_176 rfl ?_
                  exact ⟨_, _, rfl, (by have := zt_0; omega), (by have := zt_0; omega), hJ67, hb⟩
              · skip
                replace hb : zHd _ := hb.2 h50
                refine w_ine_f dX5_readPart_152 (t := 161) rfl (by omega) ?_
                refine w_lo dX5_readPart_155 rfl rfl rfl rfl ?_
                refine w_ic dX5_readPart_156 zi_1 ?_
                refine w_iv dX5_readPart_157 rfl rfl (As := [.int 1]) rfl rfl hJ49.1.1 zs_2 (Nat.le_of_ble_eq_true rfl) ?_
                obtain ⟨P146, hp147, hb⟩ := hb
                replace hb : zHd _ := hb
                have hp147c : b_1286 (zi M40) (1 : Int32).toInt P146 := by rw [zt_1]; exact hp147
                refine ZV.imp (u_1286 1 (by have := zt_1; omega) (by have := zt_1; omega) hN hJ49.1 hp147c) ?_
                rintro _ ⟨x149, M144, rfl, h150, h151, hJ145, hq148⟩
                replace hb : zHd _ := hb x149.toInt h150 h151 (zi M144) (zi_fr hJ145.2) hq148
                have hJ153 := zJ_trans hJ49 hJ145 (zSub_cons (fun _ _ h h' hk => zIR_e (by omega) (by omega) hk) (zSub_cons (fun _ _ h h' hk => zIR_s (zIR_e (by omega) (by omega) hk)) zSub_nil))
                show ZW _ _ _ _ _ _ _ (160, [some (.ref 2), some (.int 7), some (.int v99_2), some (.int v99_3)], [.int x149], M144)
                refine w_eni dX5_readPart_160 rfl (znb (by omega) (by omega)) ?_
                exact ⟨_, _, rfl, (by omega), (by omega), hJ153, hb⟩
            · skip
              replace hb : zHd _ := hb.2 h39
              refine w_ieq_t dX5_readPart_143 (t := 200) rfl (by omega) ?_
              refine w_lo dX5_readPart_200 rfl rfl rfl rfl ?_
              refine w_bi dX5_readPart_201 (c := 41) (by decide) ?_
              refine w_iv dX5_readPart_203 rfl rfl (As := [.int 41]) rfl rfl hJ37.1.1 zs_2 (Nat.le_of_ble_eq_true rfl) ?_
              obtain ⟨P156, hp157, hb⟩ := hb
              replace hb : zHd _ := hb
              have hp157c : b_1299 (zi M28) (41 : Int32).toInt P156 := by rw [zt_41]; exact hp157
              refine ZV.imp (u_1299 41 (by have := zt_41; omega) (by have := zt_41; omega) hN hJ37.1 hp157c) ?_
              rintro _ ⟨x159, M154, rfl, h160, h161, hJ155, hq158⟩
              replace hb : zHd _ := hb x159.toInt h160 h161 (zi M154) (zi_fr hJ155.2) hq158
              have hJ163 := zJ_trans hJ37 hJ155 zSub_nil
              show ZW _ _ _ _ _ _ _ (206, [some (.ref 2), some (.int 7), some (.int v99_2), some (.int v99_3)], [.int x159], M154)
              rcases Int.decEq x159.toInt (0 : Int) with h164 | h164
              · skip
                replace hb : zHd _ := hb.1 h164
                refine w_ine_t dX5_readPart_206 (t := 215) rfl (by omega) ?_
                refine w_lo dX5_readPart_215 rfl rfl rfl rfl ?_
                refine w_iv dX5_readPart_216 rfl rfl (As := []) rfl rfl hJ163.1.1 zs_2 (Nat.le_of_ble_eq_true rfl) ?_
                obtain ⟨P167, hp168, hb⟩ := hb
                replace hb : zHd _ := hb
                refine ZV.imp (u_1289 hN hJ163.1 hp168) ?_
                rintro _ ⟨M165, rfl, hJ166, hq169⟩
                replace hb : zHd _ := hb  (zi M165) (zi_fr hJ166.2) hq169
                have hJ171 := zJ_trans hJ163 hJ166 (zSub_cons (fun _ _ h h' hk => zIR_s (zIR_s (zIR_s (zIR_s (zIR_s (zIR_s (zIR_e (by omega) (by omega) hk))))))) zSub_nil)
                show ZW _ _ _ _ _ _ _ (219, [some (.ref 2), some (.int 7), some (.int v99_2), some (.int v99_3)], [], M165)
                refine w_ic dX5_readPart_219 zi_1 ?_
                refine w_en dX5_readPart_220 rfl ?_
                exact ⟨_, _, rfl, (by have := zt_1; omega), (by have := zt_1; omega), hJ171, hb⟩
              · skip
                replace hb : zHd _ := hb.2 h164
                refine w_ine_f dX5_readPart_206 (t := 215) rfl (by omega) ?_
                refine w_lo dX5_readPart_209 rfl rfl rfl rfl ?_
                refine w_ic dX5_readPart_210 zi_1 ?_
                refine w_iv dX5_readPart_211 rfl rfl (As := [.int 1]) rfl rfl hJ163.1.1 zs_2 (Nat.le_of_ble_eq_true rfl) ?_
                obtain ⟨P174, hp175, hb⟩ := hb
                replace hb : zHd _ := hb
                have hp175c : b_1286 (zi M154) (1 : Int32).toInt P174 := by rw [zt_1]; exact hp175
                refine ZV.imp (u_1286 1 (by have := zt_1; omega) (by have := zt_1; omega) hN hJ163.1 hp175c) ?_
                rintro _ ⟨x177, M172, rfl, h178, h179, hJ173, hq176⟩
                replace hb : zHd _ := hb x177.toInt h178 h179 (zi M172) (zi_fr hJ173.2) hq176
                have hJ181 := zJ_trans hJ163 hJ173 (zSub_cons (fun _ _ h h' hk => zIR_e (by omega) (by omega) hk) (zSub_cons (fun _ _ h h' hk => zIR_s (zIR_e (by omega) (by omega) hk)) zSub_nil))
                show ZW _ _ _ _ _ _ _ (214, [some (.ref 2), some (.int 7), some (.int v99_2), some (.int v99_3)], [.int x177], M172)
                refine w_eni dX5_readPart_214 rfl (znb (by omega) (by omega)) ?_
                exact ⟨_, _, rfl, (by omega), (by omega), hJ181, hb⟩
          · skip
            replace hb : zHd _ := hb.2 h38
            refine w_ine_f dX5_readPart_137 (t := 142) rfl (by omega) ?_
            refine w_ic dX5_readPart_140 zi_0 ?_
            refine w_en dX5_readPart_141 rfl ?_
            exact ⟨_, _, rfl, (by have := zt_0; omega), (by have := zt_0; omega), hJ37, hb⟩
        · skip
          replace hb : zHd _ := hb.2 h20
          refine w_ine_f dX5_readPart_105 (t := 114) rfl (by omega) ?_
          refine w_lo dX5_readPart_108 rfl rfl rfl rfl ?_
          refine w_ic dX5_readPart_109 zi_1 ?_
          refine w_iv dX5_readPart_110 rfl rfl (As := [.int 1]) rfl rfl hJ19.1.1 zs_2 (Nat.le_of_ble_eq_true rfl) ?_
          obtain ⟨P184, hp185, hb⟩ := hb
          replace hb : zHd _ := hb
          have hp185c : b_1286 (zi M10) (1 : Int32).toInt P184 := by rw [zt_1]; exact hp185
          refine ZV.imp (u_1286 1 (by have := zt_1; omega) (by have := zt_1; omega) hN hJ19.1 hp185c) ?_
          rintro _ ⟨x187, M182, rfl, h188, h189, hJ183, hq186⟩
          replace hb : zHd _ := hb x187.toInt h188 h189 (zi M182) (zi_fr hJ183.2) hq186
          have hJ191 := zJ_trans hJ19 hJ183 (zSub_cons (fun _ _ h h' hk => zIR_e (by omega) (by omega) hk) (zSub_cons (fun _ _ h h' hk => zIR_s (zIR_e (by omega) (by omega) hk)) zSub_nil))
          show ZW _ _ _ _ _ _ _ (113, [some (.ref 2), some (.int 7), some (.int v99_2), some (.int v99_3)], [.int x187], M182)
          refine w_eni dX5_readPart_113 rfl (znb (by omega) (by omega)) ?_
          exact ⟨_, _, rfl, (by omega), (by omega), hJ191, hb⟩
  have hb : zHd _ := hbE
  show ZW _ _ _ _ _ _ _ (0, [some (.ref 2), some (.int 7), none, none], [], M0)
  refine w_lo dX5_readPart_0 rfl rfl rfl rfl ?_
  refine w_gf dX5_readPart_1 rfl hJ0.1.1 zs_2 (zr_2_3 hJ0.1) ?_
  refine w_lo dX5_readPart_4 rfl rfl rfl rfl ?_
  refine w_gfi dX5_readPart_5 rfl hJ0.1 zs_2 (Nat.le_of_ble_eq_true rfl) zo_2_7 ?_
  intro x192 f193 h194 h195
  replace hb : zHd _ := hb x192.toInt (ziE f193) h194 h195
  refine w_iai dX5_readPart_8 hJ0.1 zs_4 (by omega) (by omega) zu_4 ?_
  intro x199 f196 h197 h198
  replace hb : zHd _ := hb x199.toInt (ziEk f196 rfl) h197 h198
  refine w_ic dX5_readPart_9 zi_4 ?_
  rcases Int.decEq x199.toInt (4 : Int) with h200 | h200
  · skip
    replace hb : zHd _ := hb.1 h200
    refine w_cne_t dX5_readPart_10 (t := 38) rfl (by have := zt_4; omega) ?_
    refine w_lo dX5_readPart_38 rfl rfl rfl rfl ?_
    refine w_iv dX5_readPart_39 rfl rfl (As := []) rfl rfl hJ0.1.1 zs_2 (Nat.le_of_ble_eq_true rfl) ?_
    obtain ⟨P203, hp204, hb⟩ := hb
    replace hb : zHd _ := hb
    refine ZV.imp (u_1287 hN hJ0.1 hp204) ?_
    rintro _ ⟨x206, M201, rfl, h207, h208, hJ202, hq205⟩
    replace hb : zHd _ := hb x206.toInt h207 h208 (zi M201) (zi_fr hJ202.2) hq205
    have hJ210 := zJ_trans hJ0 hJ202 zSub_nil
    show ZW _ _ _ _ _ _ _ (42, [some (.ref 2), some (.int 7), none, none], [.int x206], M201)
    refine w_lo (ml' := [some (.ref 2), some (.int 7), some (.int x206), none]) dX5_readPart_42 rfl rfl rfl rfl ?_
    refine w_lo dX5_readPart_43 rfl rfl rfl rfl ?_
    refine w_ic dX5_readPart_44 zi_m1 ?_
    rcases Int.decEq x206.toInt (-1 : Int) with h211 | h211
    · skip
      replace hb : zHd _ := hb.1 h211
      refine w_ceq_f dX5_readPart_45 (t := 73) rfl (by have := zt_m1; omega) ?_
      refine w_lo dX5_readPart_48 rfl rfl rfl rfl ?_
      refine w_bi dX5_readPart_49 (c := 7) (by decide) ?_
      rcases zcut x206.toInt (7 : Int) with h212 | h212
      · skip
        replace hb : zHd _ := hb.1 h212
        refine w_cge_f dX5_readPart_51 (t := 73) rfl (by have := zt_7; omega) ?_
        refine w_lo dX5_readPart_54 rfl rfl rfl rfl ?_
        obtain ⟨b213, f214, h215⟩ := zd_2_8 hJ210.1
        have h216 := zDm_b h215
        refine w_gf dX5_readPart_55 rfl hJ210.1.1 zs_2 f214 ?_
        replace hb : zHd _ := hb b213 (ziR f214) (zDm_or h215)
        refine w_gf dX5_readPart_58 rfl hJ210.1.1 (zs_1_0 h215) (zr_1_0_15 h215 hJ210.1) ?_
        refine w_ic dX5_readPart_61 zi_m1 ?_
        refine w_lo dX5_readPart_62 rfl rfl rfl rfl ?_
        refine w_sub dX5_readPart_63 (by have := zt_m1; omega) ?_
        intro x217 h218
        have := zt_m1
        replace hb : zHd _ := hb x217.toInt (by have := zt_m1; omega)
        refine w_iv dX5_readPart_64 rfl rfl (As := [.int x217]) rfl rfl hJ210.1.1 (zs_1_13 h215) (Nat.le_of_ble_eq_true rfl) ?_
        obtain ⟨P221, hp222, hb⟩ := hb
        replace hb : zHd _ := hb
        refine ZV.imp (u_515 (b213 + 13) (zLw_of h215) x217 hN hJ210.1 hp222) ?_
        rintro _ ⟨M219, rfl, hJ220, hq223⟩
        replace hb : zHd _ := hb  (zi M219) (zi_fr hJ220.2) hq223
        have hJ225 := zJ_trans hJ210 hJ220 (zSub_cons (fun _ _ h h' hk => ((zDm_or h215).elim (fun e => zIR_s (zIR_s (zIR_e (by omega) (by omega) hk))) (fun e => zIR_s (zIR_s (zIR_s (zIR_e (by omega) (by omega) hk)))))) (zSub_cons (fun _ _ h h' hk => ((zDm_or h215).elim (fun e => zIR_s (zIR_s (zIR_s (zIR_s (zIR_a (by omega) (by omega)))))) (fun e => zIR_s (zIR_s (zIR_s (zIR_s (zIR_s (zIR_a (by omega) (by omega))))))))) zSub_nil))
        show ZW _ _ _ _ _ _ _ (67, [some (.ref 2), some (.int 7), some (.int x206), none], [], M219)
        refine w_lo dX5_readPart_67 rfl rfl rfl rfl ?_
        refine w_iv dX5_readPart_68 rfl rfl (As := []) rfl rfl hJ225.1.1 zs_2 (Nat.le_of_ble_eq_true rfl) ?_
        obtain ⟨P228, hp229, hb⟩ := hb
        replace hb : zHd _ := hb
        refine ZV.imp (u_1289 hN hJ225.1 hp229) ?_
        rintro _ ⟨M226, rfl, hJ227, hq230⟩
        replace hb : zHd _ := hb  (zi M226) (zi_fr hJ227.2) hq230
        have hJ232 := zJ_trans hJ225 hJ227 (zSub_cons (fun _ _ h h' hk => zIR_s (zIR_s (zIR_s (zIR_s (zIR_s (zIR_s (zIR_e (by omega) (by omega) hk))))))) zSub_nil)
        show ZW _ _ _ _ _ _ _ (71, [some (.ref 2), some (.int 7), some (.int x206), none], [], M226)
        refine w_ic dX5_readPart_71 zi_1 ?_
        refine w_en dX5_readPart_72 rfl ?_
        exact ⟨_, _, rfl, (by have := zt_1; omega), (by have := zt_1; omega), hJ232, hb⟩
      · skip
        replace hb : zHd _ := hb.2 h212
        refine w_cge_t dX5_readPart_51 (t := 73) rfl (by have := zt_7; omega) ?_
        obtain ⟨m, hI⟩ := hb
        exact (main m).1 M201 x206 none hJ210 (by omega) (by omega) hI
    · skip
      replace hb : zHd _ := hb.2 h211
      refine w_ceq_t dX5_readPart_45 (t := 73) rfl (by have := zt_m1; omega) ?_
      obtain ⟨m, hI⟩ := hb
      exact (main m).1 M201 x206 none hJ210 (by omega) (by omega) hI
  · skip
    replace hb : zHd _ := hb.2 h200
    refine w_cne_f dX5_readPart_10 (t := 38) rfl (by have := zt_4; omega) ?_
    refine w_lo dX5_readPart_13 rfl rfl rfl rfl ?_
    obtain ⟨b233, f234, h235⟩ := zd_2_8 hJ0.1
    have h236 := zDm_b h235
    refine w_gf dX5_readPart_14 rfl hJ0.1.1 zs_2 f234 ?_
    replace hb : zHd _ := hb b233 (ziR f234) (zDm_or h235)
    refine w_gf dX5_readPart_17 rfl hJ0.1.1 (zs_1_0 h235) (zr_1_0_15 h235 hJ0.1) ?_
    refine w_lo dX5_readPart_20 rfl rfl rfl rfl ?_
    refine w_gf dX5_readPart_21 rfl hJ0.1.1 zs_2 (zr_2_4 hJ0.1) ?_
    refine w_lo dX5_readPart_24 rfl rfl rfl rfl ?_
    refine w_gf dX5_readPart_25 rfl hJ0.1.1 zs_2 f193 ?_
    refine w_iai dX5_readPart_28 hJ0.1 zs_5 (by omega) (by omega) zu_5 ?_
    intro x240 f237 h238 h239
    replace hb : zHd _ := hb x240.toInt (ziEk f237 rfl)
    refine w_iv dX5_readPart_29 rfl rfl (As := [.int x240]) rfl rfl hJ0.1.1 (zs_1_13 h235) (Nat.le_of_ble_eq_true rfl) ?_
    obtain ⟨P243, hp244, hb⟩ := hb
    replace hb : zHd _ := hb
    refine ZV.imp (u_515 (b233 + 13) (zLw_of h235) x240 hN hJ0.1 hp244) ?_
    rintro _ ⟨M241, rfl, hJ242, hq245⟩
    replace hb : zHd _ := hb  (zi M241) (zi_fr hJ242.2) hq245
    have hJ247 := zJ_trans hJ0 hJ242 (zSub_cons (fun _ _ h h' hk => ((zDm_or h235).elim (fun e => zIR_s (zIR_s (zIR_e (by omega) (by omega) hk))) (fun e => zIR_s (zIR_s (zIR_s (zIR_e (by omega) (by omega) hk)))))) (zSub_cons (fun _ _ h h' hk => ((zDm_or h235).elim (fun e => zIR_s (zIR_s (zIR_s (zIR_s (zIR_a (by omega) (by omega)))))) (fun e => zIR_s (zIR_s (zIR_s (zIR_s (zIR_s (zIR_a (by omega) (by omega))))))))) zSub_nil))
    show ZW _ _ _ _ _ _ _ (32, [some (.ref 2), some (.int 7), none, none], [], M241)
    refine w_lo dX5_readPart_32 rfl rfl rfl rfl ?_
    refine w_iv dX5_readPart_33 rfl rfl (As := []) rfl rfl hJ247.1.1 zs_2 (Nat.le_of_ble_eq_true rfl) ?_
    obtain ⟨P250, hp251, hb⟩ := hb
    replace hb : zHd _ := hb
    refine ZV.imp (u_1289 hN hJ247.1 hp251) ?_
    rintro _ ⟨M248, rfl, hJ249, hq252⟩
    replace hb : zHd _ := hb  (zi M248) (zi_fr hJ249.2) hq252
    have hJ254 := zJ_trans hJ247 hJ249 (zSub_cons (fun _ _ h h' hk => zIR_s (zIR_s (zIR_s (zIR_s (zIR_s (zIR_s (zIR_e (by omega) (by omega) hk))))))) zSub_nil)
    show ZW _ _ _ _ _ _ _ (36, [some (.ref 2), some (.int 7), none, none], [], M248)
    refine w_ic dX5_readPart_36 zi_1 ?_
    refine w_en dX5_readPart_37 rfl ?_
    exact ⟨_, _, rfl, (by have := zt_1; omega), (by have := zt_1; omega), hJ254, hb⟩
set_option maxRecDepth 100000 in
theorem u_1297_c7 {X : List Int32} {d N : Nat} {M0 : zM}  (hN : N ≤ 600) (hB0 : zB N M0) {Q : Int → zF → Prop} (hb : b_1297_c7 (zi M0) Q) : ZV X (d + 5) 1297 [.ref 2, .int 7] M0 (zRI N [(2, 3, 0), (2, 3, 1), (20, 21, 1), (41, 42, 1), (21, 22, 1000), (42, 43, 1000), (2, 3, 7)] M0 (0) (1) (fun v M' => Q v.toInt (zi M'))) := by
  have hJ0 : zJ N [(2, 3, 0), (2, 3, 1), (20, 21, 1), (41, 42, 1), (21, 22, 1000), (42, 43, 1000), (2, 3, 7)] M0 M0 := zJ_refl hB0
  refine ZV.of (ini := false) rfl (Nat.le_of_ble_eq_true rfl) (by decide +kernel) ?_
  obtain ⟨I4, I17, I52, I95, I115, I130, hbE, hb4, hb17, hb52, hb95, hb115, hb130⟩ := hb
  replace hbE : zHd _ := hbE
  replace hb4 : zHd _ := hb4
  replace hb17 : zHd _ := hb17
  replace hb52 : zHd _ := hb52
  replace hb95 : zHd _ := hb95
  replace hb115 : zHd _ := hb115
  replace hb130 : zHd _ := hb130
  have main : ∀ n : Nat,
      (∀ (M : zM) (v4_2 : Int32) (v4_3 : Int32) (o4_4 : Option Value) (o4_5 : Option Value), zJ N [(2, 3, 0), (2, 3, 1), (20, 21, 1), (41, 42, 1), (21, 22, 1000), (42, 43, 1000), (2, 3, 7)] M0 M → ((-13 : Int) ≤ v4_2.toInt) → (v4_2.toInt ≤ 0) → ((0 : Int) ≤ v4_3.toInt) → (v4_3.toInt ≤ 1601) → I4 n (zi M) v4_2.toInt v4_3.toInt → ZW X (d + 4) 5 false (some .boolean) cX5_readSum (zRI N [(2, 3, 0), (2, 3, 1), (20, 21, 1), (41, 42, 1), (21, 22, 1000), (42, 43, 1000), (2, 3, 7)] M0 (0) (1) (fun v M' => Q v.toInt (zi M'))) (4, [some (.ref 2), some (.int 7), some (.int v4_2), some (.int v4_3), o4_4, o4_5], [], M)) ∧
      (∀ (M : zM) (v17_2 : Int32) (v17_3 : Int32) (v17_4 : Int32) (v17_5 : Int32), zJ N [(2, 3, 0), (2, 3, 1), (20, 21, 1), (41, 42, 1), (21, 22, 1000), (42, 43, 1000), (2, 3, 7)] M0 M → ((-2147483648 : Int) ≤ v17_2.toInt) → (v17_2.toInt ≤ 0) → ((0 : Int) ≤ v17_3.toInt) → (v17_3.toInt ≤ 1600) → ((-11 : Int) ≤ v17_4.toInt) → (v17_4.toInt ≤ 0) → ((0 : Int) ≤ v17_5.toInt) → (v17_5.toInt ≤ 1601) → I17 n (zi M) v17_2.toInt v17_3.toInt v17_4.toInt v17_5.toInt → ZW X (d + 4) 5 false (some .boolean) cX5_readSum (zRI N [(2, 3, 0), (2, 3, 1), (20, 21, 1), (41, 42, 1), (21, 22, 1000), (42, 43, 1000), (2, 3, 7)] M0 (0) (1) (fun v M' => Q v.toInt (zi M'))) (17, [some (.ref 2), some (.int 7), some (.int v17_2), some (.int v17_3), some (.int v17_4), some (.int v17_5)], [], M)) ∧
      (∀ (M : zM) (v52_2 : Int32) (v52_3 : Int32) (u52_4 : Int32) (v52_5 : Int32), zJ N [(2, 3, 0), (2, 3, 1), (20, 21, 1), (41, 42, 1), (21, 22, 1000), (42, 43, 1000), (2, 3, 7)] M0 M → ((-2147483648 : Int) ≤ v52_2.toInt) → (v52_2.toInt ≤ 0) → ((0 : Int) ≤ v52_3.toInt) → (v52_3.toInt ≤ 1600) → ((0 : Int) ≤ v52_5.toInt) → (v52_5.toInt ≤ 1600) → I52 n (zi M) v52_2.toInt v52_3.toInt v52_5.toInt → ZW X (d + 4) 5 false (some .boolean) cX5_readSum (zRI N [(2, 3, 0), (2, 3, 1), (20, 21, 1), (41, 42, 1), (21, 22, 1000), (42, 43, 1000), (2, 3, 7)] M0 (0) (1) (fun v M' => Q v.toInt (zi M'))) (52, [some (.ref 2), some (.int 7), some (.int v52_2), some (.int v52_3), some (.int u52_4), some (.int v52_5)], [], M)) ∧
      (∀ (M : zM) (v95_2 : Int32) (v95_3 : Int32) (u95_4 : Int32) (v95_5 : Int32) (s95_0 : Int32), zJ N [(2, 3, 0), (2, 3, 1), (20, 21, 1), (41, 42, 1), (21, 22, 1000), (42, 43, 1000), (2, 3, 7)] M0 M → ((-2147483648 : Int) ≤ v95_2.toInt) → (v95_2.toInt ≤ 0) → ((0 : Int) ≤ v95_3.toInt) → (v95_3.toInt ≤ 1600) → ((0 : Int) ≤ v95_5.toInt) → (v95_5.toInt ≤ 1600) → ((-11 : Int) ≤ s95_0.toInt) → (s95_0.toInt ≤ 0) → I95 n (zi M) v95_2.toInt v95_3.toInt v95_5.toInt s95_0.toInt → ZW X (d + 4) 5 false (some .boolean) cX5_readSum (zRI N [(2, 3, 0), (2, 3, 1), (20, 21, 1), (41, 42, 1), (21, 22, 1000), (42, 43, 1000), (2, 3, 7)] M0 (0) (1) (fun v M' => Q v.toInt (zi M'))) (95, [some (.ref 2), some (.int 7), some (.int v95_2), some (.int v95_3), some (.int u95_4), some (.int v95_5)], [.int s95_0], M)) ∧
      (∀ (M : zM) (v115_2 : Int32) (v115_3 : Int32) (u115_4 : Int32) (u115_5 : Int32), zJ N [(2, 3, 0), (2, 3, 1), (20, 21, 1), (41, 42, 1), (21, 22, 1000), (42, 43, 1000), (2, 3, 7)] M0 M → ((-2147483648 : Int) ≤ v115_2.toInt) → (v115_2.toInt ≤ 0) → ((0 : Int) ≤ v115_3.toInt) → (v115_3.toInt ≤ 1600) → I115 n (zi M) v115_2.toInt v115_3.toInt → ZW X (d + 4) 5 false (some .boolean) cX5_readSum (zRI N [(2, 3, 0), (2, 3, 1), (20, 21, 1), (41, 42, 1), (21, 22, 1000), (42, 43, 1000), (2, 3, 7)] M0 (0) (1) (fun v M' => Q v.toInt (zi M'))) (115, [some (.ref 2), some (.int 7), some (.int v115_2), some (.int v115_3), some (.int u115_4), some (.int u115_5)], [], M)) ∧
      (∀ (M : zM) (u130_2 : Int32) (v130_3 : Int32) (u130_4 : Int32) (u130_5 : Int32), zJ N [(2, 3, 0), (2, 3, 1), (20, 21, 1), (41, 42, 1), (21, 22, 1000), (42, 43, 1000), (2, 3, 7)] M0 M → ((0 : Int) ≤ v130_3.toInt) → (v130_3.toInt ≤ 1600) → I130 n (zi M) v130_3.toInt → ZW X (d + 4) 5 false (some .boolean) cX5_readSum (zRI N [(2, 3, 0), (2, 3, 1), (20, 21, 1), (41, 42, 1), (21, 22, 1000), (42, 43, 1000), (2, 3, 7)] M0 (0) (1) (fun v M' => Q v.toInt (zi M'))) (130, [some (.ref 2), some (.int 7), some (.int u130_2), some (.int v130_3), some (.int u130_4), some (.int u130_5)], [], M)) := by
    intro n
    induction n using Nat.strongRecOn with
    | _ n ih =>
      refine ⟨?_, ?_, ?_, ?_, ?_, ?_⟩
      · intro M v4_2 v4_3 o4_4 o4_5 hJ v4_20 v4_21 v4_30 v4_31 hI
        have hb : zHd _ := hb4 n (zi M) v4_2.toInt v4_3.toInt (zi_fr hJ.2) v4_20 v4_21 v4_30 v4_31 hI
        refine w_lo dX5_readSum_4 rfl rfl rfl rfl ?_
        refine w_si dX5_readSum_5 (c := 1600) (by decide) ?_
        rcases zcut (1600 : Int) v4_3.toInt with h1 | h1
        · skip
          replace hb : zHd _ := hb.1 h1
          refine w_cgt_t dX5_readSum_8 (t := 177) rfl (by have := zt_1600; omega) ?_
          refine w_ic dX5_readSum_177 zi_1 ?_
          refine w_en dX5_readSum_178 rfl ?_
          exact ⟨_, _, rfl, (by have := zt_1; omega), (by have := zt_1; omega), hJ, hb⟩
        · skip
          replace hb : zHd _ := hb.2 h1
          refine w_cgt_f dX5_readSum_8 (t := 177) rfl (by have := zt_1600; omega) ?_
          refine w_ic dX5_readSum_11 zi_0 ?_
          refine w_lo (ml' := [some (.ref 2), some (.int 7), some (.int v4_2), some (.int v4_3), some (.int 0), o4_5]) dX5_readSum_12 rfl rfl rfl rfl ?_
          refine w_ic dX5_readSum_14 zi_0 ?_
          refine w_lo (ml' := [some (.ref 2), some (.int 7), some (.int v4_2), some (.int v4_3), some (.int 0), some (.int 0)]) dX5_readSum_15 rfl rfl rfl rfl ?_
          obtain ⟨m, hm, hI⟩ := hb
          exact (ih m hm).2.1 M v4_2 v4_3 0 0 hJ (zbot _) (by omega) (by omega) (by omega) (by have := zt_0; omega) (by have := zt_0; omega) (by have := zt_0; omega) (by have := zt_0; omega) hI
      · intro M v17_2 v17_3 v17_4 v17_5 hJ v17_20 v17_21 v17_30 v17_31 v17_40 v17_41 v17_50 v17_51 hI
        have hb : zHd _ := hb17 n (zi M) v17_2.toInt v17_3.toInt v17_4.toInt v17_5.toInt (zi_fr hJ.2) v17_21 v17_30 v17_31 v17_40 v17_41 v17_50 v17_51 hI
        refine w_lo dX5_readSum_17 rfl rfl rfl rfl ?_
        refine w_si dX5_readSum_19 (c := 1600) (by decide) ?_
        rcases zcut (1600 : Int) v17_5.toInt with h2 | h2
        · skip
          replace hb : zHd _ := hb.1 h2
          refine w_cgt_t dX5_readSum_22 (t := 115) rfl (by have := zt_1600; omega) ?_
          obtain ⟨m, hm, hI⟩ := hb
          exact (ih m hm).2.2.2.2.1 M v17_2 v17_3 v17_4 v17_5 hJ (zbot _) (by omega) (by omega) (by omega) hI
        · skip
          replace hb : zHd _ := hb.2 h2
          refine w_cgt_f dX5_readSum_22 (t := 115) rfl (by have := zt_1600; omega) ?_
          refine w_lo dX5_readSum_25 rfl rfl rfl rfl ?_
          refine w_lo dX5_readSum_26 rfl rfl rfl rfl ?_
          refine w_iv dX5_readSum_27 rfl rfl (As := [.int 7]) rfl rfl hJ.1.1 zs_2 (Nat.le_of_ble_eq_true rfl) ?_
          obtain ⟨P5, hp6, hb⟩ := hb
          replace hb : zHd _ := hb
          refine ZV.imp (u_1298_c7 hN hJ.1 hp6) ?_
          rintro _ ⟨x8, M3, rfl, h9, h10, hJ4, hq7⟩
          replace hb : zHd _ := hb x8.toInt h9 h10 (zi M3) (zi_fr hJ4.2) hq7
          have hJ12 := zJ_trans hJ hJ4 (zSub_cons (fun _ _ h h' hk => zIR_e (by omega) (by omega) hk) (zSub_cons (fun _ _ h h' hk => zIR_s (zIR_e (by omega) (by omega) hk)) (zSub_cons (fun _ _ h h' hk => zIR_s (zIR_s (zIR_e (by omega) (by omega) hk))) (zSub_cons (fun _ _ h h' hk => zIR_s (zIR_s (zIR_s (zIR_e (by omega) (by omega) hk)))) (zSub_cons (fun _ _ h h' hk => zIR_s (zIR_s (zIR_s (zIR_s (zIR_a (by omega) (by omega)))))) (zSub_cons (fun _ _ h h' hk => zIR_s (zIR_s (zIR_s (zIR_s (zIR_s (zIR_a (by omega) (by omega))))))) (zSub_cons (fun _ _ h h' hk => zIR_s (zIR_s (zIR_s (zIR_s (zIR_s (zIR_s (zIR_e (by omega) (by omega) hk))))))) zSub_nil)))))))
          show ZW _ _ _ _ _ _ _ (30, [some (.ref 2), some (.int 7), some (.int v17_2), some (.int v17_3), some (.int v17_4), some (.int v17_5)], [.int x8], M3)
          rcases Int.decEq x8.toInt (0 : Int) with h13 | h13
          · skip
            replace hb : zHd _ := hb.1 h13
            refine w_ine_t dX5_readSum_30 (t := 35) rfl (by omega) ?_
            refine w_lo dX5_readSum_35 rfl rfl rfl rfl ?_
            rcases Int.decEq v17_4.toInt (0 : Int) with h14 | h14
            · skip
              replace hb : zHd _ := hb.1 h14
              refine w_ieq_f dX5_readSum_37 (t := 52) rfl (by omega) ?_
              refine w_lo dX5_readSum_40 rfl rfl rfl rfl ?_
              obtain ⟨b15, f16, h17⟩ := zd_2_8 hJ12.1
              have h18 := zDm_b h17
              refine w_gf dX5_readSum_41 rfl hJ12.1.1 zs_2 f16 ?_
              replace hb : zHd _ := hb b15 (ziR f16) (zDm_or h17)
              refine w_gf dX5_readSum_44 rfl hJ12.1.1 (zs_1_0 h17) (zr_1_0_15 h17 hJ12.1) ?_
              refine w_lo dX5_readSum_47 rfl rfl rfl rfl ?_
              refine w_iv dX5_readSum_49 rfl rfl (As := [.int v17_4]) rfl rfl hJ12.1.1 (zs_1_13 h17) (Nat.le_of_ble_eq_true rfl) ?_
              obtain ⟨P21, hp22, hb⟩ := hb
              replace hb : zHd _ := hb
              refine ZV.imp (u_515 (b15 + 13) (zLw_of h17) v17_4 hN hJ12.1 hp22) ?_
              rintro _ ⟨M19, rfl, hJ20, hq23⟩
              replace hb : zHd _ := hb  (zi M19) (zi_fr hJ20.2) hq23
              have hJ25 := zJ_trans hJ12 hJ20 (zSub_cons (fun _ _ h h' hk => ((zDm_or h17).elim (fun e => zIR_s (zIR_s (zIR_e (by omega) (by omega) hk))) (fun e => zIR_s (zIR_s (zIR_s (zIR_e (by omega) (by omega) hk)))))) (zSub_cons (fun _ _ h h' hk => ((zDm_or h17).elim (fun e => zIR_s (zIR_s (zIR_s (zIR_s (zIR_a (by omega) (by omega)))))) (fun e => zIR_s (zIR_s (zIR_s (zIR_s (zIR_s (zIR_a (by omega) (by omega))))))))) zSub_nil))
              show ZW _ _ _ _ _ _ _ (52, [some (.ref 2), some (.int 7), some (.int v17_2), some (.int v17_3), some (.int v17_4), some (.int v17_5)], [], M19)
              obtain ⟨m, hm, hI⟩ := hb
              exact (ih m hm).2.2.1 M19 v17_2 v17_3 v17_4 v17_5 hJ25 (zbot _) (by omega) (by omega) (by omega) (by omega) (by omega) hI
            · skip
              replace hb : zHd _ := hb.2 h14
              refine w_ieq_t dX5_readSum_37 (t := 52) rfl (by omega) ?_
              obtain ⟨m, hm, hI⟩ := hb
              exact (ih m hm).2.2.1 M3 v17_2 v17_3 v17_4 v17_5 hJ12 (zbot _) (by omega) (by omega) (by omega) (by omega) (by omega) hI
          · skip
            replace hb : zHd _ := hb.2 h13
            refine w_ine_f dX5_readSum_30 (t := 35) rfl (by omega) ?_
            refine w_ic dX5_readSum_33 zi_0 ?_
            refine w_en dX5_readSum_34 rfl ?_
            exact ⟨_, _, rfl, (by have := zt_0; omega), (by have := zt_0; omega), hJ12, hb⟩
      · intro M v52_2 v52_3 u52_4 v52_5 hJ v52_20 v52_21 v52_30 v52_31 v52_50 v52_51 hI
        have hb : zHd _ := hb52 n (zi M) v52_2.toInt v52_3.toInt v52_5.toInt (zi_fr hJ.2) v52_21 v52_30 v52_31 v52_50 v52_51 hI
        refine w_lo dX5_readSum_52 rfl rfl rfl rfl ?_
        refine w_bi dX5_readSum_53 (c := 42) (by decide) ?_
        refine w_iv dX5_readSum_55 rfl rfl (As := [.int 42]) rfl rfl hJ.1.1 zs_2 (Nat.le_of_ble_eq_true rfl) ?_
        obtain ⟨P28, hp29, hb⟩ := hb
        replace hb : zHd _ := hb
        have hp29c : b_1299 (zi M) (42 : Int32).toInt P28 := by rw [zt_42]; exact hp29
        refine ZV.imp (u_1299 42 (by have := zt_42; omega) (by have := zt_42; omega) hN hJ.1 hp29c) ?_
        rintro _ ⟨x31, M26, rfl, h32, h33, hJ27, hq30⟩
        replace hb : zHd _ := hb x31.toInt h32 h33 (zi M26) (zi_fr hJ27.2) hq30
        have hJ35 := zJ_trans hJ hJ27 zSub_nil
        show ZW _ _ _ _ _ _ _ (58, [some (.ref 2), some (.int 7), some (.int v52_2), some (.int v52_3), some (.int u52_4), some (.int v52_5)], [.int x31], M26)
        rcases Int.decEq x31.toInt (0 : Int) with h36 | h36
        · skip
          replace hb : zHd _ := hb.1 h36
          refine w_ieq_f dX5_readSum_58 (t := 66) rfl (by omega) ?_
          refine w_bi dX5_readSum_61 (c := (-9)) (by decide) ?_
          refine w_gt dX5_readSum_63 (t := 95) rfl ?_
          obtain ⟨m, hm, hI⟩ := hb
          exact (ih m hm).2.2.2.1 M26 v52_2 v52_3 u52_4 v52_5 (-9) hJ35 (zbot _) (by omega) (by omega) (by omega) (by omega) (by omega) (by have := zt_m9; omega) (by have := zt_m9; omega) hI
        · skip
          replace hb : zHd _ := hb.2 h36
          refine w_ieq_t dX5_readSum_58 (t := 66) rfl (by omega) ?_
          refine w_lo dX5_readSum_66 rfl rfl rfl rfl ?_
          refine w_bi dX5_readSum_67 (c := 47) (by decide) ?_
          refine w_iv dX5_readSum_69 rfl rfl (As := [.int 47]) rfl rfl hJ35.1.1 zs_2 (Nat.le_of_ble_eq_true rfl) ?_
          obtain ⟨P39, hp40, hb⟩ := hb
          replace hb : zHd _ := hb
          have hp40c : b_1299 (zi M26) (47 : Int32).toInt P39 := by rw [zt_47]; exact hp40
          refine ZV.imp (u_1299 47 (by have := zt_47; omega) (by have := zt_47; omega) hN hJ35.1 hp40c) ?_
          rintro _ ⟨x42, M37, rfl, h43, h44, hJ38, hq41⟩
          replace hb : zHd _ := hb x42.toInt h43 h44 (zi M37) (zi_fr hJ38.2) hq41
          have hJ46 := zJ_trans hJ35 hJ38 zSub_nil
          show ZW _ _ _ _ _ _ _ (72, [some (.ref 2), some (.int 7), some (.int v52_2), some (.int v52_3), some (.int u52_4), some (.int v52_5)], [.int x42], M37)
          rcases Int.decEq x42.toInt (0 : Int) with h47 | h47
          · skip
            replace hb : zHd _ := hb.1 h47
            refine w_ieq_f dX5_readSum_72 (t := 80) rfl (by omega) ?_
            refine w_bi dX5_readSum_75 (c := (-10)) (by decide) ?_
            refine w_gt dX5_readSum_77 (t := 95) rfl ?_
            obtain ⟨m, hm, hI⟩ := hb
            exact (ih m hm).2.2.2.1 M37 v52_2 v52_3 u52_4 v52_5 (-10) hJ46 (zbot _) (by omega) (by omega) (by omega) (by omega) (by omega) (by have := zt_m10; omega) (by have := zt_m10; omega) hI
          · skip
            replace hb : zHd _ := hb.2 h47
            refine w_ieq_t dX5_readSum_72 (t := 80) rfl (by omega) ?_
            refine w_lo dX5_readSum_80 rfl rfl rfl rfl ?_
            refine w_bi dX5_readSum_81 (c := 37) (by decide) ?_
            refine w_iv dX5_readSum_83 rfl rfl (As := [.int 37]) rfl rfl hJ46.1.1 zs_2 (Nat.le_of_ble_eq_true rfl) ?_
            obtain ⟨P50, hp51, hb⟩ := hb
            replace hb : zHd _ := hb
            have hp51c : b_1299 (zi M37) (37 : Int32).toInt P50 := by rw [zt_37]; exact hp51
            refine ZV.imp (u_1299 37 (by have := zt_37; omega) (by have := zt_37; omega) hN hJ46.1 hp51c) ?_
            rintro _ ⟨x53, M48, rfl, h54, h55, hJ49, hq52⟩
            replace hb : zHd _ := hb x53.toInt h54 h55 (zi M48) (zi_fr hJ49.2) hq52
            have hJ57 := zJ_trans hJ46 hJ49 zSub_nil
            show ZW _ _ _ _ _ _ _ (86, [some (.ref 2), some (.int 7), some (.int v52_2), some (.int v52_3), some (.int u52_4), some (.int v52_5)], [.int x53], M48)
            rcases Int.decEq x53.toInt (0 : Int) with h58 | h58
            · skip
              replace hb : zHd _ := hb.1 h58
              refine w_ieq_f dX5_readSum_86 (t := 94) rfl (by omega) ?_
              refine w_bi dX5_readSum_89 (c := (-11)) (by decide) ?_
              refine w_gt dX5_readSum_91 (t := 95) rfl ?_
              obtain ⟨m, hm, hI⟩ := hb
              exact (ih m hm).2.2.2.1 M48 v52_2 v52_3 u52_4 v52_5 (-11) hJ57 (zbot _) (by omega) (by omega) (by omega) (by omega) (by omega) (by have := zt_m11; omega) (by have := zt_m11; omega) hI
            · skip
              replace hb : zHd _ := hb.2 h58
              refine w_ieq_t dX5_readSum_86 (t := 94) rfl (by omega) ?_
              refine w_ic dX5_readSum_94 zi_0 ?_
              obtain ⟨m, hm, hI⟩ := hb
              exact (ih m hm).2.2.2.1 M48 v52_2 v52_3 u52_4 v52_5 0 hJ57 (zbot _) (by omega) (by omega) (by omega) (by omega) (by omega) (by have := zt_0; omega) (by have := zt_0; omega) hI
      · intro M v95_2 v95_3 u95_4 v95_5 s95_0 hJ v95_20 v95_21 v95_30 v95_31 v95_50 v95_51 s95_00 s95_01 hI
        have hb : zHd _ := hb95 n (zi M) v95_2.toInt v95_3.toInt v95_5.toInt s95_0.toInt (zi_fr hJ.2) v95_21 v95_30 v95_31 v95_50 v95_51 s95_00 s95_01 hI
        refine w_lo (ml' := [some (.ref 2), some (.int 7), some (.int v95_2), some (.int v95_3), some (.int s95_0), some (.int v95_5)]) dX5_readSum_95 rfl rfl rfl rfl ?_
        refine w_lo dX5_readSum_97 rfl rfl rfl rfl ?_
        rcases Int.decEq s95_0.toInt (0 : Int) with h59 | h59
        · skip
          replace hb : zHd _ := hb.1 h59
          refine w_ine_t dX5_readSum_99 (t := 105) rfl (by omega) ?_
          refine w_lo dX5_readSum_105 rfl rfl rfl rfl ?_
          refine w_iv dX5_readSum_106 rfl rfl (As := []) rfl rfl hJ.1.1 zs_2 (Nat.le_of_ble_eq_true rfl) ?_
          obtain ⟨P62, hp63, hb⟩ := hb
          replace hb : zHd _ := hb
          refine ZV.imp (u_1289 hN hJ.1 hp63) ?_
          rintro _ ⟨M60, rfl, hJ61, hq64⟩
          replace hb : zHd _ := hb  (zi M60) (zi_fr hJ61.2) hq64
          have hJ66 := zJ_trans hJ hJ61 (zSub_cons (fun _ _ h h' hk => zIR_s (zIR_s (zIR_s (zIR_s (zIR_s (zIR_s (zIR_e (by omega) (by omega) hk))))))) zSub_nil)
          show ZW _ _ _ _ _ _ _ (109, [some (.ref 2), some (.int 7), some (.int v95_2), some (.int v95_3), some (.int s95_0), some (.int v95_5)], [], M60)
          refine w_inc (kk := 5) dX5_readSum_109 rfl (m := 1) (by decide) (by omega) ?_
          intro x67 h68
          refine ⟨_, rfl, ?_⟩
          replace hb : zHd _ := hb x67.toInt h68
          show ZW _ _ _ _ _ _ _ (112, [some (.ref 2), some (.int 7), some (.int v95_2), some (.int v95_3), some (.int s95_0), some (.int x67)], [], M60)
          refine w_gt dX5_readSum_112 (t := 17) rfl ?_
          obtain ⟨m, hm, hI⟩ := hb
          exact (ih m hm).2.1 M60 v95_2 v95_3 s95_0 x67 hJ66 (zbot _) (by omega) (by omega) (by omega) (by omega) (by omega) (by omega) (by omega) hI
        · skip
          replace hb : zHd _ := hb.2 h59
          refine w_ine_f dX5_readSum_99 (t := 105) rfl (by omega) ?_
          refine w_gt dX5_readSum_102 (t := 115) rfl ?_
          obtain ⟨m, hm, hI⟩ := hb
          exact (ih m hm).2.2.2.2.1 M v95_2 v95_3 s95_0 v95_5 hJ (zbot _) (by omega) (by omega) (by omega) hI
      · intro M v115_2 v115_3 u115_4 u115_5 hJ v115_20 v115_21 v115_30 v115_31 hI
        have hb : zHd _ := hb115 n (zi M) v115_2.toInt v115_3.toInt (zi_fr hJ.2) v115_21 v115_30 v115_31 hI
        refine w_lo dX5_readSum_115 rfl rfl rfl rfl ?_
        rcases Int.decEq v115_2.toInt (0 : Int) with h69 | h69
        · skip
          replace hb : zHd _ := hb.1 h69
          refine w_ieq_f dX5_readSum_116 (t := 130) rfl (by omega) ?_
          refine w_lo dX5_readSum_119 rfl rfl rfl rfl ?_
          obtain ⟨b70, f71, h72⟩ := zd_2_8 hJ.1
          have h73 := zDm_b h72
          refine w_gf dX5_readSum_120 rfl hJ.1.1 zs_2 f71 ?_
          replace hb : zHd _ := hb b70 (ziR f71) (zDm_or h72)
          refine w_gf dX5_readSum_123 rfl hJ.1.1 (zs_1_0 h72) (zr_1_0_15 h72 hJ.1) ?_
          refine w_lo dX5_readSum_126 rfl rfl rfl rfl ?_
          refine w_iv dX5_readSum_127 rfl rfl (As := [.int v115_2]) rfl rfl hJ.1.1 (zs_1_13 h72) (Nat.le_of_ble_eq_true rfl) ?_
          obtain ⟨P76, hp77, hb⟩ := hb
          replace hb : zHd _ := hb
          refine ZV.imp (u_515 (b70 + 13) (zLw_of h72) v115_2 hN hJ.1 hp77) ?_
          rintro _ ⟨M74, rfl, hJ75, hq78⟩
          replace hb : zHd _ := hb  (zi M74) (zi_fr hJ75.2) hq78
          have hJ80 := zJ_trans hJ hJ75 (zSub_cons (fun _ _ h h' hk => ((zDm_or h72).elim (fun e => zIR_s (zIR_s (zIR_e (by omega) (by omega) hk))) (fun e => zIR_s (zIR_s (zIR_s (zIR_e (by omega) (by omega) hk)))))) (zSub_cons (fun _ _ h h' hk => ((zDm_or h72).elim (fun e => zIR_s (zIR_s (zIR_s (zIR_s (zIR_a (by omega) (by omega)))))) (fun e => zIR_s (zIR_s (zIR_s (zIR_s (zIR_s (zIR_a (by omega) (by omega))))))))) zSub_nil))
          show ZW _ _ _ _ _ _ _ (130, [some (.ref 2), some (.int 7), some (.int v115_2), some (.int v115_3), some (.int u115_4), some (.int u115_5)], [], M74)
          obtain ⟨m, hm, hI⟩ := hb
          exact (ih m hm).2.2.2.2.2 M74 v115_2 v115_3 u115_4 u115_5 hJ80 (by omega) (by omega) hI
        · skip
          replace hb : zHd _ := hb.2 h69
          refine w_ieq_t dX5_readSum_116 (t := 130) rfl (by omega) ?_
          obtain ⟨m, hm, hI⟩ := hb
          exact (ih m hm).2.2.2.2.2 M v115_2 v115_3 u115_4 u115_5 hJ (by omega) (by omega) hI
      · intro M u130_2 v130_3 u130_4 u130_5 hJ v130_30 v130_31 hI
        have hb : zHd _ := hb130 n (zi M) v130_3.toInt (zi_fr hJ.2) v130_30 v130_31 hI
        refine w_lo dX5_readSum_130 rfl rfl rfl rfl ?_
        refine w_bi dX5_readSum_131 (c := 43) (by decide) ?_
        refine w_iv dX5_readSum_133 rfl rfl (As := [.int 43]) rfl rfl hJ.1.1 zs_2 (Nat.le_of_ble_eq_true rfl) ?_
        obtain ⟨P83, hp84, hb⟩ := hb
        replace hb : zHd _ := hb
        have hp84c : b_1299 (zi M) (43 : Int32).toInt P83 := by rw [zt_43]; exact hp84
        refine ZV.imp (u_1299 43 (by have := zt_43; omega) (by have := zt_43; omega) hN hJ.1 hp84c) ?_
        rintro _ ⟨x86, M81, rfl, h87, h88, hJ82, hq85⟩
        replace hb : zHd _ := hb x86.toInt h87 h88 (zi M81) (zi_fr hJ82.2) hq85
        have hJ90 := zJ_trans hJ hJ82 zSub_nil
        show ZW _ _ _ _ _ _ _ (136, [some (.ref 2), some (.int 7), some (.int u130_2), some (.int v130_3), some (.int u130_4), some (.int u130_5)], [.int x86], M81)
        rcases Int.decEq x86.toInt (0 : Int) with h91 | h91
        · skip
          replace hb : zHd _ := hb.1 h91
          refine w_ieq_f dX5_readSum_136 (t := 144) rfl (by omega) ?_
          refine w_bi dX5_readSum_139 (c := (-12)) (by decide) ?_
          refine w_gt dX5_readSum_141 (t := 159) rfl ?_
          refine w_lo (ml' := [some (.ref 2), some (.int 7), some (.int (-12)), some (.int v130_3), some (.int u130_4), some (.int u130_5)]) dX5_readSum_159 rfl rfl rfl rfl ?_
          refine w_lo dX5_readSum_160 rfl rfl rfl rfl ?_
          refine w_ine_t dX5_readSum_161 (t := 167) rfl (by have := zt_m12; omega) ?_
          refine w_lo dX5_readSum_167 rfl rfl rfl rfl ?_
          refine w_iv dX5_readSum_168 rfl rfl (As := []) rfl rfl hJ90.1.1 zs_2 (Nat.le_of_ble_eq_true rfl) ?_
          obtain ⟨P94, hp95, hb⟩ := hb
          replace hb : zHd _ := hb
          refine ZV.imp (u_1289 hN hJ90.1 hp95) ?_
          rintro _ ⟨M92, rfl, hJ93, hq96⟩
          replace hb : zHd _ := hb  (zi M92) (zi_fr hJ93.2) hq96
          have hJ98 := zJ_trans hJ90 hJ93 (zSub_cons (fun _ _ h h' hk => zIR_s (zIR_s (zIR_s (zIR_s (zIR_s (zIR_s (zIR_e (by omega) (by omega) hk))))))) zSub_nil)
          show ZW _ _ _ _ _ _ _ (171, [some (.ref 2), some (.int 7), some (.int (-12)), some (.int v130_3), some (.int u130_4), some (.int u130_5)], [], M92)
          refine w_inc (kk := 3) dX5_readSum_171 rfl (m := 1) (by decide) (by omega) ?_
          intro x99 h100
          refine ⟨_, rfl, ?_⟩
          replace hb : zHd _ := hb x99.toInt h100
          show ZW _ _ _ _ _ _ _ (174, [some (.ref 2), some (.int 7), some (.int (-12)), some (.int x99), some (.int u130_4), some (.int u130_5)], [], M92)
          refine w_gt dX5_readSum_174 (t := 4) rfl ?_
          obtain ⟨m, hm, hI⟩ := hb
          exact (ih m hm).1 M92 (-12) x99 (some (.int u130_4)) (some (.int u130_5)) hJ98 (by have := zt_m12; omega) (by have := zt_m12; omega) (by omega) (by omega) hI
        · skip
          replace hb : zHd _ := hb.2 h91
          refine w_ieq_t dX5_readSum_136 (t := 144) rfl (by omega) ?_
          refine w_lo dX5_readSum_144 rfl rfl rfl rfl ?_
          refine w_bi dX5_readSum_145 (c := 45) (by decide) ?_
          refine w_iv dX5_readSum_147 rfl rfl (As := [.int 45]) rfl rfl hJ90.1.1 zs_2 (Nat.le_of_ble_eq_true rfl) ?_
          obtain ⟨P103, hp104, hb⟩ := hb
          replace hb : zHd _ := hb
          have hp104c : b_1299 (zi M81) (45 : Int32).toInt P103 := by rw [zt_45]; exact hp104
          refine ZV.imp (u_1299 45 (by have := zt_45; omega) (by have := zt_45; omega) hN hJ90.1 hp104c) ?_
          rintro _ ⟨x106, M101, rfl, h107, h108, hJ102, hq105⟩
          replace hb : zHd _ := hb x106.toInt h107 h108 (zi M101) (zi_fr hJ102.2) hq105
          have hJ110 := zJ_trans hJ90 hJ102 zSub_nil
          show ZW _ _ _ _ _ _ _ (150, [some (.ref 2), some (.int 7), some (.int u130_2), some (.int v130_3), some (.int u130_4), some (.int u130_5)], [.int x106], M101)
          rcases Int.decEq x106.toInt (0 : Int) with h111 | h111
          · skip
            replace hb : zHd _ := hb.1 h111
            refine w_ieq_f dX5_readSum_150 (t := 158) rfl (by omega) ?_
            refine w_bi dX5_readSum_153 (c := (-13)) (by decide) ?_
            refine w_gt dX5_readSum_155 (t := 159) rfl ?_
            refine w_lo (ml' := [some (.ref 2), some (.int 7), some (.int (-13)), some (.int v130_3), some (.int u130_4), some (.int u130_5)]) dX5_readSum_159 rfl rfl rfl rfl ?_
            refine w_lo dX5_readSum_160 rfl rfl rfl rfl ?_
            refine w_ine_t dX5_readSum_161 (t := 167) rfl (by have := zt_m13; omega) ?_
            refine w_lo dX5_readSum_167 rfl rfl rfl rfl ?_
            refine w_iv dX5_readSum_168 rfl rfl (As := []) rfl rfl hJ110.1.1 zs_2 (Nat.le_of_ble_eq_true rfl) ?_
            obtain ⟨P114, hp115, hb⟩ := hb
            replace hb : zHd _ := hb
            refine ZV.imp (u_1289 hN hJ110.1 hp115) ?_
            rintro _ ⟨M112, rfl, hJ113, hq116⟩
            replace hb : zHd _ := hb  (zi M112) (zi_fr hJ113.2) hq116
            have hJ118 := zJ_trans hJ110 hJ113 (zSub_cons (fun _ _ h h' hk => zIR_s (zIR_s (zIR_s (zIR_s (zIR_s (zIR_s (zIR_e (by omega) (by omega) hk))))))) zSub_nil)
            show ZW _ _ _ _ _ _ _ (171, [some (.ref 2), some (.int 7), some (.int (-13)), some (.int v130_3), some (.int u130_4), some (.int u130_5)], [], M112)
            refine w_inc (kk := 3) dX5_readSum_171 rfl (m := 1) (by decide) (by omega) ?_
            intro x119 h120
            refine ⟨_, rfl, ?_⟩
            replace hb : zHd _ := hb x119.toInt h120
            show ZW _ _ _ _ _ _ _ (174, [some (.ref 2), some (.int 7), some (.int (-13)), some (.int x119), some (.int u130_4), some (.int u130_5)], [], M112)
            refine w_gt dX5_readSum_174 (t := 4) rfl ?_
            obtain ⟨m, hm, hI⟩ := hb
            exact (ih m hm).1 M112 (-13) x119 (some (.int u130_4)) (some (.int u130_5)) hJ118 (by have := zt_m13; omega) (by have := zt_m13; omega) (by omega) (by omega) hI
          · skip
            replace hb : zHd _ := hb.2 h111
            refine w_ieq_t dX5_readSum_150 (t := 158) rfl (by omega) ?_
            refine w_ic dX5_readSum_158 zi_0 ?_
            refine w_lo (ml' := [some (.ref 2), some (.int 7), some (.int 0), some (.int v130_3), some (.int u130_4), some (.int u130_5)]) dX5_readSum_159 rfl rfl rfl rfl ?_
            refine w_lo dX5_readSum_160 rfl rfl rfl rfl ?_
            refine w_ine_f dX5_readSum_161 (t := 167) rfl (by have := zt_0; omega) ?_
            refine w_gt dX5_readSum_164 (t := 177) rfl ?_
            refine w_ic dX5_readSum_177 zi_1 ?_
            refine w_en dX5_readSum_178 rfl ?_
            exact ⟨_, _, rfl, (by have := zt_1; omega), (by have := zt_1; omega), hJ110, hb⟩
  have hb : zHd _ := hbE
  show ZW _ _ _ _ _ _ _ (0, [some (.ref 2), some (.int 7), none, none, none, none], [], M0)
  refine w_ic dX5_readSum_0 zi_0 ?_
  refine w_lo (ml' := [some (.ref 2), some (.int 7), some (.int 0), none, none, none]) dX5_readSum_1 rfl rfl rfl rfl ?_
  refine w_ic dX5_readSum_2 zi_0 ?_
  refine w_lo (ml' := [some (.ref 2), some (.int 7), some (.int 0), some (.int 0), none, none]) dX5_readSum_3 rfl rfl rfl rfl ?_
  obtain ⟨m, hI⟩ := hb
  exact (main m).1 M0 0 0 none none hJ0 (by have := zt_0; omega) (by have := zt_0; omega) (by have := zt_0; omega) (by have := zt_0; omega) hI
set_option maxRecDepth 100000 in
theorem u_1298_c6 {X : List Int32} {d N : Nat} {M0 : zM}  (hN : N ≤ 600) (hB0 : zB N M0) {Q : Int → zF → Prop} (hb : b_1298_c6 (zi M0) Q) : ZV X (d + 6) 1298 [.ref 2, .int 6] M0 (zRI N [(2, 3, 0), (2, 3, 1), (20, 21, 1), (41, 42, 1), (21, 22, 1000), (42, 43, 1000), (2, 3, 7)] M0 (0) (1) (fun v M' => Q v.toInt (zi M'))) := by
  have hJ0 : zJ N [(2, 3, 0), (2, 3, 1), (20, 21, 1), (41, 42, 1), (21, 22, 1000), (42, 43, 1000), (2, 3, 7)] M0 M0 := zJ_refl hB0
  refine ZV.of (ini := false) rfl (Nat.le_of_ble_eq_true rfl) (by decide +kernel) ?_
  obtain ⟨I73, I85, I99, hbE, hb73, hb85, hb99⟩ := hb
  replace hbE : zHd _ := hbE
  replace hb73 : zHd _ := hb73
  replace hb85 : zHd _ := hb85
  replace hb99 : zHd _ := hb99
  have main : ∀ n : Nat,
      (∀ (M : zM) (v73_2 : Int32) (o73_3 : Option Value), zJ N [(2, 3, 0), (2, 3, 1), (20, 21, 1), (41, 42, 1), (21, 22, 1000), (42, 43, 1000), (2, 3, 7)] M0 M → ((-1 : Int) ≤ v73_2.toInt) → (v73_2.toInt ≤ 26) → I73 n (zi M) v73_2.toInt → ZW X (d + 5) 5 false (some .boolean) cX5_readPart (zRI N [(2, 3, 0), (2, 3, 1), (20, 21, 1), (41, 42, 1), (21, 22, 1000), (42, 43, 1000), (2, 3, 7)] M0 (0) (1) (fun v M' => Q v.toInt (zi M'))) (73, [some (.ref 2), some (.int 6), some (.int v73_2), o73_3], [], M)) ∧
      (∀ (M : zM) (v85_2 : Int32) (o85_3 : Option Value), zJ N [(2, 3, 0), (2, 3, 1), (20, 21, 1), (41, 42, 1), (21, 22, 1000), (42, 43, 1000), (2, 3, 7)] M0 M → ((25 : Int) ≤ v85_2.toInt) → (v85_2.toInt ≤ 26) → I85 n (zi M) v85_2.toInt → ZW X (d + 5) 5 false (some .boolean) cX5_readPart (zRI N [(2, 3, 0), (2, 3, 1), (20, 21, 1), (41, 42, 1), (21, 22, 1000), (42, 43, 1000), (2, 3, 7)] M0 (0) (1) (fun v M' => Q v.toInt (zi M'))) (85, [some (.ref 2), some (.int 6), some (.int v85_2), o85_3], [], M)) ∧
      (∀ (M : zM) (v99_2 : Int32) (v99_3 : Int32), zJ N [(2, 3, 0), (2, 3, 1), (20, 21, 1), (41, 42, 1), (21, 22, 1000), (42, 43, 1000), (2, 3, 7)] M0 M → ((-1 : Int) ≤ v99_2.toInt) → (v99_2.toInt ≤ 26) → ((0 : Int) ≤ v99_3.toInt) → (v99_3.toInt ≤ 1) → I99 n (zi M) v99_2.toInt v99_3.toInt → ZW X (d + 5) 5 false (some .boolean) cX5_readPart (zRI N [(2, 3, 0), (2, 3, 1), (20, 21, 1), (41, 42, 1), (21, 22, 1000), (42, 43, 1000), (2, 3, 7)] M0 (0) (1) (fun v M' => Q v.toInt (zi M'))) (99, [some (.ref 2), some (.int 6), some (.int v99_2), some (.int v99_3)], [], M)) := by
    intro n
    induction n using Nat.strongRecOn with
    | _ n ih =>
      refine ⟨?_, ?_, ?_⟩
      · intro M v73_2 o73_3 hJ v73_20 v73_21 hI
        have hb : zHd _ := hb73 n (zi M) v73_2.toInt (zi_fr hJ.2) v73_20 v73_21 hI
        refine w_lo dX5_readPart_73 rfl rfl rfl rfl ?_
        refine w_bi dX5_readPart_74 (c := 25) (by decide) ?_
        rcases Int.decEq v73_2.toInt (25 : Int) with h1 | h1
        · skip
          replace hb : zHd _ := hb.1 h1
          refine w_ceq_f dX5_readPart_76 (t := 85) rfl (by have := zt_25; omega) ?_
          refine w_lo dX5_readPart_79 rfl rfl rfl rfl ?_
          refine w_bi dX5_readPart_80 (c := 26) (by decide) ?_
          rcases Int.decEq v73_2.toInt (26 : Int) with h2 | h2
          · skip
            replace hb : zHd _ := hb.1 h2
            refine w_cne_t dX5_readPart_82 (t := 89) rfl (by have := zt_26; omega) ?_
            refine w_ic dX5_readPart_89 zi_0 ?_
            refine w_lo (ml' := [some (.ref 2), some (.int 6), some (.int v73_2), some (.int 0)]) dX5_readPart_90 rfl rfl rfl rfl ?_
            refine w_lo dX5_readPart_91 rfl rfl rfl rfl ?_
            refine w_ieq_t dX5_readPart_92 (t := 99) rfl (by have := zt_0; omega) ?_
            obtain ⟨m, hm, hI⟩ := hb
            exact (ih m hm).2.2 M v73_2 0 hJ (by omega) (by omega) (by have := zt_0; omega) (by have := zt_0; omega) hI
          · skip
            replace hb : zHd _ := hb.2 h2
            refine w_cne_f dX5_readPart_82 (t := 89) rfl (by have := zt_26; omega) ?_
            obtain ⟨m, hm, hI⟩ := hb
            exact (ih m hm).2.1 M v73_2 o73_3 hJ (by omega) (by omega) hI
        · skip
          replace hb : zHd _ := hb.2 h1
          refine w_ceq_t dX5_readPart_76 (t := 85) rfl (by have := zt_25; omega) ?_
          obtain ⟨m, hm, hI⟩ := hb
          exact (ih m hm).2.1 M v73_2 o73_3 hJ (by omega) (by omega) hI
      · intro M v85_2 o85_3 hJ v85_20 v85_21 hI
        have hb : zHd _ := hb85 n (zi M) v85_2.toInt (zi_fr hJ.2) v85_20 v85_21 hI
        refine w_ic dX5_readPart_85 zi_1 ?_
        refine w_gt dX5_readPart_86 (t := 90) rfl ?_
        refine w_lo (ml' := [some (.ref 2), some (.int 6), some (.int v85_2), some (.int 1)]) dX5_readPart_90 rfl rfl rfl rfl ?_
        refine w_lo dX5_readPart_91 rfl rfl rfl rfl ?_
        refine w_ieq_f dX5_readPart_92 (t := 99) rfl (by have := zt_1; omega) ?_
        refine w_lo dX5_readPart_95 rfl rfl rfl rfl ?_
        refine w_iv dX5_readPart_96 rfl rfl (As := []) rfl rfl hJ.1.1 zs_2 (Nat.le_of_ble_eq_true rfl) ?_
        obtain ⟨P5, hp6, hb⟩ := hb
        replace hb : zHd _ := hb
        refine ZV.imp (u_1289 hN hJ.1 hp6) ?_
        rintro _ ⟨M3, rfl, hJ4, hq7⟩
        replace hb : zHd _ := hb  (zi M3) (zi_fr hJ4.2) hq7
        have hJ9 := zJ_trans hJ hJ4 (zSub_cons (fun _ _ h h' hk => zIR_s (zIR_s (zIR_s (zIR_s (zIR_s (zIR_s (zIR_e (by omega) (by omega) hk))))))) zSub_nil)
        show ZW _ _ _ _ _ _ _ (99, [some (.ref 2), some (.int 6), some (.int v85_2), some (.int 1)], [], M3)
        obtain ⟨m, hm, hI⟩ := hb
        exact (ih m hm).2.2 M3 v85_2 1 hJ9 (by omega) (by omega) (by have := zt_1; omega) (by have := zt_1; omega) hI
      · intro M v99_2 v99_3 hJ v99_20 v99_21 v99_30 v99_31 hI
        have hb : zHd _ := hb99 n (zi M) v99_2.toInt v99_3.toInt (zi_fr hJ.2) v99_20 v99_21 v99_30 v99_31 hI
        refine w_lo dX5_readPart_99 rfl rfl rfl rfl ?_
        refine w_bi dX5_readPart_100 (c := 40) (by decide) ?_
        refine w_iv dX5_readPart_102 rfl rfl (As := [.int 40]) rfl rfl hJ.1.1 zs_2 (Nat.le_of_ble_eq_true rfl) ?_
        obtain ⟨P12, hp13, hb⟩ := hb
        replace hb : zHd _ := hb
        have hp13c : b_1299 (zi M) (40 : Int32).toInt P12 := by rw [zt_40]; exact hp13
        refine ZV.imp (u_1299 40 (by have := zt_40; omega) (by have := zt_40; omega) hN hJ.1 hp13c) ?_
        rintro _ ⟨x15, M10, rfl, h16, h17, hJ11, hq14⟩
        replace hb : zHd _ := hb x15.toInt h16 h17 (zi M10) (zi_fr hJ11.2) hq14
        have hJ19 := zJ_trans hJ hJ11 zSub_nil
        show ZW _ _ _ _ _ _ _ (105, [some (.ref 2), some (.int 6), some (.int v99_2), some (.int v99_3)], [.int x15], M10)
        rcases Int.decEq x15.toInt (0 : Int) with h20 | h20
        · skip
          replace hb : zHd _ := hb.1 h20
          refine w_ine_t dX5_readPart_105 (t := 114) rfl (by omega) ?_
          refine w_lo dX5_readPart_114 rfl rfl rfl rfl ?_
          refine w_bi dX5_readPart_115 (c := 8) (by decide) ?_
          refine w_clt_t dX5_readPart_117 (t := 126) rfl (by have := zt_6; have := zt_8; omega) ?_
          refine w_lo dX5_readPart_126 rfl rfl rfl rfl ?_
          refine w_iv dX5_readPart_127 rfl rfl (As := []) rfl rfl hJ19.1.1 zs_2 (Nat.le_of_ble_eq_true rfl) ?_
          obtain ⟨P23, hp24, hb⟩ := hb
          replace hb : zHd _ := hb
          refine ZV.imp (u_1289 hN hJ19.1 hp24) ?_
          rintro _ ⟨M21, rfl, hJ22, hq25⟩
          replace hb : zHd _ := hb  (zi M21) (zi_fr hJ22.2) hq25
          have hJ27 := zJ_trans hJ19 hJ22 (zSub_cons (fun _ _ h h' hk => zIR_s (zIR_s (zIR_s (zIR_s (zIR_s (zIR_s (zIR_e (by omega) (by omega) hk))))))) zSub_nil)
          show ZW _ _ _ _ _ _ _ (130, [some (.ref 2), some (.int 6), some (.int v99_2), some (.int v99_3)], [], M21)
          refine w_lo dX5_readPart_130 rfl rfl rfl rfl ?_
          refine w_lo dX5_readPart_131 rfl rfl rfl rfl ?_
          refine w_ic dX5_readPart_132 zi_1 ?_
          refine w_pu (st' := [.int 7, .ref 2]) dX5_readPart_133 rfl rfl ?_
          refine w_iv dX5_readPart_134 rfl rfl (As := [.int 7]) rfl rfl hJ27.1.1 zs_2 (Nat.le_of_ble_eq_true rfl) ?_
          obtain ⟨P30, hp31, hb⟩ := hb
          replace hb : zHd _ := hb
          refine ZV.imp (u_1297_c7 hN hJ27.1 hp31) ?_
          rintro _ ⟨x33, M28, rfl, h34, h35, hJ29, hq32⟩
          replace hb : zHd _ := hb x33.toInt h34 h35 (zi M28) (zi_fr hJ29.2) hq32
          have hJ37 := zJ_trans hJ27 hJ29 (zSub_cons (fun _ _ h h' hk => zIR_e (by omega) (by omega) hk) (zSub_cons (fun _ _ h h' hk => zIR_s (zIR_e (by omega) (by omega) hk)) (zSub_cons (fun _ _ h h' hk => zIR_s (zIR_s (zIR_e (by omega) (by omega) hk))) (zSub_cons (fun _ _ h h' hk => zIR_s (zIR_s (zIR_s (zIR_e (by omega) (by omega) hk)))) (zSub_cons (fun _ _ h h' hk => zIR_s (zIR_s (zIR_s (zIR_s (zIR_a (by omega) (by omega)))))) (zSub_cons (fun _ _ h h' hk => zIR_s (zIR_s (zIR_s (zIR_s (zIR_s (zIR_a (by omega) (by omega))))))) (zSub_cons (fun _ _ h h' hk => zIR_s (zIR_s (zIR_s (zIR_s (zIR_s (zIR_s (zIR_e (by omega) (by omega) hk))))))) zSub_nil)))))))
          show ZW _ _ _ _ _ _ _ (137, [some (.ref 2), some (.int 6), some (.int v99_2), some (.int v99_3)], [.int x33], M28)
          rcases Int.decEq x33.toInt (0 : Int) with h38 | h38
          · skip
            replace hb : zHd _ := hb.1 h38
            refine w_ine_t dX5_readPart_137 (t := 142) rfl (by omega) ?_
            refine w_lo dX5_readPart_142 rfl rfl rfl rfl ?_
            rcases Int.decEq v99_3.toInt (0 : Int) with h39 | h39
            · skip
              replace hb : zHd _ := hb.1 h39
              refine w_ieq_f dX5_readPart_143 (t := 200) rfl (by omega) ?_
              refine w_lo dX5_readPart_146 rfl rfl rfl rfl ?_
              refine w_bi dX5_readPart_147 (c := 44) (by decide) ?_
              refine w_iv dX5_readPart_149 rfl rfl (As := [.int 44]) rfl rfl hJ37.1.1 zs_2 (Nat.le_of_ble_eq_true rfl) ?_
              obtain ⟨P42, hp43, hb⟩ := hb
              replace hb : zHd _ := hb
              have hp43c : b_1299 (zi M28) (44 : Int32).toInt P42 := by rw [zt_44]; exact hp43
              refine ZV.imp (u_1299 44 (by have := zt_44; omega) (by have := zt_44; omega) hN hJ37.1 hp43c) ?_
              rintro _ ⟨x45, M40, rfl, h46, h47, hJ41, hq44⟩
              replace hb : zHd _ := hb x45.toInt h46 h47 (zi M40) (zi_fr hJ41.2) hq44
              have hJ49 := zJ_trans hJ37 hJ41 zSub_nil
              show ZW _ _ _ _ _ _ _ (152, [some (.ref 2), some (.int 6), some (.int v99_2), some (.int v99_3)], [.int x45], M40)
              rcases Int.decEq x45.toInt (0 : Int) with h50 | h50
              · skip
                replace hb : zHd _ := hb.1 h50
                refine w_ine_t dX5_readPart_152 (t := 161) rfl (by omega) ?_
                refine w_lo dX5_readPart_161 rfl rfl rfl rfl ?_
                refine w_iv dX5_readPart_162 rfl rfl (As := []) rfl rfl hJ49.1.1 zs_2 (Nat.le_of_ble_eq_true rfl) ?_
                obtain ⟨P53, hp54, hb⟩ := hb
                replace hb : zHd _ := hb
                refine ZV.imp (u_1289 hN hJ49.1 hp54) ?_
                rintro _ ⟨M51, rfl, hJ52, hq55⟩
                replace hb : zHd _ := hb  (zi M51) (zi_fr hJ52.2) hq55
                have hJ57 := zJ_trans hJ49 hJ52 (zSub_cons (fun _ _ h h' hk => zIR_s (zIR_s (zIR_s (zIR_s (zIR_s (zIR_s (zIR_e (by omega) (by omega) hk))))))) zSub_nil)
                show ZW _ _ _ _ _ _ _ (165, [some (.ref 2), some (.int 6), some (.int v99_2), some (.int v99_3)], [], M51)
                refine w_lo dX5_readPart_165 rfl rfl rfl rfl ?_
                refine w_lo dX5_readPart_166 rfl rfl rfl rfl ?_
                refine w_ic dX5_readPart_167 zi_1 ?_
                refine w_pu (st' := [.int 7, .ref 2]) dX5_readPart_168 rfl rfl ?_
                refine w_iv dX5_readPart_169 rfl rfl (As := [.int 7]) rfl rfl hJ57.1.1 zs_2 (Nat.le_of_ble_eq_true rfl) ?_
                obtain ⟨P60, hp61, hb⟩ := hb
                replace hb : zHd _ := hb
                refine ZV.imp (u_1297_c7 hN hJ57.1 hp61) ?_
                rintro _ ⟨x63, M58, rfl, h64, h65, hJ59, hq62⟩
                replace hb : zHd _ := hb x63.toInt h64 h65 (zi M58) (zi_fr hJ59.2) hq62
                have hJ67 := zJ_trans hJ57 hJ59 (zSub_cons (fun _ _ h h' hk => zIR_e (by omega) (by omega) hk) (zSub_cons (fun _ _ h h' hk => zIR_s (zIR_e (by omega) (by omega) hk)) (zSub_cons (fun _ _ h h' hk => zIR_s (zIR_s (zIR_e (by omega) (by omega) hk))) (zSub_cons (fun _ _ h h' hk => zIR_s (zIR_s (zIR_s (zIR_e (by omega) (by omega) hk)))) (zSub_cons (fun _ _ h h' hk => zIR_s (zIR_s (zIR_s (zIR_s (zIR_a (by omega) (by omega)))))) (zSub_cons (fun _ _ h h' hk => zIR_s (zIR_s (zIR_s (zIR_s (zIR_s (zIR_a (by omega) (by omega))))))) (zSub_cons (fun _ _ h h' hk => zIR_s (zIR_s (zIR_s (zIR_s (zIR_s (zIR_s (zIR_e (by omega) (by omega) hk))))))) zSub_nil)))))))
                show ZW _ _ _ _ _ _ _ (172, [some (.ref 2), some (.int 6), some (.int v99_2), some (.int v99_3)], [.int x63], M58)
                rcases Int.decEq x63.toInt (0 : Int) with h68 | h68
                · skip
                  replace hb : zHd _ := hb.1 h68
                  refine w_ine_t dX5_readPart_172 (t := 177) rfl (by omega) ?_
                  refine w_lo dX5_readPart_177 rfl rfl rfl rfl ?_
                  obtain ⟨b69, f70, h71⟩ := zd_2_8 hJ67.1
                  have h72 := zDm_b h71
                  refine w_gf dX5_readPart_178 rfl hJ67.1.1 zs_2 f70 ?_
                  replace hb : zHd _ := hb b69 (ziR f70) (zDm_or h71)
                  refine w_gf dX5_readPart_181 rfl hJ67.1.1 (zs_1_0 h71) (zr_1_0_15 h71 hJ67.1) ?_
                  refine w_lo dX5_readPart_184 rfl rfl rfl rfl ?_
                  refine w_bi dX5_readPart_185 (c := 25) (by decide) ?_
                  rcases Int.decEq v99_2.toInt (25 : Int) with h73 | h73
                  · skip
                    replace hb : zHd _ := hb.1 h73
                    refine w_cne_t dX5_readPart_187 (t := 195) rfl (by have := zt_25; omega) ?_
                    refine w_bi dX5_readPart_195 (c := (-20)) (by decide) ?_
                    refine w_iv dX5_readPart_197 rfl rfl (As := [.int (-20)]) rfl rfl hJ67.1.1 (zs_1_13 h71) (Nat.le_of_ble_eq_true rfl) ?_
                    obtain ⟨P76, hp77, hb⟩ := hb
                    replace hb : zHd _ := hb
                    have hp77c : b_515 (b69 + 13) (zi M58) ((-20) : Int32).toInt P76 := by rw [zt_m20]; exact hp77
                    refine ZV.imp (u_515 (b69 + 13) (zLw_of h71) (-20) hN hJ67.1 hp77c) ?_
                    rintro _ ⟨M74, rfl, hJ75, hq78⟩
                    replace hb : zHd _ := hb  (zi M74) (zi_fr hJ75.2) hq78
                    have hJ80 := zJ_trans hJ67 hJ75 (zSub_cons (fun _ _ h h' hk => ((zDm_or h71).elim (fun e => zIR_s (zIR_s (zIR_e (by omega) (by omega) hk))) (fun e => zIR_s (zIR_s (zIR_s (zIR_e (by omega) (by omega) hk)))))) (zSub_cons (fun _ _ h h' hk => ((zDm_or h71).elim (fun e => zIR_s (zIR_s (zIR_s (zIR_s (zIR_a (by omega) (by omega)))))) (fun e => zIR_s (zIR_s (zIR_s (zIR_s (zIR_s (zIR_a (by omega) (by omega))))))))) zSub_nil))
                    show ZW _ _ _ _ _ _ _ (200, [some (.ref 2), some (.int 6), some (.int v99_2), some (.int v99_3)], [], M74)
                    refine w_lo dX5_readPart_200 rfl rfl rfl rfl ?_
                    refine w_bi dX5_readPart_201 (c := 41) (by decide) ?_
                    refine w_iv dX5_readPart_203 rfl rfl (As := [.int 41]) rfl rfl hJ80.1.1 zs_2 (Nat.le_of_ble_eq_true rfl) ?_
                    obtain ⟨P83, hp84, hb⟩ := hb
                    replace hb : zHd _ := hb
                    have hp84c : b_1299 (zi M74) (41 : Int32).toInt P83 := by rw [zt_41]; exact hp84
                    refine ZV.imp (u_1299 41 (by have := zt_41; omega) (by have := zt_41; omega) hN hJ80.1 hp84c) ?_
                    rintro _ ⟨x86, M81, rfl, h87, h88, hJ82, hq85⟩
                    replace hb : zHd _ := hb x86.toInt h87 h88 (zi M81) (zi_fr hJ82.2) hq85
                    have hJ90 := zJ_trans hJ80 hJ82 zSub_nil
                    show ZW _ _ _ _ _ _ _ (206, [some (.ref 2), some (.int 6), some (.int v99_2), some (.int v99_3)], [.int x86], M81)
                    rcases Int.decEq x86.toInt (0 : Int) with h91 | h91
                    · skip
                      replace hb : zHd _ := hb.1 h91
                      refine w_ine_t dX5_readPart_206 (t := 215) rfl (by omega) ?_
                      refine w_lo dX5_readPart_215 rfl rfl rfl rfl ?_
                      refine w_iv dX5_readPart_216 rfl rfl (As := []) rfl rfl hJ90.1.1 zs_2 (Nat.le_of_ble_eq_true rfl) ?_
                      obtain ⟨P94, hp95, hb⟩ := hb
                      replace hb : zHd _ := hb
                      refine ZV.imp (u_1289 hN hJ90.1 hp95) ?_
                      rintro _ ⟨M92, rfl, hJ93, hq96⟩
                      replace hb : zHd _ := hb  (zi M92) (zi_fr hJ93.2) hq96
                      have hJ98 := zJ_trans hJ90 hJ93 (zSub_cons (fun _ _ h h' hk => zIR_s (zIR_s (zIR_s (zIR_s (zIR_s (zIR_s (zIR_e (by omega) (by omega) hk))))))) zSub_nil)
                      show ZW _ _ _ _ _ _ _ (219, [some (.ref 2), some (.int 6), some (.int v99_2), some (.int v99_3)], [], M92)
                      refine w_ic dX5_readPart_219 zi_1 ?_
                      refine w_en dX5_readPart_220 rfl ?_
                      exact ⟨_, _, rfl, (by have := zt_1; omega), (by have := zt_1; omega), hJ98, hb⟩
                    · skip
                      replace hb : zHd _ := hb.2 h91
                      refine w_ine_f dX5_readPart_206 (t := 215) rfl (by omega) ?_
                      refine w_lo dX5_readPart_209 rfl rfl rfl rfl ?_
                      refine w_ic dX5_readPart_210 zi_1 ?_
                      refine w_iv dX5_readPart_211 rfl rfl (As := [.int 1]) rfl rfl hJ90.1.1 zs_2 (Nat.le_of_ble_eq_true rfl) ?_
                      obtain ⟨P101, hp102, hb⟩ := hb
                      replace hb : zHd _ := hb
                      have hp102c : b_1286 (zi M81) (1 : Int32).toInt P101 := by rw [zt_1]; exact hp102
                      refine ZV.imp (u_1286 1 (by have := zt_1; omega) (by have := zt_1; omega) hN hJ90.1 hp102c) ?_
                      rintro _ ⟨x104, M99, rfl, h105, h106, hJ100, hq103⟩
                      replace hb : zHd _ := hb x104.toInt h105 h106 (zi M99) (zi_fr hJ100.2) hq103
                      have hJ108 := zJ_trans hJ90 hJ100 (zSub_cons (fun _ _ h h' hk => zIR_e (by omega) (by omega) hk) (zSub_cons (fun _ _ h h' hk => zIR_s (zIR_e (by omega) (by omega) hk)) zSub_nil))
                      show ZW _ _ _ _ _ _ _ (214, [some (.ref 2), some (.int 6), some (.int v99_2), some (.int v99_3)], [.int x104], M99)
                      refine w_eni dX5_readPart_214 rfl (znb (by omega) (by omega)) ?_
                      exact ⟨_, _, rfl, (by omega), (by omega), hJ108, hb⟩
                  · skip
                    replace hb : zHd _ := hb.2 h73
                    refine w_cne_f dX5_readPart_187 (t := 195) rfl (by have := zt_25; omega) ?_
                    refine w_bi dX5_readPart_190 (c := (-19)) (by decide) ?_
                    refine w_gt dX5_readPart_192 (t := 197) rfl ?_
                    refine w_iv dX5_readPart_197 rfl rfl (As := [.int (-19)]) rfl rfl hJ67.1.1 (zs_1_13 h71) (Nat.le_of_ble_eq_true rfl) ?_
                    obtain ⟨P111, hp112, hb⟩ := hb
                    replace hb : zHd _ := hb
                    have hp112c : b_515 (b69 + 13) (zi M58) ((-19) : Int32).toInt P111 := by rw [zt_m19]; exact hp112
                    refine ZV.imp (u_515 (b69 + 13) (zLw_of h71) (-19) hN hJ67.1 hp112c) ?_
                    rintro _ ⟨M109, rfl, hJ110, hq113⟩
                    replace hb : zHd _ := hb  (zi M109) (zi_fr hJ110.2) hq113
                    have hJ115 := zJ_trans hJ67 hJ110 (zSub_cons (fun _ _ h h' hk => ((zDm_or h71).elim (fun e => zIR_s (zIR_s (zIR_e (by omega) (by omega) hk))) (fun e => zIR_s (zIR_s (zIR_s (zIR_e (by omega) (by omega) hk)))))) (zSub_cons (fun _ _ h h' hk => ((zDm_or h71).elim (fun e => zIR_s (zIR_s (zIR_s (zIR_s (zIR_a (by omega) (by omega)))))) (fun e => zIR_s (zIR_s (zIR_s (zIR_s (zIR_s (zIR_a (by omega) (by omega))))))))) zSub_nil))
                    show ZW _ _ _ _ _ _ _ (200, [some (.ref 2), some (.int 6), some (.int v99_2), some (.int v99_3)], [], M109)
                    refine w_lo dX5_readPart_200 rfl rfl rfl rfl ?_
                    refine w_bi dX5_readPart_201 (c := 41) (by decide) ?_
                    refine w_iv dX5_readPart_203 rfl rfl (As := [.int 41]) rfl rfl hJ115.1.1 zs_2 (Nat.le_of_ble_eq_true rfl) ?_
                    obtain ⟨P118, hp119, hb⟩ := hb
                    replace hb : zHd _ := hb
                    have hp119c : b_1299 (zi M109) (41 : Int32).toInt P118 := by rw [zt_41]; exact hp119
                    refine ZV.imp (u_1299 41 (by have := zt_41; omega) (by have := zt_41; omega) hN hJ115.1 hp119c) ?_
                    rintro _ ⟨x121, M116, rfl, h122, h123, hJ117, hq120⟩
                    replace hb : zHd _ := hb x121.toInt h122 h123 (zi M116) (zi_fr hJ117.2) hq120
                    have hJ125 := zJ_trans hJ115 hJ117 zSub_nil
                    show ZW _ _ _ _ _ _ _ (206, [some (.ref 2), some (.int 6), some (.int v99_2), some (.int v99_3)], [.int x121], M116)
                    rcases Int.decEq x121.toInt (0 : Int) with h126 | h126
                    · skip
                      replace hb : zHd _ := hb.1 h126
                      refine w_ine_t dX5_readPart_206 (t := 215) rfl (by omega) ?_
                      refine w_lo dX5_readPart_215 rfl rfl rfl rfl ?_
                      refine w_iv dX5_readPart_216 rfl rfl (As := []) rfl rfl hJ125.1.1 zs_2 (Nat.le_of_ble_eq_true rfl) ?_
                      obtain ⟨P129, hp130, hb⟩ := hb
                      replace hb : zHd _ := hb
                      refine ZV.imp (u_1289 hN hJ125.1 hp130) ?_
                      rintro _ ⟨M127, rfl, hJ128, hq131⟩
                      replace hb : zHd _ := hb  (zi M127) (zi_fr hJ128.2) hq131
                      have hJ133 := zJ_trans hJ125 hJ128 (zSub_cons (fun _ _ h h' hk => zIR_s (zIR_s (zIR_s (zIR_s (zIR_s (zIR_s (zIR_e (by omega) (by omega) hk))))))) zSub_nil)
                      show ZW _ _ _ _ _ _ _ (219, [some (.ref 2), some (.int 6), some (.int v99_2), some (.int v99_3)], [], M127)
                      refine w_ic dX5_readPart_219 zi_1 ?_
                      refine w_en dX5_readPart_220 rfl ?_
                      exact ⟨_, _, rfl, (by have := zt_1; omega), (by have := zt_1; omega), hJ133, hb⟩
                    · skip
                      replace hb : zHd _ := hb.2 h126
                      refine w_ine_f dX5_readPart_206 (t := 215) rfl (by omega) ?_
                      refine w_lo dX5_readPart_209 rfl rfl rfl rfl ?_
                      refine w_ic dX5_readPart_210 zi_1 ?_
                      refine w_iv dX5_readPart_211 rfl rfl (As := [.int 1]) rfl rfl hJ125.1.1 zs_2 (Nat.le_of_ble_eq_true rfl) ?_
                      obtain ⟨P136, hp137, hb⟩ := hb
                      replace hb : zHd _ := hb
                      have hp137c : b_1286 (zi M116) (1 : Int32).toInt P136 := by rw [zt_1]; exact hp137
                      refine ZV.imp (u_1286 1 (by have := zt_1; omega) (by have := zt_1; omega) hN hJ125.1 hp137c) ?_
                      rintro _ ⟨x139, M134, rfl, h140, h141, hJ135, hq138⟩
                      replace hb : zHd _ := hb x139.toInt h140 h141 (zi M134) (zi_fr hJ135.2) hq138
                      have hJ143 := zJ_trans hJ125 hJ135 (zSub_cons (fun _ _ h h' hk => zIR_e (by omega) (by omega) hk) (zSub_cons (fun _ _ h h' hk => zIR_s (zIR_e (by omega) (by omega) hk)) zSub_nil))
                      show ZW _ _ _ _ _ _ _ (214, [some (.ref 2), some (.int 6), some (.int v99_2), some (.int v99_3)], [.int x139], M134)
                      refine w_eni dX5_readPart_214 rfl (znb (by omega) (by omega)) ?_
                      exact ⟨_, _, rfl, (by omega), (by omega), hJ143, hb⟩
                · skip
                  replace hb : zHd _ := hb.2 h68
                  refine w_ine_f dX5_readPart_172 (t := 177) rfl (by omega) ?_
                  refine w_ic dX5_readPart_175 zi_0 ?_
                  refine w_en dX5_readPart_176 rfl ?_
                  exact ⟨_, _, rfl, (by have := zt_0; omega), (by have := zt_0; omega), hJ67, hb⟩
              · skip
                replace hb : zHd _ := hb.2 h50
                refine w_ine_f dX5_readPart_152 (t := 161) rfl (by omega) ?_
                refine w_lo dX5_readPart_155 rfl rfl rfl rfl ?_
                refine w_ic dX5_readPart_156 zi_1 ?_
                refine w_iv dX5_readPart_157 rfl rfl (As := [.int 1]) rfl rfl hJ49.1.1 zs_2 (Nat.le_of_ble_eq_true rfl) ?_
                obtain ⟨P146, hp147, hb⟩ := hb
                replace hb : zHd _ := hb
                have hp147c : b_1286 (zi M40) (1 : Int32).toInt P146 := by rw [zt_1]; exact hp147
                refine ZV.imp (u_1286 1 (by have := zt_1; omega) (by have := zt_1; omega) hN hJ49.1 hp147c) ?_
                rintro _ ⟨x149, M144, rfl, h150, h151, hJ145, hq148⟩
                replace hb : zHd _ := hb x149.toInt h150 h151 (zi M144) (zi_fr hJ145.2) hq148
                have hJ153 := zJ_trans hJ49 hJ145 (zSub_cons (fun _ _ h h' hk => zIR_e (by omega) (by omega) hk) (zSub_cons (fun _ _ h h' hk => zIR_s (zIR_e (by omega) (by omega) hk)) zSub_nil))
                show ZW _ _ _ _ _ _ _ (160, [some (.ref 2), some (.int 6), some (.int v99_2), some (.int v99_3)], [.int x149], M144)
                refine w_eni dX5_readPart_160 rfl (znb (by omega) (by omega)) ?_
                exact ⟨_, _, rfl, (by omega), (by omega), hJ153, hb⟩
            · skip
              replace hb : zHd _ := hb.2 h39
              refine w_ieq_t dX5_readPart_143 (t := 200) rfl (by omega) ?_
              refine w_lo dX5_readPart_200 rfl rfl rfl rfl ?_
              refine w_bi dX5_readPart_201 (c := 41) (by decide) ?_
              refine w_iv dX5_readPart_203 rfl rfl (As := [.int 41]) rfl rfl hJ37.1.1 zs_2 (Nat.le_of_ble_eq_true rfl) ?_
              obtain ⟨P156, hp157, hb⟩ := hb
              replace hb : zHd _ := hb
              have hp157c : b_1299 (zi M28) (41 : Int32).toInt P156 := by rw [zt_41]; exact hp157
              refine ZV.imp (u_1299 41 (by have := zt_41; omega) (by have := zt_41; omega) hN hJ37.1 hp157c) ?_
              rintro _ ⟨x159, M154, rfl, h160, h161, hJ155, hq158⟩
              replace hb : zHd _ := hb x159.toInt h160 h161 (zi M154) (zi_fr hJ155.2) hq158
              have hJ163 := zJ_trans hJ37 hJ155 zSub_nil
              show ZW _ _ _ _ _ _ _ (206, [some (.ref 2), some (.int 6), some (.int v99_2), some (.int v99_3)], [.int x159], M154)
              rcases Int.decEq x159.toInt (0 : Int) with h164 | h164
              · skip
                replace hb : zHd _ := hb.1 h164
                refine w_ine_t dX5_readPart_206 (t := 215) rfl (by omega) ?_
                refine w_lo dX5_readPart_215 rfl rfl rfl rfl ?_
                refine w_iv dX5_readPart_216 rfl rfl (As := []) rfl rfl hJ163.1.1 zs_2 (Nat.le_of_ble_eq_true rfl) ?_
                obtain ⟨P167, hp168, hb⟩ := hb
                replace hb : zHd _ := hb
                refine ZV.imp (u_1289 hN hJ163.1 hp168) ?_
                rintro _ ⟨M165, rfl, hJ166, hq169⟩
                replace hb : zHd _ := hb  (zi M165) (zi_fr hJ166.2) hq169
                have hJ171 := zJ_trans hJ163 hJ166 (zSub_cons (fun _ _ h h' hk => zIR_s (zIR_s (zIR_s (zIR_s (zIR_s (zIR_s (zIR_e (by omega) (by omega) hk))))))) zSub_nil)
                show ZW _ _ _ _ _ _ _ (219, [some (.ref 2), some (.int 6), some (.int v99_2), some (.int v99_3)], [], M165)
                refine w_ic dX5_readPart_219 zi_1 ?_
                refine w_en dX5_readPart_220 rfl ?_
                exact ⟨_, _, rfl, (by have := zt_1; omega), (by have := zt_1; omega), hJ171, hb⟩
              · skip
                replace hb : zHd _ := hb.2 h164
                refine w_ine_f dX5_readPart_206 (t := 215) rfl (by omega) ?_
                refine w_lo dX5_readPart_209 rfl rfl rfl rfl ?_
                refine w_ic dX5_readPart_210 zi_1 ?_
                refine w_iv dX5_readPart_211 rfl rfl (As := [.int 1]) rfl rfl hJ163.1.1 zs_2 (Nat.le_of_ble_eq_true rfl) ?_
                obtain ⟨P174, hp175, hb⟩ := hb
                replace hb : zHd _ := hb
                have hp175c : b_1286 (zi M154) (1 : Int32).toInt P174 := by rw [zt_1]; exact hp175
                refine ZV.imp (u_1286 1 (by have := zt_1; omega) (by have := zt_1; omega) hN hJ163.1 hp175c) ?_
                rintro _ ⟨x177, M172, rfl, h178, h179, hJ173, hq176⟩
                replace hb : zHd _ := hb x177.toInt h178 h179 (zi M172) (zi_fr hJ173.2) hq176
                have hJ181 := zJ_trans hJ163 hJ173 (zSub_cons (fun _ _ h h' hk => zIR_e (by omega) (by omega) hk) (zSub_cons (fun _ _ h h' hk => zIR_s (zIR_e (by omega) (by omega) hk)) zSub_nil))
                show ZW _ _ _ _ _ _ _ (214, [some (.ref 2), some (.int 6), some (.int v99_2), some (.int v99_3)], [.int x177], M172)
                refine w_eni dX5_readPart_214 rfl (znb (by omega) (by omega)) ?_
                exact ⟨_, _, rfl, (by omega), (by omega), hJ181, hb⟩
          · skip
            replace hb : zHd _ := hb.2 h38
            refine w_ine_f dX5_readPart_137 (t := 142) rfl (by omega) ?_
            refine w_ic dX5_readPart_140 zi_0 ?_
            refine w_en dX5_readPart_141 rfl ?_
            exact ⟨_, _, rfl, (by have := zt_0; omega), (by have := zt_0; omega), hJ37, hb⟩
        · skip
          replace hb : zHd _ := hb.2 h20
          refine w_ine_f dX5_readPart_105 (t := 114) rfl (by omega) ?_
          refine w_lo dX5_readPart_108 rfl rfl rfl rfl ?_
          refine w_ic dX5_readPart_109 zi_1 ?_
          refine w_iv dX5_readPart_110 rfl rfl (As := [.int 1]) rfl rfl hJ19.1.1 zs_2 (Nat.le_of_ble_eq_true rfl) ?_
          obtain ⟨P184, hp185, hb⟩ := hb
          replace hb : zHd _ := hb
          have hp185c : b_1286 (zi M10) (1 : Int32).toInt P184 := by rw [zt_1]; exact hp185
          refine ZV.imp (u_1286 1 (by have := zt_1; omega) (by have := zt_1; omega) hN hJ19.1 hp185c) ?_
          rintro _ ⟨x187, M182, rfl, h188, h189, hJ183, hq186⟩
          replace hb : zHd _ := hb x187.toInt h188 h189 (zi M182) (zi_fr hJ183.2) hq186
          have hJ191 := zJ_trans hJ19 hJ183 (zSub_cons (fun _ _ h h' hk => zIR_e (by omega) (by omega) hk) (zSub_cons (fun _ _ h h' hk => zIR_s (zIR_e (by omega) (by omega) hk)) zSub_nil))
          show ZW _ _ _ _ _ _ _ (113, [some (.ref 2), some (.int 6), some (.int v99_2), some (.int v99_3)], [.int x187], M182)
          refine w_eni dX5_readPart_113 rfl (znb (by omega) (by omega)) ?_
          exact ⟨_, _, rfl, (by omega), (by omega), hJ191, hb⟩
  have hb : zHd _ := hbE
  show ZW _ _ _ _ _ _ _ (0, [some (.ref 2), some (.int 6), none, none], [], M0)
  refine w_lo dX5_readPart_0 rfl rfl rfl rfl ?_
  refine w_gf dX5_readPart_1 rfl hJ0.1.1 zs_2 (zr_2_3 hJ0.1) ?_
  refine w_lo dX5_readPart_4 rfl rfl rfl rfl ?_
  refine w_gfi dX5_readPart_5 rfl hJ0.1 zs_2 (Nat.le_of_ble_eq_true rfl) zo_2_7 ?_
  intro x192 f193 h194 h195
  replace hb : zHd _ := hb x192.toInt (ziE f193) h194 h195
  refine w_iai dX5_readPart_8 hJ0.1 zs_4 (by omega) (by omega) zu_4 ?_
  intro x199 f196 h197 h198
  replace hb : zHd _ := hb x199.toInt (ziEk f196 rfl) h197 h198
  refine w_ic dX5_readPart_9 zi_4 ?_
  rcases Int.decEq x199.toInt (4 : Int) with h200 | h200
  · skip
    replace hb : zHd _ := hb.1 h200
    refine w_cne_t dX5_readPart_10 (t := 38) rfl (by have := zt_4; omega) ?_
    refine w_lo dX5_readPart_38 rfl rfl rfl rfl ?_
    refine w_iv dX5_readPart_39 rfl rfl (As := []) rfl rfl hJ0.1.1 zs_2 (Nat.le_of_ble_eq_true rfl) ?_
    obtain ⟨P203, hp204, hb⟩ := hb
    replace hb : zHd _ := hb
    refine ZV.imp (u_1287 hN hJ0.1 hp204) ?_
    rintro _ ⟨x206, M201, rfl, h207, h208, hJ202, hq205⟩
    replace hb : zHd _ := hb x206.toInt h207 h208 (zi M201) (zi_fr hJ202.2) hq205
    have hJ210 := zJ_trans hJ0 hJ202 zSub_nil
    show ZW _ _ _ _ _ _ _ (42, [some (.ref 2), some (.int 6), none, none], [.int x206], M201)
    refine w_lo (ml' := [some (.ref 2), some (.int 6), some (.int x206), none]) dX5_readPart_42 rfl rfl rfl rfl ?_
    refine w_lo dX5_readPart_43 rfl rfl rfl rfl ?_
    refine w_ic dX5_readPart_44 zi_m1 ?_
    rcases Int.decEq x206.toInt (-1 : Int) with h211 | h211
    · skip
      replace hb : zHd _ := hb.1 h211
      refine w_ceq_f dX5_readPart_45 (t := 73) rfl (by have := zt_m1; omega) ?_
      refine w_lo dX5_readPart_48 rfl rfl rfl rfl ?_
      refine w_bi dX5_readPart_49 (c := 7) (by decide) ?_
      rcases zcut x206.toInt (7 : Int) with h212 | h212
      · skip
        replace hb : zHd _ := hb.1 h212
        refine w_cge_f dX5_readPart_51 (t := 73) rfl (by have := zt_7; omega) ?_
        refine w_lo dX5_readPart_54 rfl rfl rfl rfl ?_
        obtain ⟨b213, f214, h215⟩ := zd_2_8 hJ210.1
        have h216 := zDm_b h215
        refine w_gf dX5_readPart_55 rfl hJ210.1.1 zs_2 f214 ?_
        replace hb : zHd _ := hb b213 (ziR f214) (zDm_or h215)
        refine w_gf dX5_readPart_58 rfl hJ210.1.1 (zs_1_0 h215) (zr_1_0_15 h215 hJ210.1) ?_
        refine w_ic dX5_readPart_61 zi_m1 ?_
        refine w_lo dX5_readPart_62 rfl rfl rfl rfl ?_
        refine w_sub dX5_readPart_63 (by have := zt_m1; omega) ?_
        intro x217 h218
        have := zt_m1
        replace hb : zHd _ := hb x217.toInt (by have := zt_m1; omega)
        refine w_iv dX5_readPart_64 rfl rfl (As := [.int x217]) rfl rfl hJ210.1.1 (zs_1_13 h215) (Nat.le_of_ble_eq_true rfl) ?_
        obtain ⟨P221, hp222, hb⟩ := hb
        replace hb : zHd _ := hb
        refine ZV.imp (u_515 (b213 + 13) (zLw_of h215) x217 hN hJ210.1 hp222) ?_
        rintro _ ⟨M219, rfl, hJ220, hq223⟩
        replace hb : zHd _ := hb  (zi M219) (zi_fr hJ220.2) hq223
        have hJ225 := zJ_trans hJ210 hJ220 (zSub_cons (fun _ _ h h' hk => ((zDm_or h215).elim (fun e => zIR_s (zIR_s (zIR_e (by omega) (by omega) hk))) (fun e => zIR_s (zIR_s (zIR_s (zIR_e (by omega) (by omega) hk)))))) (zSub_cons (fun _ _ h h' hk => ((zDm_or h215).elim (fun e => zIR_s (zIR_s (zIR_s (zIR_s (zIR_a (by omega) (by omega)))))) (fun e => zIR_s (zIR_s (zIR_s (zIR_s (zIR_s (zIR_a (by omega) (by omega))))))))) zSub_nil))
        show ZW _ _ _ _ _ _ _ (67, [some (.ref 2), some (.int 6), some (.int x206), none], [], M219)
        refine w_lo dX5_readPart_67 rfl rfl rfl rfl ?_
        refine w_iv dX5_readPart_68 rfl rfl (As := []) rfl rfl hJ225.1.1 zs_2 (Nat.le_of_ble_eq_true rfl) ?_
        obtain ⟨P228, hp229, hb⟩ := hb
        replace hb : zHd _ := hb
        refine ZV.imp (u_1289 hN hJ225.1 hp229) ?_
        rintro _ ⟨M226, rfl, hJ227, hq230⟩
        replace hb : zHd _ := hb  (zi M226) (zi_fr hJ227.2) hq230
        have hJ232 := zJ_trans hJ225 hJ227 (zSub_cons (fun _ _ h h' hk => zIR_s (zIR_s (zIR_s (zIR_s (zIR_s (zIR_s (zIR_e (by omega) (by omega) hk))))))) zSub_nil)
        show ZW _ _ _ _ _ _ _ (71, [some (.ref 2), some (.int 6), some (.int x206), none], [], M226)
        refine w_ic dX5_readPart_71 zi_1 ?_
        refine w_en dX5_readPart_72 rfl ?_
        exact ⟨_, _, rfl, (by have := zt_1; omega), (by have := zt_1; omega), hJ232, hb⟩
      · skip
        replace hb : zHd _ := hb.2 h212
        refine w_cge_t dX5_readPart_51 (t := 73) rfl (by have := zt_7; omega) ?_
        obtain ⟨m, hI⟩ := hb
        exact (main m).1 M201 x206 none hJ210 (by omega) (by omega) hI
    · skip
      replace hb : zHd _ := hb.2 h211
      refine w_ceq_t dX5_readPart_45 (t := 73) rfl (by have := zt_m1; omega) ?_
      obtain ⟨m, hI⟩ := hb
      exact (main m).1 M201 x206 none hJ210 (by omega) (by omega) hI
  · skip
    replace hb : zHd _ := hb.2 h200
    refine w_cne_f dX5_readPart_10 (t := 38) rfl (by have := zt_4; omega) ?_
    refine w_lo dX5_readPart_13 rfl rfl rfl rfl ?_
    obtain ⟨b233, f234, h235⟩ := zd_2_8 hJ0.1
    have h236 := zDm_b h235
    refine w_gf dX5_readPart_14 rfl hJ0.1.1 zs_2 f234 ?_
    replace hb : zHd _ := hb b233 (ziR f234) (zDm_or h235)
    refine w_gf dX5_readPart_17 rfl hJ0.1.1 (zs_1_0 h235) (zr_1_0_15 h235 hJ0.1) ?_
    refine w_lo dX5_readPart_20 rfl rfl rfl rfl ?_
    refine w_gf dX5_readPart_21 rfl hJ0.1.1 zs_2 (zr_2_4 hJ0.1) ?_
    refine w_lo dX5_readPart_24 rfl rfl rfl rfl ?_
    refine w_gf dX5_readPart_25 rfl hJ0.1.1 zs_2 f193 ?_
    refine w_iai dX5_readPart_28 hJ0.1 zs_5 (by omega) (by omega) zu_5 ?_
    intro x240 f237 h238 h239
    replace hb : zHd _ := hb x240.toInt (ziEk f237 rfl)
    refine w_iv dX5_readPart_29 rfl rfl (As := [.int x240]) rfl rfl hJ0.1.1 (zs_1_13 h235) (Nat.le_of_ble_eq_true rfl) ?_
    obtain ⟨P243, hp244, hb⟩ := hb
    replace hb : zHd _ := hb
    refine ZV.imp (u_515 (b233 + 13) (zLw_of h235) x240 hN hJ0.1 hp244) ?_
    rintro _ ⟨M241, rfl, hJ242, hq245⟩
    replace hb : zHd _ := hb  (zi M241) (zi_fr hJ242.2) hq245
    have hJ247 := zJ_trans hJ0 hJ242 (zSub_cons (fun _ _ h h' hk => ((zDm_or h235).elim (fun e => zIR_s (zIR_s (zIR_e (by omega) (by omega) hk))) (fun e => zIR_s (zIR_s (zIR_s (zIR_e (by omega) (by omega) hk)))))) (zSub_cons (fun _ _ h h' hk => ((zDm_or h235).elim (fun e => zIR_s (zIR_s (zIR_s (zIR_s (zIR_a (by omega) (by omega)))))) (fun e => zIR_s (zIR_s (zIR_s (zIR_s (zIR_s (zIR_a (by omega) (by omega))))))))) zSub_nil))
    show ZW _ _ _ _ _ _ _ (32, [some (.ref 2), some (.int 6), none, none], [], M241)
    refine w_lo dX5_readPart_32 rfl rfl rfl rfl ?_
    refine w_iv dX5_readPart_33 rfl rfl (As := []) rfl rfl hJ247.1.1 zs_2 (Nat.le_of_ble_eq_true rfl) ?_
    obtain ⟨P250, hp251, hb⟩ := hb
    replace hb : zHd _ := hb
    refine ZV.imp (u_1289 hN hJ247.1 hp251) ?_
    rintro _ ⟨M248, rfl, hJ249, hq252⟩
    replace hb : zHd _ := hb  (zi M248) (zi_fr hJ249.2) hq252
    have hJ254 := zJ_trans hJ247 hJ249 (zSub_cons (fun _ _ h h' hk => zIR_s (zIR_s (zIR_s (zIR_s (zIR_s (zIR_s (zIR_e (by omega) (by omega) hk))))))) zSub_nil)
    show ZW _ _ _ _ _ _ _ (36, [some (.ref 2), some (.int 6), none, none], [], M248)
    refine w_ic dX5_readPart_36 zi_1 ?_
    refine w_en dX5_readPart_37 rfl ?_
    exact ⟨_, _, rfl, (by have := zt_1; omega), (by have := zt_1; omega), hJ254, hb⟩
set_option maxRecDepth 100000 in
theorem u_1297_c6 {X : List Int32} {d N : Nat} {M0 : zM}  (hN : N ≤ 600) (hB0 : zB N M0) {Q : Int → zF → Prop} (hb : b_1297_c6 (zi M0) Q) : ZV X (d + 7) 1297 [.ref 2, .int 6] M0 (zRI N [(2, 3, 0), (2, 3, 1), (20, 21, 1), (41, 42, 1), (21, 22, 1000), (42, 43, 1000), (2, 3, 7)] M0 (0) (1) (fun v M' => Q v.toInt (zi M'))) := by
  have hJ0 : zJ N [(2, 3, 0), (2, 3, 1), (20, 21, 1), (41, 42, 1), (21, 22, 1000), (42, 43, 1000), (2, 3, 7)] M0 M0 := zJ_refl hB0
  refine ZV.of (ini := false) rfl (Nat.le_of_ble_eq_true rfl) (by decide +kernel) ?_
  obtain ⟨I4, I17, I52, I95, I115, I130, hbE, hb4, hb17, hb52, hb95, hb115, hb130⟩ := hb
  replace hbE : zHd _ := hbE
  replace hb4 : zHd _ := hb4
  replace hb17 : zHd _ := hb17
  replace hb52 : zHd _ := hb52
  replace hb95 : zHd _ := hb95
  replace hb115 : zHd _ := hb115
  replace hb130 : zHd _ := hb130
  have main : ∀ n : Nat,
      (∀ (M : zM) (v4_2 : Int32) (v4_3 : Int32) (o4_4 : Option Value) (o4_5 : Option Value), zJ N [(2, 3, 0), (2, 3, 1), (20, 21, 1), (41, 42, 1), (21, 22, 1000), (42, 43, 1000), (2, 3, 7)] M0 M → ((-13 : Int) ≤ v4_2.toInt) → (v4_2.toInt ≤ 0) → ((0 : Int) ≤ v4_3.toInt) → (v4_3.toInt ≤ 1601) → I4 n (zi M) v4_2.toInt v4_3.toInt → ZW X (d + 6) 5 false (some .boolean) cX5_readSum (zRI N [(2, 3, 0), (2, 3, 1), (20, 21, 1), (41, 42, 1), (21, 22, 1000), (42, 43, 1000), (2, 3, 7)] M0 (0) (1) (fun v M' => Q v.toInt (zi M'))) (4, [some (.ref 2), some (.int 6), some (.int v4_2), some (.int v4_3), o4_4, o4_5], [], M)) ∧
      (∀ (M : zM) (v17_2 : Int32) (v17_3 : Int32) (v17_4 : Int32) (v17_5 : Int32), zJ N [(2, 3, 0), (2, 3, 1), (20, 21, 1), (41, 42, 1), (21, 22, 1000), (42, 43, 1000), (2, 3, 7)] M0 M → ((-2147483648 : Int) ≤ v17_2.toInt) → (v17_2.toInt ≤ 0) → ((0 : Int) ≤ v17_3.toInt) → (v17_3.toInt ≤ 1600) → ((-11 : Int) ≤ v17_4.toInt) → (v17_4.toInt ≤ 0) → ((0 : Int) ≤ v17_5.toInt) → (v17_5.toInt ≤ 1601) → I17 n (zi M) v17_2.toInt v17_3.toInt v17_4.toInt v17_5.toInt → ZW X (d + 6) 5 false (some .boolean) cX5_readSum (zRI N [(2, 3, 0), (2, 3, 1), (20, 21, 1), (41, 42, 1), (21, 22, 1000), (42, 43, 1000), (2, 3, 7)] M0 (0) (1) (fun v M' => Q v.toInt (zi M'))) (17, [some (.ref 2), some (.int 6), some (.int v17_2), some (.int v17_3), some (.int v17_4), some (.int v17_5)], [], M)) ∧
      (∀ (M : zM) (v52_2 : Int32) (v52_3 : Int32) (u52_4 : Int32) (v52_5 : Int32), zJ N [(2, 3, 0), (2, 3, 1), (20, 21, 1), (41, 42, 1), (21, 22, 1000), (42, 43, 1000), (2, 3, 7)] M0 M → ((-2147483648 : Int) ≤ v52_2.toInt) → (v52_2.toInt ≤ 0) → ((0 : Int) ≤ v52_3.toInt) → (v52_3.toInt ≤ 1600) → ((0 : Int) ≤ v52_5.toInt) → (v52_5.toInt ≤ 1600) → I52 n (zi M) v52_2.toInt v52_3.toInt v52_5.toInt → ZW X (d + 6) 5 false (some .boolean) cX5_readSum (zRI N [(2, 3, 0), (2, 3, 1), (20, 21, 1), (41, 42, 1), (21, 22, 1000), (42, 43, 1000), (2, 3, 7)] M0 (0) (1) (fun v M' => Q v.toInt (zi M'))) (52, [some (.ref 2), some (.int 6), some (.int v52_2), some (.int v52_3), some (.int u52_4), some (.int v52_5)], [], M)) ∧
      (∀ (M : zM) (v95_2 : Int32) (v95_3 : Int32) (u95_4 : Int32) (v95_5 : Int32) (s95_0 : Int32), zJ N [(2, 3, 0), (2, 3, 1), (20, 21, 1), (41, 42, 1), (21, 22, 1000), (42, 43, 1000), (2, 3, 7)] M0 M → ((-2147483648 : Int) ≤ v95_2.toInt) → (v95_2.toInt ≤ 0) → ((0 : Int) ≤ v95_3.toInt) → (v95_3.toInt ≤ 1600) → ((0 : Int) ≤ v95_5.toInt) → (v95_5.toInt ≤ 1600) → ((-11 : Int) ≤ s95_0.toInt) → (s95_0.toInt ≤ 0) → I95 n (zi M) v95_2.toInt v95_3.toInt v95_5.toInt s95_0.toInt → ZW X (d + 6) 5 false (some .boolean) cX5_readSum (zRI N [(2, 3, 0), (2, 3, 1), (20, 21, 1), (41, 42, 1), (21, 22, 1000), (42, 43, 1000), (2, 3, 7)] M0 (0) (1) (fun v M' => Q v.toInt (zi M'))) (95, [some (.ref 2), some (.int 6), some (.int v95_2), some (.int v95_3), some (.int u95_4), some (.int v95_5)], [.int s95_0], M)) ∧
      (∀ (M : zM) (v115_2 : Int32) (v115_3 : Int32) (u115_4 : Int32) (u115_5 : Int32), zJ N [(2, 3, 0), (2, 3, 1), (20, 21, 1), (41, 42, 1), (21, 22, 1000), (42, 43, 1000), (2, 3, 7)] M0 M → ((-2147483648 : Int) ≤ v115_2.toInt) → (v115_2.toInt ≤ 0) → ((0 : Int) ≤ v115_3.toInt) → (v115_3.toInt ≤ 1600) → I115 n (zi M) v115_2.toInt v115_3.toInt → ZW X (d + 6) 5 false (some .boolean) cX5_readSum (zRI N [(2, 3, 0), (2, 3, 1), (20, 21, 1), (41, 42, 1), (21, 22, 1000), (42, 43, 1000), (2, 3, 7)] M0 (0) (1) (fun v M' => Q v.toInt (zi M'))) (115, [some (.ref 2), some (.int 6), some (.int v115_2), some (.int v115_3), some (.int u115_4), some (.int u115_5)], [], M)) ∧
      (∀ (M : zM) (u130_2 : Int32) (v130_3 : Int32) (u130_4 : Int32) (u130_5 : Int32), zJ N [(2, 3, 0), (2, 3, 1), (20, 21, 1), (41, 42, 1), (21, 22, 1000), (42, 43, 1000), (2, 3, 7)] M0 M → ((0 : Int) ≤ v130_3.toInt) → (v130_3.toInt ≤ 1600) → I130 n (zi M) v130_3.toInt → ZW X (d + 6) 5 false (some .boolean) cX5_readSum (zRI N [(2, 3, 0), (2, 3, 1), (20, 21, 1), (41, 42, 1), (21, 22, 1000), (42, 43, 1000), (2, 3, 7)] M0 (0) (1) (fun v M' => Q v.toInt (zi M'))) (130, [some (.ref 2), some (.int 6), some (.int u130_2), some (.int v130_3), some (.int u130_4), some (.int u130_5)], [], M)) := by
    intro n
    induction n using Nat.strongRecOn with
    | _ n ih =>
      refine ⟨?_, ?_, ?_, ?_, ?_, ?_⟩
      · intro M v4_2 v4_3 o4_4 o4_5 hJ v4_20 v4_21 v4_30 v4_31 hI
        have hb : zHd _ := hb4 n (zi M) v4_2.toInt v4_3.toInt (zi_fr hJ.2) v4_20 v4_21 v4_30 v4_31 hI
        refine w_lo dX5_readSum_4 rfl rfl rfl rfl ?_
        refine w_si dX5_readSum_5 (c := 1600) (by decide) ?_
        rcases zcut (1600 : Int) v4_3.toInt with h1 | h1
        · skip
          replace hb : zHd _ := hb.1 h1
          refine w_cgt_t dX5_readSum_8 (t := 177) rfl (by have := zt_1600; omega) ?_
          refine w_ic dX5_readSum_177 zi_1 ?_
          refine w_en dX5_readSum_178 rfl ?_
          exact ⟨_, _, rfl, (by have := zt_1; omega), (by have := zt_1; omega), hJ, hb⟩
        · skip
          replace hb : zHd _ := hb.2 h1
          refine w_cgt_f dX5_readSum_8 (t := 177) rfl (by have := zt_1600; omega) ?_
          refine w_ic dX5_readSum_11 zi_0 ?_
          refine w_lo (ml' := [some (.ref 2), some (.int 6), some (.int v4_2), some (.int v4_3), some (.int 0), o4_5]) dX5_readSum_12 rfl rfl rfl rfl ?_
          refine w_ic dX5_readSum_14 zi_0 ?_
          refine w_lo (ml' := [some (.ref 2), some (.int 6), some (.int v4_2), some (.int v4_3), some (.int 0), some (.int 0)]) dX5_readSum_15 rfl rfl rfl rfl ?_
          obtain ⟨m, hm, hI⟩ := hb
          exact (ih m hm).2.1 M v4_2 v4_3 0 0 hJ (zbot _) (by omega) (by omega) (by omega) (by have := zt_0; omega) (by have := zt_0; omega) (by have := zt_0; omega) (by have := zt_0; omega) hI
      · intro M v17_2 v17_3 v17_4 v17_5 hJ v17_20 v17_21 v17_30 v17_31 v17_40 v17_41 v17_50 v17_51 hI
        have hb : zHd _ := hb17 n (zi M) v17_2.toInt v17_3.toInt v17_4.toInt v17_5.toInt (zi_fr hJ.2) v17_21 v17_30 v17_31 v17_40 v17_41 v17_50 v17_51 hI
        refine w_lo dX5_readSum_17 rfl rfl rfl rfl ?_
        refine w_si dX5_readSum_19 (c := 1600) (by decide) ?_
        rcases zcut (1600 : Int) v17_5.toInt with h2 | h2
        · skip
          replace hb : zHd _ := hb.1 h2
          refine w_cgt_t dX5_readSum_22 (t := 115) rfl (by have := zt_1600; omega) ?_
          obtain ⟨m, hm, hI⟩ := hb
          exact (ih m hm).2.2.2.2.1 M v17_2 v17_3 v17_4 v17_5 hJ (zbot _) (by omega) (by omega) (by omega) hI
        · skip
          replace hb : zHd _ := hb.2 h2
          refine w_cgt_f dX5_readSum_22 (t := 115) rfl (by have := zt_1600; omega) ?_
          refine w_lo dX5_readSum_25 rfl rfl rfl rfl ?_
          refine w_lo dX5_readSum_26 rfl rfl rfl rfl ?_
          refine w_iv dX5_readSum_27 rfl rfl (As := [.int 6]) rfl rfl hJ.1.1 zs_2 (Nat.le_of_ble_eq_true rfl) ?_
          obtain ⟨P5, hp6, hb⟩ := hb
          replace hb : zHd _ := hb
          refine ZV.imp (u_1298_c6 hN hJ.1 hp6) ?_
          rintro _ ⟨x8, M3, rfl, h9, h10, hJ4, hq7⟩
          replace hb : zHd _ := hb x8.toInt h9 h10 (zi M3) (zi_fr hJ4.2) hq7
          have hJ12 := zJ_trans hJ hJ4 (zSub_cons (fun _ _ h h' hk => zIR_e (by omega) (by omega) hk) (zSub_cons (fun _ _ h h' hk => zIR_s (zIR_e (by omega) (by omega) hk)) (zSub_cons (fun _ _ h h' hk => zIR_s (zIR_s (zIR_e (by omega) (by omega) hk))) (zSub_cons (fun _ _ h h' hk => zIR_s (zIR_s (zIR_s (zIR_e (by omega) (by omega) hk)))) (zSub_cons (fun _ _ h h' hk => zIR_s (zIR_s (zIR_s (zIR_s (zIR_a (by omega) (by omega)))))) (zSub_cons (fun _ _ h h' hk => zIR_s (zIR_s (zIR_s (zIR_s (zIR_s (zIR_a (by omega) (by omega))))))) (zSub_cons (fun _ _ h h' hk => zIR_s (zIR_s (zIR_s (zIR_s (zIR_s (zIR_s (zIR_e (by omega) (by omega) hk))))))) zSub_nil)))))))
          show ZW _ _ _ _ _ _ _ (30, [some (.ref 2), some (.int 6), some (.int v17_2), some (.int v17_3), some (.int v17_4), some (.int v17_5)], [.int x8], M3)
          rcases Int.decEq x8.toInt (0 : Int) with h13 | h13
          · skip
            replace hb : zHd _ := hb.1 h13
            refine w_ine_t dX5_readSum_30 (t := 35) rfl (by omega) ?_
            refine w_lo dX5_readSum_35 rfl rfl rfl rfl ?_
            rcases Int.decEq v17_4.toInt (0 : Int) with h14 | h14
            · skip
              replace hb : zHd _ := hb.1 h14
              refine w_ieq_f dX5_readSum_37 (t := 52) rfl (by omega) ?_
              refine w_lo dX5_readSum_40 rfl rfl rfl rfl ?_
              obtain ⟨b15, f16, h17⟩ := zd_2_8 hJ12.1
              have h18 := zDm_b h17
              refine w_gf dX5_readSum_41 rfl hJ12.1.1 zs_2 f16 ?_
              replace hb : zHd _ := hb b15 (ziR f16) (zDm_or h17)
              refine w_gf dX5_readSum_44 rfl hJ12.1.1 (zs_1_0 h17) (zr_1_0_15 h17 hJ12.1) ?_
              refine w_lo dX5_readSum_47 rfl rfl rfl rfl ?_
              refine w_iv dX5_readSum_49 rfl rfl (As := [.int v17_4]) rfl rfl hJ12.1.1 (zs_1_13 h17) (Nat.le_of_ble_eq_true rfl) ?_
              obtain ⟨P21, hp22, hb⟩ := hb
              replace hb : zHd _ := hb
              refine ZV.imp (u_515 (b15 + 13) (zLw_of h17) v17_4 hN hJ12.1 hp22) ?_
              rintro _ ⟨M19, rfl, hJ20, hq23⟩
              replace hb : zHd _ := hb  (zi M19) (zi_fr hJ20.2) hq23
              have hJ25 := zJ_trans hJ12 hJ20 (zSub_cons (fun _ _ h h' hk => ((zDm_or h17).elim (fun e => zIR_s (zIR_s (zIR_e (by omega) (by omega) hk))) (fun e => zIR_s (zIR_s (zIR_s (zIR_e (by omega) (by omega) hk)))))) (zSub_cons (fun _ _ h h' hk => ((zDm_or h17).elim (fun e => zIR_s (zIR_s (zIR_s (zIR_s (zIR_a (by omega) (by omega)))))) (fun e => zIR_s (zIR_s (zIR_s (zIR_s (zIR_s (zIR_a (by omega) (by omega))))))))) zSub_nil))
              show ZW _ _ _ _ _ _ _ (52, [some (.ref 2), some (.int 6), some (.int v17_2), some (.int v17_3), some (.int v17_4), some (.int v17_5)], [], M19)
              obtain ⟨m, hm, hI⟩ := hb
              exact (ih m hm).2.2.1 M19 v17_2 v17_3 v17_4 v17_5 hJ25 (zbot _) (by omega) (by omega) (by omega) (by omega) (by omega) hI
            · skip
              replace hb : zHd _ := hb.2 h14
              refine w_ieq_t dX5_readSum_37 (t := 52) rfl (by omega) ?_
              obtain ⟨m, hm, hI⟩ := hb
              exact (ih m hm).2.2.1 M3 v17_2 v17_3 v17_4 v17_5 hJ12 (zbot _) (by omega) (by omega) (by omega) (by omega) (by omega) hI
          · skip
            replace hb : zHd _ := hb.2 h13
            refine w_ine_f dX5_readSum_30 (t := 35) rfl (by omega) ?_
            refine w_ic dX5_readSum_33 zi_0 ?_
            refine w_en dX5_readSum_34 rfl ?_
            exact ⟨_, _, rfl, (by have := zt_0; omega), (by have := zt_0; omega), hJ12, hb⟩
      · intro M v52_2 v52_3 u52_4 v52_5 hJ v52_20 v52_21 v52_30 v52_31 v52_50 v52_51 hI
        have hb : zHd _ := hb52 n (zi M) v52_2.toInt v52_3.toInt v52_5.toInt (zi_fr hJ.2) v52_21 v52_30 v52_31 v52_50 v52_51 hI
        refine w_lo dX5_readSum_52 rfl rfl rfl rfl ?_
        refine w_bi dX5_readSum_53 (c := 42) (by decide) ?_
        refine w_iv dX5_readSum_55 rfl rfl (As := [.int 42]) rfl rfl hJ.1.1 zs_2 (Nat.le_of_ble_eq_true rfl) ?_
        obtain ⟨P28, hp29, hb⟩ := hb
        replace hb : zHd _ := hb
        have hp29c : b_1299 (zi M) (42 : Int32).toInt P28 := by rw [zt_42]; exact hp29
        refine ZV.imp (u_1299 42 (by have := zt_42; omega) (by have := zt_42; omega) hN hJ.1 hp29c) ?_
        rintro _ ⟨x31, M26, rfl, h32, h33, hJ27, hq30⟩
        replace hb : zHd _ := hb x31.toInt h32 h33 (zi M26) (zi_fr hJ27.2) hq30
        have hJ35 := zJ_trans hJ hJ27 zSub_nil
        show ZW _ _ _ _ _ _ _ (58, [some (.ref 2), some (.int 6), some (.int v52_2), some (.int v52_3), some (.int u52_4), some (.int v52_5)], [.int x31], M26)
        rcases Int.decEq x31.toInt (0 : Int) with h36 | h36
        · skip
          replace hb : zHd _ := hb.1 h36
          refine w_ieq_f dX5_readSum_58 (t := 66) rfl (by omega) ?_
          refine w_bi dX5_readSum_61 (c := (-9)) (by decide) ?_
          refine w_gt dX5_readSum_63 (t := 95) rfl ?_
          obtain ⟨m, hm, hI⟩ := hb
          exact (ih m hm).2.2.2.1 M26 v52_2 v52_3 u52_4 v52_5 (-9) hJ35 (zbot _) (by omega) (by omega) (by omega) (by omega) (by omega) (by have := zt_m9; omega) (by have := zt_m9; omega) hI
        · skip
          replace hb : zHd _ := hb.2 h36
          refine w_ieq_t dX5_readSum_58 (t := 66) rfl (by omega) ?_
          refine w_lo dX5_readSum_66 rfl rfl rfl rfl ?_
          refine w_bi dX5_readSum_67 (c := 47) (by decide) ?_
          refine w_iv dX5_readSum_69 rfl rfl (As := [.int 47]) rfl rfl hJ35.1.1 zs_2 (Nat.le_of_ble_eq_true rfl) ?_
          obtain ⟨P39, hp40, hb⟩ := hb
          replace hb : zHd _ := hb
          have hp40c : b_1299 (zi M26) (47 : Int32).toInt P39 := by rw [zt_47]; exact hp40
          refine ZV.imp (u_1299 47 (by have := zt_47; omega) (by have := zt_47; omega) hN hJ35.1 hp40c) ?_
          rintro _ ⟨x42, M37, rfl, h43, h44, hJ38, hq41⟩
          replace hb : zHd _ := hb x42.toInt h43 h44 (zi M37) (zi_fr hJ38.2) hq41
          have hJ46 := zJ_trans hJ35 hJ38 zSub_nil
          show ZW _ _ _ _ _ _ _ (72, [some (.ref 2), some (.int 6), some (.int v52_2), some (.int v52_3), some (.int u52_4), some (.int v52_5)], [.int x42], M37)
          rcases Int.decEq x42.toInt (0 : Int) with h47 | h47
          · skip
            replace hb : zHd _ := hb.1 h47
            refine w_ieq_f dX5_readSum_72 (t := 80) rfl (by omega) ?_
            refine w_bi dX5_readSum_75 (c := (-10)) (by decide) ?_
            refine w_gt dX5_readSum_77 (t := 95) rfl ?_
            obtain ⟨m, hm, hI⟩ := hb
            exact (ih m hm).2.2.2.1 M37 v52_2 v52_3 u52_4 v52_5 (-10) hJ46 (zbot _) (by omega) (by omega) (by omega) (by omega) (by omega) (by have := zt_m10; omega) (by have := zt_m10; omega) hI
          · skip
            replace hb : zHd _ := hb.2 h47
            refine w_ieq_t dX5_readSum_72 (t := 80) rfl (by omega) ?_
            refine w_lo dX5_readSum_80 rfl rfl rfl rfl ?_
            refine w_bi dX5_readSum_81 (c := 37) (by decide) ?_
            refine w_iv dX5_readSum_83 rfl rfl (As := [.int 37]) rfl rfl hJ46.1.1 zs_2 (Nat.le_of_ble_eq_true rfl) ?_
            obtain ⟨P50, hp51, hb⟩ := hb
            replace hb : zHd _ := hb
            have hp51c : b_1299 (zi M37) (37 : Int32).toInt P50 := by rw [zt_37]; exact hp51
            refine ZV.imp (u_1299 37 (by have := zt_37; omega) (by have := zt_37; omega) hN hJ46.1 hp51c) ?_
            rintro _ ⟨x53, M48, rfl, h54, h55, hJ49, hq52⟩
            replace hb : zHd _ := hb x53.toInt h54 h55 (zi M48) (zi_fr hJ49.2) hq52
            have hJ57 := zJ_trans hJ46 hJ49 zSub_nil
            show ZW _ _ _ _ _ _ _ (86, [some (.ref 2), some (.int 6), some (.int v52_2), some (.int v52_3), some (.int u52_4), some (.int v52_5)], [.int x53], M48)
            rcases Int.decEq x53.toInt (0 : Int) with h58 | h58
            · skip
              replace hb : zHd _ := hb.1 h58
              refine w_ieq_f dX5_readSum_86 (t := 94) rfl (by omega) ?_
              refine w_bi dX5_readSum_89 (c := (-11)) (by decide) ?_
              refine w_gt dX5_readSum_91 (t := 95) rfl ?_
              obtain ⟨m, hm, hI⟩ := hb
              exact (ih m hm).2.2.2.1 M48 v52_2 v52_3 u52_4 v52_5 (-11) hJ57 (zbot _) (by omega) (by omega) (by omega) (by omega) (by omega) (by have := zt_m11; omega) (by have := zt_m11; omega) hI
            · skip
              replace hb : zHd _ := hb.2 h58
              refine w_ieq_t dX5_readSum_86 (t := 94) rfl (by omega) ?_
              refine w_ic dX5_readSum_94 zi_0 ?_
              obtain ⟨m, hm, hI⟩ := hb
              exact (ih m hm).2.2.2.1 M48 v52_2 v52_3 u52_4 v52_5 0 hJ57 (zbot _) (by omega) (by omega) (by omega) (by omega) (by omega) (by have := zt_0; omega) (by have := zt_0; omega) hI
      · intro M v95_2 v95_3 u95_4 v95_5 s95_0 hJ v95_20 v95_21 v95_30 v95_31 v95_50 v95_51 s95_00 s95_01 hI
        have hb : zHd _ := hb95 n (zi M) v95_2.toInt v95_3.toInt v95_5.toInt s95_0.toInt (zi_fr hJ.2) v95_21 v95_30 v95_31 v95_50 v95_51 s95_00 s95_01 hI
        refine w_lo (ml' := [some (.ref 2), some (.int 6), some (.int v95_2), some (.int v95_3), some (.int s95_0), some (.int v95_5)]) dX5_readSum_95 rfl rfl rfl rfl ?_
        refine w_lo dX5_readSum_97 rfl rfl rfl rfl ?_
        rcases Int.decEq s95_0.toInt (0 : Int) with h59 | h59
        · skip
          replace hb : zHd _ := hb.1 h59
          refine w_ine_t dX5_readSum_99 (t := 105) rfl (by omega) ?_
          refine w_lo dX5_readSum_105 rfl rfl rfl rfl ?_
          refine w_iv dX5_readSum_106 rfl rfl (As := []) rfl rfl hJ.1.1 zs_2 (Nat.le_of_ble_eq_true rfl) ?_
          obtain ⟨P62, hp63, hb⟩ := hb
          replace hb : zHd _ := hb
          refine ZV.imp (u_1289 hN hJ.1 hp63) ?_
          rintro _ ⟨M60, rfl, hJ61, hq64⟩
          replace hb : zHd _ := hb  (zi M60) (zi_fr hJ61.2) hq64
          have hJ66 := zJ_trans hJ hJ61 (zSub_cons (fun _ _ h h' hk => zIR_s (zIR_s (zIR_s (zIR_s (zIR_s (zIR_s (zIR_e (by omega) (by omega) hk))))))) zSub_nil)
          show ZW _ _ _ _ _ _ _ (109, [some (.ref 2), some (.int 6), some (.int v95_2), some (.int v95_3), some (.int s95_0), some (.int v95_5)], [], M60)
          refine w_inc (kk := 5) dX5_readSum_109 rfl (m := 1) (by decide) (by omega) ?_
          intro x67 h68
          refine ⟨_, rfl, ?_⟩
          replace hb : zHd _ := hb x67.toInt h68
          show ZW _ _ _ _ _ _ _ (112, [some (.ref 2), some (.int 6), some (.int v95_2), some (.int v95_3), some (.int s95_0), some (.int x67)], [], M60)
          refine w_gt dX5_readSum_112 (t := 17) rfl ?_
          obtain ⟨m, hm, hI⟩ := hb
          exact (ih m hm).2.1 M60 v95_2 v95_3 s95_0 x67 hJ66 (zbot _) (by omega) (by omega) (by omega) (by omega) (by omega) (by omega) (by omega) hI
        · skip
          replace hb : zHd _ := hb.2 h59
          refine w_ine_f dX5_readSum_99 (t := 105) rfl (by omega) ?_
          refine w_gt dX5_readSum_102 (t := 115) rfl ?_
          obtain ⟨m, hm, hI⟩ := hb
          exact (ih m hm).2.2.2.2.1 M v95_2 v95_3 s95_0 v95_5 hJ (zbot _) (by omega) (by omega) (by omega) hI
      · intro M v115_2 v115_3 u115_4 u115_5 hJ v115_20 v115_21 v115_30 v115_31 hI
        have hb : zHd _ := hb115 n (zi M) v115_2.toInt v115_3.toInt (zi_fr hJ.2) v115_21 v115_30 v115_31 hI
        refine w_lo dX5_readSum_115 rfl rfl rfl rfl ?_
        rcases Int.decEq v115_2.toInt (0 : Int) with h69 | h69
        · skip
          replace hb : zHd _ := hb.1 h69
          refine w_ieq_f dX5_readSum_116 (t := 130) rfl (by omega) ?_
          refine w_lo dX5_readSum_119 rfl rfl rfl rfl ?_
          obtain ⟨b70, f71, h72⟩ := zd_2_8 hJ.1
          have h73 := zDm_b h72
          refine w_gf dX5_readSum_120 rfl hJ.1.1 zs_2 f71 ?_
          replace hb : zHd _ := hb b70 (ziR f71) (zDm_or h72)
          refine w_gf dX5_readSum_123 rfl hJ.1.1 (zs_1_0 h72) (zr_1_0_15 h72 hJ.1) ?_
          refine w_lo dX5_readSum_126 rfl rfl rfl rfl ?_
          refine w_iv dX5_readSum_127 rfl rfl (As := [.int v115_2]) rfl rfl hJ.1.1 (zs_1_13 h72) (Nat.le_of_ble_eq_true rfl) ?_
          obtain ⟨P76, hp77, hb⟩ := hb
          replace hb : zHd _ := hb
          refine ZV.imp (u_515 (b70 + 13) (zLw_of h72) v115_2 hN hJ.1 hp77) ?_
          rintro _ ⟨M74, rfl, hJ75, hq78⟩
          replace hb : zHd _ := hb  (zi M74) (zi_fr hJ75.2) hq78
          have hJ80 := zJ_trans hJ hJ75 (zSub_cons (fun _ _ h h' hk => ((zDm_or h72).elim (fun e => zIR_s (zIR_s (zIR_e (by omega) (by omega) hk))) (fun e => zIR_s (zIR_s (zIR_s (zIR_e (by omega) (by omega) hk)))))) (zSub_cons (fun _ _ h h' hk => ((zDm_or h72).elim (fun e => zIR_s (zIR_s (zIR_s (zIR_s (zIR_a (by omega) (by omega)))))) (fun e => zIR_s (zIR_s (zIR_s (zIR_s (zIR_s (zIR_a (by omega) (by omega))))))))) zSub_nil))
          show ZW _ _ _ _ _ _ _ (130, [some (.ref 2), some (.int 6), some (.int v115_2), some (.int v115_3), some (.int u115_4), some (.int u115_5)], [], M74)
          obtain ⟨m, hm, hI⟩ := hb
          exact (ih m hm).2.2.2.2.2 M74 v115_2 v115_3 u115_4 u115_5 hJ80 (by omega) (by omega) hI
        · skip
          replace hb : zHd _ := hb.2 h69
          refine w_ieq_t dX5_readSum_116 (t := 130) rfl (by omega) ?_
          obtain ⟨m, hm, hI⟩ := hb
          exact (ih m hm).2.2.2.2.2 M v115_2 v115_3 u115_4 u115_5 hJ (by omega) (by omega) hI
      · intro M u130_2 v130_3 u130_4 u130_5 hJ v130_30 v130_31 hI
        have hb : zHd _ := hb130 n (zi M) v130_3.toInt (zi_fr hJ.2) v130_30 v130_31 hI
        refine w_lo dX5_readSum_130 rfl rfl rfl rfl ?_
        refine w_bi dX5_readSum_131 (c := 43) (by decide) ?_
        refine w_iv dX5_readSum_133 rfl rfl (As := [.int 43]) rfl rfl hJ.1.1 zs_2 (Nat.le_of_ble_eq_true rfl) ?_
        obtain ⟨P83, hp84, hb⟩ := hb
        replace hb : zHd _ := hb
        have hp84c : b_1299 (zi M) (43 : Int32).toInt P83 := by rw [zt_43]; exact hp84
        refine ZV.imp (u_1299 43 (by have := zt_43; omega) (by have := zt_43; omega) hN hJ.1 hp84c) ?_
        rintro _ ⟨x86, M81, rfl, h87, h88, hJ82, hq85⟩
        replace hb : zHd _ := hb x86.toInt h87 h88 (zi M81) (zi_fr hJ82.2) hq85
        have hJ90 := zJ_trans hJ hJ82 zSub_nil
        show ZW _ _ _ _ _ _ _ (136, [some (.ref 2), some (.int 6), some (.int u130_2), some (.int v130_3), some (.int u130_4), some (.int u130_5)], [.int x86], M81)
        rcases Int.decEq x86.toInt (0 : Int) with h91 | h91
        · skip
          replace hb : zHd _ := hb.1 h91
          refine w_ieq_f dX5_readSum_136 (t := 144) rfl (by omega) ?_
          refine w_bi dX5_readSum_139 (c := (-12)) (by decide) ?_
          refine w_gt dX5_readSum_141 (t := 159) rfl ?_
          refine w_lo (ml' := [some (.ref 2), some (.int 6), some (.int (-12)), some (.int v130_3), some (.int u130_4), some (.int u130_5)]) dX5_readSum_159 rfl rfl rfl rfl ?_
          refine w_lo dX5_readSum_160 rfl rfl rfl rfl ?_
          refine w_ine_t dX5_readSum_161 (t := 167) rfl (by have := zt_m12; omega) ?_
          refine w_lo dX5_readSum_167 rfl rfl rfl rfl ?_
          refine w_iv dX5_readSum_168 rfl rfl (As := []) rfl rfl hJ90.1.1 zs_2 (Nat.le_of_ble_eq_true rfl) ?_
          obtain ⟨P94, hp95, hb⟩ := hb
          replace hb : zHd _ := hb
          refine ZV.imp (u_1289 hN hJ90.1 hp95) ?_
          rintro _ ⟨M92, rfl, hJ93, hq96⟩
          replace hb : zHd _ := hb  (zi M92) (zi_fr hJ93.2) hq96
          have hJ98 := zJ_trans hJ90 hJ93 (zSub_cons (fun _ _ h h' hk => zIR_s (zIR_s (zIR_s (zIR_s (zIR_s (zIR_s (zIR_e (by omega) (by omega) hk))))))) zSub_nil)
          show ZW _ _ _ _ _ _ _ (171, [some (.ref 2), some (.int 6), some (.int (-12)), some (.int v130_3), some (.int u130_4), some (.int u130_5)], [], M92)
          refine w_inc (kk := 3) dX5_readSum_171 rfl (m := 1) (by decide) (by omega) ?_
          intro x99 h100
          refine ⟨_, rfl, ?_⟩
          replace hb : zHd _ := hb x99.toInt h100
          show ZW _ _ _ _ _ _ _ (174, [some (.ref 2), some (.int 6), some (.int (-12)), some (.int x99), some (.int u130_4), some (.int u130_5)], [], M92)
          refine w_gt dX5_readSum_174 (t := 4) rfl ?_
          obtain ⟨m, hm, hI⟩ := hb
          exact (ih m hm).1 M92 (-12) x99 (some (.int u130_4)) (some (.int u130_5)) hJ98 (by have := zt_m12; omega) (by have := zt_m12; omega) (by omega) (by omega) hI
        · skip
          replace hb : zHd _ := hb.2 h91
          refine w_ieq_t dX5_readSum_136 (t := 144) rfl (by omega) ?_
          refine w_lo dX5_readSum_144 rfl rfl rfl rfl ?_
          refine w_bi dX5_readSum_145 (c := 45) (by decide) ?_
          refine w_iv dX5_readSum_147 rfl rfl (As := [.int 45]) rfl rfl hJ90.1.1 zs_2 (Nat.le_of_ble_eq_true rfl) ?_
          obtain ⟨P103, hp104, hb⟩ := hb
          replace hb : zHd _ := hb
          have hp104c : b_1299 (zi M81) (45 : Int32).toInt P103 := by rw [zt_45]; exact hp104
          refine ZV.imp (u_1299 45 (by have := zt_45; omega) (by have := zt_45; omega) hN hJ90.1 hp104c) ?_
          rintro _ ⟨x106, M101, rfl, h107, h108, hJ102, hq105⟩
          replace hb : zHd _ := hb x106.toInt h107 h108 (zi M101) (zi_fr hJ102.2) hq105
          have hJ110 := zJ_trans hJ90 hJ102 zSub_nil
          show ZW _ _ _ _ _ _ _ (150, [some (.ref 2), some (.int 6), some (.int u130_2), some (.int v130_3), some (.int u130_4), some (.int u130_5)], [.int x106], M101)
          rcases Int.decEq x106.toInt (0 : Int) with h111 | h111
          · skip
            replace hb : zHd _ := hb.1 h111
            refine w_ieq_f dX5_readSum_150 (t := 158) rfl (by omega) ?_
            refine w_bi dX5_readSum_153 (c := (-13)) (by decide) ?_
            refine w_gt dX5_readSum_155 (t := 159) rfl ?_
            refine w_lo (ml' := [some (.ref 2), some (.int 6), some (.int (-13)), some (.int v130_3), some (.int u130_4), some (.int u130_5)]) dX5_readSum_159 rfl rfl rfl rfl ?_
            refine w_lo dX5_readSum_160 rfl rfl rfl rfl ?_
            refine w_ine_t dX5_readSum_161 (t := 167) rfl (by have := zt_m13; omega) ?_
            refine w_lo dX5_readSum_167 rfl rfl rfl rfl ?_
            refine w_iv dX5_readSum_168 rfl rfl (As := []) rfl rfl hJ110.1.1 zs_2 (Nat.le_of_ble_eq_true rfl) ?_
            obtain ⟨P114, hp115, hb⟩ := hb
            replace hb : zHd _ := hb
            refine ZV.imp (u_1289 hN hJ110.1 hp115) ?_
            rintro _ ⟨M112, rfl, hJ113, hq116⟩
            replace hb : zHd _ := hb  (zi M112) (zi_fr hJ113.2) hq116
            have hJ118 := zJ_trans hJ110 hJ113 (zSub_cons (fun _ _ h h' hk => zIR_s (zIR_s (zIR_s (zIR_s (zIR_s (zIR_s (zIR_e (by omega) (by omega) hk))))))) zSub_nil)
            show ZW _ _ _ _ _ _ _ (171, [some (.ref 2), some (.int 6), some (.int (-13)), some (.int v130_3), some (.int u130_4), some (.int u130_5)], [], M112)
            refine w_inc (kk := 3) dX5_readSum_171 rfl (m := 1) (by decide) (by omega) ?_
            intro x119 h120
            refine ⟨_, rfl, ?_⟩
            replace hb : zHd _ := hb x119.toInt h120
            show ZW _ _ _ _ _ _ _ (174, [some (.ref 2), some (.int 6), some (.int (-13)), some (.int x119), some (.int u130_4), some (.int u130_5)], [], M112)
            refine w_gt dX5_readSum_174 (t := 4) rfl ?_
            obtain ⟨m, hm, hI⟩ := hb
            exact (ih m hm).1 M112 (-13) x119 (some (.int u130_4)) (some (.int u130_5)) hJ118 (by have := zt_m13; omega) (by have := zt_m13; omega) (by omega) (by omega) hI
          · skip
            replace hb : zHd _ := hb.2 h111
            refine w_ieq_t dX5_readSum_150 (t := 158) rfl (by omega) ?_
            refine w_ic dX5_readSum_158 zi_0 ?_
            refine w_lo (ml' := [some (.ref 2), some (.int 6), some (.int 0), some (.int v130_3), some (.int u130_4), some (.int u130_5)]) dX5_readSum_159 rfl rfl rfl rfl ?_
            refine w_lo dX5_readSum_160 rfl rfl rfl rfl ?_
            refine w_ine_f dX5_readSum_161 (t := 167) rfl (by have := zt_0; omega) ?_
            refine w_gt dX5_readSum_164 (t := 177) rfl ?_
            refine w_ic dX5_readSum_177 zi_1 ?_
            refine w_en dX5_readSum_178 rfl ?_
            exact ⟨_, _, rfl, (by have := zt_1; omega), (by have := zt_1; omega), hJ110, hb⟩
  have hb : zHd _ := hbE
  show ZW _ _ _ _ _ _ _ (0, [some (.ref 2), some (.int 6), none, none, none, none], [], M0)
  refine w_ic dX5_readSum_0 zi_0 ?_
  refine w_lo (ml' := [some (.ref 2), some (.int 6), some (.int 0), none, none, none]) dX5_readSum_1 rfl rfl rfl rfl ?_
  refine w_ic dX5_readSum_2 zi_0 ?_
  refine w_lo (ml' := [some (.ref 2), some (.int 6), some (.int 0), some (.int 0), none, none]) dX5_readSum_3 rfl rfl rfl rfl ?_
  obtain ⟨m, hI⟩ := hb
  exact (main m).1 M0 0 0 none none hJ0 (by have := zt_0; omega) (by have := zt_0; omega) (by have := zt_0; omega) (by have := zt_0; omega) hI
