/-! the class's methods come to an end, within the box (wip/safe/mks.py) -/
set_option maxRecDepth 100000 in
theorem k_1301_c7 {X : List Int32} {d N : Nat} {M0 : zM}  (hN : N ≤ 600) (hB0 : zB N M0) : ZV X (d + 6) 1301 [.ref 2, .int 7] M0 (zRI N [(2, 3, 0), (2, 3, 1), (20, 21, 1), (41, 42, 1), (21, 22, 1000), (42, 43, 1000), (2, 3, 7)] M0 (0) (1) (fun _ _ => True)) := by
  have hJ0 : zJ N [(2, 3, 0), (2, 3, 1), (20, 21, 1), (41, 42, 1), (21, 22, 1000), (42, 43, 1000), (2, 3, 7)] M0 M0 := zJ_refl hB0
  refine ZV.of (ini := false) rfl (Nat.le_of_ble_eq_true rfl) (by decide +kernel) ?_
  have main : ∀ n : Nat,
      (∀ (M : zM) (v2_2 : Int32) (o2_3 : Option Value), zJ N [(2, 3, 0), (2, 3, 1), (20, 21, 1), (41, 42, 1), (21, 22, 1000), (42, 43, 1000), (2, 3, 7)] M0 M → ((0 : Int) ≤ v2_2.toInt) → (v2_2.toInt ≤ 1601) → 5 * (1601 - v2_2.toInt) + 3 < (n : Int) → ZW X (d + 5) 5 false (some .boolean) cX5_readFact (zRI N [(2, 3, 0), (2, 3, 1), (20, 21, 1), (41, 42, 1), (21, 22, 1000), (42, 43, 1000), (2, 3, 7)] M0 (0) (1) (fun _ _ => True)) (2, [some (.ref 2), some (.int 7), some (.int v2_2), o2_3], [], M)) ∧
      (∀ (M : zM) (v28_2 : Int32) (o28_3 : Option Value), zJ N [(2, 3, 0), (2, 3, 1), (20, 21, 1), (41, 42, 1), (21, 22, 1000), (42, 43, 1000), (2, 3, 7)] M0 M → ((0 : Int) ≤ v28_2.toInt) → (v28_2.toInt ≤ 1601) → 2 < (n : Int) → ZW X (d + 5) 5 false (some .boolean) cX5_readFact (zRI N [(2, 3, 0), (2, 3, 1), (20, 21, 1), (41, 42, 1), (21, 22, 1000), (42, 43, 1000), (2, 3, 7)] M0 (0) (1) (fun _ _ => True)) (28, [some (.ref 2), some (.int 7), some (.int v28_2), o28_3], [], M)) ∧
      (∀ (M : zM) (v167_2 : Int32) (o167_3 : Option Value) (s167_0 : Int32), zJ N [(2, 3, 0), (2, 3, 1), (20, 21, 1), (41, 42, 1), (21, 22, 1000), (42, 43, 1000), (2, 3, 7)] M0 M → ((0 : Int) ≤ v167_2.toInt) → (v167_2.toInt ≤ 1601) → ((-16 : Int) ≤ s167_0.toInt) → (s167_0.toInt ≤ 0) → 1 < (n : Int) → ZW X (d + 5) 5 false (some .boolean) cX5_readFact (zRI N [(2, 3, 0), (2, 3, 1), (20, 21, 1), (41, 42, 1), (21, 22, 1000), (42, 43, 1000), (2, 3, 7)] M0 (0) (1) (fun _ _ => True)) (167, [some (.ref 2), some (.int 7), some (.int v167_2), o167_3], [.int s167_0], M)) := by
    intro n
    induction n with
    | zero =>
      exact ⟨(fun M v2_2 o2_3 hJ v2_20 v2_21 hn => absurd hn (by omega)), (fun M v28_2 o28_3 hJ v28_20 v28_21 hn => absurd hn (by omega)), (fun M v167_2 o167_3 s167_0 hJ v167_20 v167_21 s167_00 s167_01 hn => absurd hn (by omega))⟩
    | succ n ih =>
      obtain ⟨ih2, ih28, ih167⟩ := ih
      refine ⟨?_, ?_, ?_⟩
      · intro M v2_2 o2_3 hJ v2_20 v2_21 hn
        refine w_lo dX5_readFact_2 rfl rfl rfl rfl ?_
        refine w_si dX5_readFact_3 (c := 1600) (by decide) ?_
        rcases zcut (1600 : Int) v2_2.toInt with h1 | h1
        · skip
          refine w_cgt_t dX5_readFact_6 (t := 28) rfl (by have := zt_1600; omega) ?_
          exact ih28 M v2_2 o2_3 hJ (by omega) (by omega) (by have := zt_7; omega)
        · skip
          refine w_cgt_f dX5_readFact_6 (t := 28) rfl (by have := zt_1600; omega) ?_
          refine w_lo dX5_readFact_9 rfl rfl rfl rfl ?_
          refine w_iv dX5_readFact_10 rfl rfl (As := []) rfl rfl hJ.1.1 zs_2 (Nat.le_of_ble_eq_true rfl) ?_
          refine ZV.imp (k_1287 hN hJ.1) ?_
          rintro _ ⟨x5, M2, rfl, h6, h7, hJ3, hq4⟩
          have hJ8 := zJ_trans hJ hJ3 zSub_nil
          show ZW _ _ _ _ _ _ _ (13, [some (.ref 2), some (.int 7), some (.int v2_2), o2_3], [.int x5], M2)
          refine w_bi dX5_readFact_13 (c := 23) (by decide) ?_
          rcases Int.decEq x5.toInt (23 : Int) with h9 | h9
          · skip
            refine w_cne_t dX5_readFact_15 (t := 28) rfl (by have := zt_23; omega) ?_
            exact ih28 M2 v2_2 o2_3 hJ8 (by omega) (by omega) (by have := zt_7; omega)
          · skip
            refine w_cne_f dX5_readFact_15 (t := 28) rfl (by have := zt_23; omega) ?_
            refine w_lo dX5_readFact_18 rfl rfl rfl rfl ?_
            refine w_iv dX5_readFact_19 rfl rfl (As := []) rfl rfl hJ8.1.1 zs_2 (Nat.le_of_ble_eq_true rfl) ?_
            refine ZV.imp (k_1289 hN hJ8.1) ?_
            rintro _ ⟨M10, rfl, hJ11, hq12⟩
            have hJ13 := zJ_trans hJ8 hJ11 (zSub_cons (fun _ _ h h' hk => zIR_s (zIR_s (zIR_s (zIR_s (zIR_s (zIR_s (zIR_e (by omega) (by omega) hk))))))) zSub_nil)
            show ZW _ _ _ _ _ _ _ (22, [some (.ref 2), some (.int 7), some (.int v2_2), o2_3], [], M10)
            refine w_inc (kk := 2) dX5_readFact_22 rfl (m := 1) (by decide) (by omega) ?_
            intro x14 h15
            refine ⟨_, rfl, ?_⟩
            show ZW _ _ _ _ _ _ _ (25, [some (.ref 2), some (.int 7), some (.int x14), o2_3], [], M10)
            refine w_gt dX5_readFact_25 (t := 2) rfl ?_
            exact ih2 M10 x14 o2_3 hJ13 (by omega) (by omega) (by have := zt_7; omega)
      · intro M v28_2 o28_3 hJ v28_20 v28_21 hn
        refine w_lo dX5_readFact_28 rfl rfl rfl rfl ?_
        refine w_bi dX5_readFact_29 (c := 91) (by decide) ?_
        refine w_iv dX5_readFact_31 rfl rfl (As := [.int 91]) rfl rfl hJ.1.1 zs_2 (Nat.le_of_ble_eq_true rfl) ?_
        refine ZV.imp (k_1299 91 (by have := zt_91; omega) (by have := zt_91; omega) hN hJ.1) ?_
        rintro _ ⟨x19, M16, rfl, h20, h21, hJ17, hq18⟩
        have hJ22 := zJ_trans hJ hJ17 zSub_nil
        show ZW _ _ _ _ _ _ _ (34, [some (.ref 2), some (.int 7), some (.int v28_2), o28_3], [.int x19], M16)
        rcases Int.decEq x19.toInt (0 : Int) with h23 | h23
        · skip
          refine w_ieq_f dX5_readFact_34 (t := 87) rfl (by omega) ?_
          refine w_lo dX5_readFact_37 rfl rfl rfl rfl ?_
          refine w_bi dX5_readFact_38 (c := 8) (by decide) ?_
          refine w_clt_t dX5_readFact_40 (t := 49) rfl (by have := zt_7; have := zt_8; omega) ?_
          refine w_lo dX5_readFact_49 rfl rfl rfl rfl ?_
          refine w_iv dX5_readFact_50 rfl rfl (As := []) rfl rfl hJ22.1.1 zs_2 (Nat.le_of_ble_eq_true rfl) ?_
          refine ZV.imp (k_1289 hN hJ22.1) ?_
          rintro _ ⟨M24, rfl, hJ25, hq26⟩
          have hJ27 := zJ_trans hJ22 hJ25 (zSub_cons (fun _ _ h h' hk => zIR_s (zIR_s (zIR_s (zIR_s (zIR_s (zIR_s (zIR_e (by omega) (by omega) hk))))))) zSub_nil)
          show ZW _ _ _ _ _ _ _ (53, [some (.ref 2), some (.int 7), some (.int v28_2), o28_3], [], M24)
          refine w_lo dX5_readFact_53 rfl rfl rfl rfl ?_
          refine w_lo dX5_readFact_54 rfl rfl rfl rfl ?_
          refine w_ic dX5_readFact_55 zi_1 ?_
          refine w_pu (st' := [.int 8, .ref 2]) dX5_readFact_56 rfl rfl ?_
          refine w_iv dX5_readFact_57 rfl rfl (As := [.int 8]) rfl rfl hJ27.1.1 zs_2 (Nat.le_of_ble_eq_true rfl) ?_
          refine ZV.imp (k_1300_c8 hN hJ27.1) ?_
          rintro _ ⟨x31, M28, rfl, h32, h33, hJ29, hq30⟩
          have hJ34 := zJ_trans hJ27 hJ29 (zSub_cons (fun _ _ h h' hk => zIR_e (by omega) (by omega) hk) (zSub_cons (fun _ _ h h' hk => zIR_s (zIR_e (by omega) (by omega) hk)) (zSub_cons (fun _ _ h h' hk => zIR_s (zIR_s (zIR_e (by omega) (by omega) hk))) (zSub_cons (fun _ _ h h' hk => zIR_s (zIR_s (zIR_s (zIR_e (by omega) (by omega) hk)))) (zSub_cons (fun _ _ h h' hk => zIR_s (zIR_s (zIR_s (zIR_s (zIR_a (by omega) (by omega)))))) (zSub_cons (fun _ _ h h' hk => zIR_s (zIR_s (zIR_s (zIR_s (zIR_s (zIR_a (by omega) (by omega))))))) (zSub_cons (fun _ _ h h' hk => zIR_s (zIR_s (zIR_s (zIR_s (zIR_s (zIR_s (zIR_e (by omega) (by omega) hk))))))) zSub_nil)))))))
          show ZW _ _ _ _ _ _ _ (60, [some (.ref 2), some (.int 7), some (.int v28_2), o28_3], [.int x31], M28)
          rcases Int.decEq x31.toInt (0 : Int) with h35 | h35
          · skip
            refine w_ine_t dX5_readFact_60 (t := 65) rfl (by omega) ?_
            refine w_lo dX5_readFact_65 rfl rfl rfl rfl ?_
            refine w_bi dX5_readFact_66 (c := 93) (by decide) ?_
            refine w_iv dX5_readFact_68 rfl rfl (As := [.int 93]) rfl rfl hJ34.1.1 zs_2 (Nat.le_of_ble_eq_true rfl) ?_
            refine ZV.imp (k_1299 93 (by have := zt_93; omega) (by have := zt_93; omega) hN hJ34.1) ?_
            rintro _ ⟨x39, M36, rfl, h40, h41, hJ37, hq38⟩
            have hJ42 := zJ_trans hJ34 hJ37 zSub_nil
            show ZW _ _ _ _ _ _ _ (71, [some (.ref 2), some (.int 7), some (.int v28_2), o28_3], [.int x39], M36)
            rcases Int.decEq x39.toInt (0 : Int) with h43 | h43
            · skip
              refine w_ine_t dX5_readFact_71 (t := 80) rfl (by omega) ?_
              refine w_lo dX5_readFact_80 rfl rfl rfl rfl ?_
              refine w_iv dX5_readFact_81 rfl rfl (As := []) rfl rfl hJ42.1.1 zs_2 (Nat.le_of_ble_eq_true rfl) ?_
              refine ZV.imp (k_1289 hN hJ42.1) ?_
              rintro _ ⟨M44, rfl, hJ45, hq46⟩
              have hJ47 := zJ_trans hJ42 hJ45 (zSub_cons (fun _ _ h h' hk => zIR_s (zIR_s (zIR_s (zIR_s (zIR_s (zIR_s (zIR_e (by omega) (by omega) hk))))))) zSub_nil)
              show ZW _ _ _ _ _ _ _ (84, [some (.ref 2), some (.int 7), some (.int v28_2), o28_3], [], M44)
              refine w_gt dX5_readFact_84 (t := 203) rfl ?_
              refine w_lo dX5_readFact_203 rfl rfl rfl rfl ?_
              refine w_ic dX5_readFact_204 zi_2 ?_
              refine w_remP dX5_readFact_205 (by omega) (by have := zt_2; omega) ?_
              intro x48 h49 h50 h51
              have := zt_2
              refine w_ic dX5_readFact_206 zi_1 ?_
              rcases Int.decEq x48.toInt (1 : Int) with h52 | h52
              · skip
                refine w_cne_t dX5_readFact_207 (t := 222) rfl (by have := zt_1; omega) ?_
                refine w_ic dX5_readFact_222 zi_1 ?_
                refine w_en dX5_readFact_223 rfl ?_
                exact ⟨_, _, rfl, (by have := zt_1; omega), (by have := zt_1; omega), hJ47, trivial⟩
              · skip
                refine w_cne_f dX5_readFact_207 (t := 222) rfl (by have := zt_1; omega) ?_
                refine w_lo dX5_readFact_210 rfl rfl rfl rfl ?_
                obtain ⟨b53, f54, h55⟩ := zd_2_8 hJ47.1
                have h56 := zDm_b h55
                refine w_gf dX5_readFact_211 rfl hJ47.1.1 zs_2 f54 ?_
                refine w_gf dX5_readFact_214 rfl hJ47.1.1 (zs_1_0 h55) (zr_1_0_15 h55 hJ47.1) ?_
                refine w_bi dX5_readFact_217 (c := (-8)) (by decide) ?_
                refine w_iv dX5_readFact_219 rfl rfl (As := [.int (-8)]) rfl rfl hJ47.1.1 (zs_1_13 h55) (Nat.le_of_ble_eq_true rfl) ?_
                refine ZV.imp (k_515 (b53 + 13) (zLw_of h55) (-8) hN hJ47.1) ?_
                rintro _ ⟨M57, rfl, hJ58, hq59⟩
                have hJ60 := zJ_trans hJ47 hJ58 (zSub_cons (fun _ _ h h' hk => ((zDm_or h55).elim (fun e => zIR_s (zIR_s (zIR_e (by omega) (by omega) hk))) (fun e => zIR_s (zIR_s (zIR_s (zIR_e (by omega) (by omega) hk)))))) (zSub_cons (fun _ _ h h' hk => ((zDm_or h55).elim (fun e => zIR_s (zIR_s (zIR_s (zIR_s (zIR_a (by omega) (by omega)))))) (fun e => zIR_s (zIR_s (zIR_s (zIR_s (zIR_s (zIR_a (by omega) (by omega))))))))) zSub_nil))
                show ZW _ _ _ _ _ _ _ (222, [some (.ref 2), some (.int 7), some (.int v28_2), o28_3], [], M57)
                refine w_ic dX5_readFact_222 zi_1 ?_
                refine w_en dX5_readFact_223 rfl ?_
                exact ⟨_, _, rfl, (by have := zt_1; omega), (by have := zt_1; omega), hJ60, trivial⟩
            · skip
              refine w_ine_f dX5_readFact_71 (t := 80) rfl (by omega) ?_
              refine w_lo dX5_readFact_74 rfl rfl rfl rfl ?_
              refine w_ic dX5_readFact_75 zi_1 ?_
              refine w_iv dX5_readFact_76 rfl rfl (As := [.int 1]) rfl rfl hJ42.1.1 zs_2 (Nat.le_of_ble_eq_true rfl) ?_
              refine ZV.imp (k_1286 1 (by have := zt_1; omega) (by have := zt_1; omega) hN hJ42.1) ?_
              rintro _ ⟨x64, M61, rfl, h65, h66, hJ62, hq63⟩
              have hJ67 := zJ_trans hJ42 hJ62 (zSub_cons (fun _ _ h h' hk => zIR_e (by omega) (by omega) hk) (zSub_cons (fun _ _ h h' hk => zIR_s (zIR_e (by omega) (by omega) hk)) zSub_nil))
              show ZW _ _ _ _ _ _ _ (79, [some (.ref 2), some (.int 7), some (.int v28_2), o28_3], [.int x64], M61)
              refine w_eni dX5_readFact_79 rfl (znb (by omega) (by omega)) ?_
              exact ⟨_, _, rfl, (by omega), (by omega), hJ67, trivial⟩
          · skip
            refine w_ine_f dX5_readFact_60 (t := 65) rfl (by omega) ?_
            refine w_ic dX5_readFact_63 zi_0 ?_
            refine w_en dX5_readFact_64 rfl ?_
            exact ⟨_, _, rfl, (by have := zt_0; omega), (by have := zt_0; omega), hJ34, trivial⟩
        · skip
          refine w_ieq_t dX5_readFact_34 (t := 87) rfl (by omega) ?_
          refine w_lo dX5_readFact_87 rfl rfl rfl rfl ?_
          refine w_iv dX5_readFact_88 rfl rfl (As := []) rfl rfl hJ22.1.1 zs_2 (Nat.le_of_ble_eq_true rfl) ?_
          refine ZV.imp (k_1287 hN hJ22.1) ?_
          rintro _ ⟨x71, M68, rfl, h72, h73, hJ69, hq70⟩
          have hJ74 := zJ_trans hJ22 hJ69 zSub_nil
          show ZW _ _ _ _ _ _ _ (91, [some (.ref 2), some (.int 7), some (.int v28_2), o28_3], [.int x71], M68)
          refine w_bi dX5_readFact_91 (c := 24) (by decide) ?_
          rcases Int.decEq x71.toInt (24 : Int) with h75 | h75
          · skip
            refine w_cne_t dX5_readFact_93 (t := 114) rfl (by have := zt_24; omega) ?_
            refine w_lo dX5_readFact_114 rfl rfl rfl rfl ?_
            refine w_lo dX5_readFact_115 rfl rfl rfl rfl ?_
            refine w_iv dX5_readFact_116 rfl rfl (As := [.int 7]) rfl rfl hJ74.1.1 zs_2 (Nat.le_of_ble_eq_true rfl) ?_
            refine ZV.imp (k_1297_c7 hN hJ74.1) ?_
            rintro _ ⟨x79, M76, rfl, h80, h81, hJ77, hq78⟩
            have hJ82 := zJ_trans hJ74 hJ77 (zSub_cons (fun _ _ h h' hk => zIR_e (by omega) (by omega) hk) (zSub_cons (fun _ _ h h' hk => zIR_s (zIR_e (by omega) (by omega) hk)) (zSub_cons (fun _ _ h h' hk => zIR_s (zIR_s (zIR_e (by omega) (by omega) hk))) (zSub_cons (fun _ _ h h' hk => zIR_s (zIR_s (zIR_s (zIR_e (by omega) (by omega) hk)))) (zSub_cons (fun _ _ h h' hk => zIR_s (zIR_s (zIR_s (zIR_s (zIR_a (by omega) (by omega)))))) (zSub_cons (fun _ _ h h' hk => zIR_s (zIR_s (zIR_s (zIR_s (zIR_s (zIR_a (by omega) (by omega))))))) (zSub_cons (fun _ _ h h' hk => zIR_s (zIR_s (zIR_s (zIR_s (zIR_s (zIR_s (zIR_e (by omega) (by omega) hk))))))) zSub_nil)))))))
            show ZW _ _ _ _ _ _ _ (119, [some (.ref 2), some (.int 7), some (.int v28_2), o28_3], [.int x79], M76)
            rcases Int.decEq x79.toInt (0 : Int) with h83 | h83
            · skip
              refine w_ine_t dX5_readFact_119 (t := 124) rfl (by omega) ?_
              refine w_lo dX5_readFact_124 rfl rfl rfl rfl ?_
              refine w_bi dX5_readFact_125 (c := 60) (by decide) ?_
              refine w_iv dX5_readFact_127 rfl rfl (As := [.int 60]) rfl rfl hJ82.1.1 zs_2 (Nat.le_of_ble_eq_true rfl) ?_
              refine ZV.imp (k_1299 60 (by have := zt_60; omega) (by have := zt_60; omega) hN hJ82.1) ?_
              rintro _ ⟨x87, M84, rfl, h88, h89, hJ85, hq86⟩
              have hJ90 := zJ_trans hJ82 hJ85 zSub_nil
              show ZW _ _ _ _ _ _ _ (130, [some (.ref 2), some (.int 7), some (.int v28_2), o28_3], [.int x87], M84)
              rcases Int.decEq x87.toInt (0 : Int) with h91 | h91
              · skip
                refine w_ieq_f dX5_readFact_130 (t := 138) rfl (by omega) ?_
                refine w_bi dX5_readFact_133 (c := (-14)) (by decide) ?_
                refine w_gt dX5_readFact_135 (t := 167) rfl ?_
                exact ih167 M84 v28_2 o28_3 (-14) hJ90 (by omega) (by omega) (by have := zt_m14; omega) (by have := zt_m14; omega) (by have := zt_7; have := zt_m14; omega)
              · skip
                refine w_ieq_t dX5_readFact_130 (t := 138) rfl (by omega) ?_
                refine w_lo dX5_readFact_138 rfl rfl rfl rfl ?_
                refine w_bi dX5_readFact_139 (c := 62) (by decide) ?_
                refine w_iv dX5_readFact_141 rfl rfl (As := [.int 62]) rfl rfl hJ90.1.1 zs_2 (Nat.le_of_ble_eq_true rfl) ?_
                refine ZV.imp (k_1299 62 (by have := zt_62; omega) (by have := zt_62; omega) hN hJ90.1) ?_
                rintro _ ⟨x95, M92, rfl, h96, h97, hJ93, hq94⟩
                have hJ98 := zJ_trans hJ90 hJ93 zSub_nil
                show ZW _ _ _ _ _ _ _ (144, [some (.ref 2), some (.int 7), some (.int v28_2), o28_3], [.int x95], M92)
                rcases Int.decEq x95.toInt (0 : Int) with h99 | h99
                · skip
                  refine w_ieq_f dX5_readFact_144 (t := 152) rfl (by omega) ?_
                  refine w_bi dX5_readFact_147 (c := (-15)) (by decide) ?_
                  refine w_gt dX5_readFact_149 (t := 167) rfl ?_
                  exact ih167 M92 v28_2 o28_3 (-15) hJ98 (by omega) (by omega) (by have := zt_m15; omega) (by have := zt_m15; omega) (by have := zt_7; have := zt_m15; omega)
                · skip
                  refine w_ieq_t dX5_readFact_144 (t := 152) rfl (by omega) ?_
                  refine w_lo dX5_readFact_152 rfl rfl rfl rfl ?_
                  refine w_bi dX5_readFact_153 (c := 61) (by decide) ?_
                  refine w_iv dX5_readFact_155 rfl rfl (As := [.int 61]) rfl rfl hJ98.1.1 zs_2 (Nat.le_of_ble_eq_true rfl) ?_
                  refine ZV.imp (k_1299 61 (by have := zt_61; omega) (by have := zt_61; omega) hN hJ98.1) ?_
                  rintro _ ⟨x103, M100, rfl, h104, h105, hJ101, hq102⟩
                  have hJ106 := zJ_trans hJ98 hJ101 zSub_nil
                  show ZW _ _ _ _ _ _ _ (158, [some (.ref 2), some (.int 7), some (.int v28_2), o28_3], [.int x103], M100)
                  rcases Int.decEq x103.toInt (0 : Int) with h107 | h107
                  · skip
                    refine w_ieq_f dX5_readFact_158 (t := 166) rfl (by omega) ?_
                    refine w_bi dX5_readFact_161 (c := (-16)) (by decide) ?_
                    refine w_gt dX5_readFact_163 (t := 167) rfl ?_
                    exact ih167 M100 v28_2 o28_3 (-16) hJ106 (by omega) (by omega) (by have := zt_m16; omega) (by have := zt_m16; omega) (by have := zt_7; have := zt_m16; omega)
                  · skip
                    refine w_ieq_t dX5_readFact_158 (t := 166) rfl (by omega) ?_
                    refine w_ic dX5_readFact_166 zi_0 ?_
                    exact ih167 M100 v28_2 o28_3 0 hJ106 (by omega) (by omega) (by have := zt_0; omega) (by have := zt_0; omega) (by have := zt_7; have := zt_0; omega)
            · skip
              refine w_ine_f dX5_readFact_119 (t := 124) rfl (by omega) ?_
              refine w_ic dX5_readFact_122 zi_0 ?_
              refine w_en dX5_readFact_123 rfl ?_
              exact ⟨_, _, rfl, (by have := zt_0; omega), (by have := zt_0; omega), hJ82, trivial⟩
          · skip
            refine w_cne_f dX5_readFact_93 (t := 114) rfl (by have := zt_24; omega) ?_
            refine w_lo dX5_readFact_96 rfl rfl rfl rfl ?_
            refine w_iv dX5_readFact_97 rfl rfl (As := []) rfl rfl hJ74.1.1 zs_2 (Nat.le_of_ble_eq_true rfl) ?_
            refine ZV.imp (k_1289 hN hJ74.1) ?_
            rintro _ ⟨M108, rfl, hJ109, hq110⟩
            have hJ111 := zJ_trans hJ74 hJ109 (zSub_cons (fun _ _ h h' hk => zIR_s (zIR_s (zIR_s (zIR_s (zIR_s (zIR_s (zIR_e (by omega) (by omega) hk))))))) zSub_nil)
            show ZW _ _ _ _ _ _ _ (100, [some (.ref 2), some (.int 7), some (.int v28_2), o28_3], [], M108)
            refine w_lo dX5_readFact_100 rfl rfl rfl rfl ?_
            obtain ⟨b112, f113, h114⟩ := zd_2_8 hJ111.1
            have h115 := zDm_b h114
            refine w_gf dX5_readFact_101 rfl hJ111.1.1 zs_2 f113 ?_
            refine w_gf dX5_readFact_104 rfl hJ111.1.1 (zs_1_0 h114) (zr_1_0_15 h114 hJ111.1) ?_
            refine w_ic dX5_readFact_107 zi_1 ?_
            refine w_iv dX5_readFact_108 rfl rfl (As := [.int 1]) rfl rfl hJ111.1.1 (zs_1_13 h114) (Nat.le_of_ble_eq_true rfl) ?_
            refine ZV.imp (k_515 (b112 + 13) (zLw_of h114) 1 hN hJ111.1) ?_
            rintro _ ⟨M116, rfl, hJ117, hq118⟩
            have hJ119 := zJ_trans hJ111 hJ117 (zSub_cons (fun _ _ h h' hk => ((zDm_or h114).elim (fun e => zIR_s (zIR_s (zIR_e (by omega) (by omega) hk))) (fun e => zIR_s (zIR_s (zIR_s (zIR_e (by omega) (by omega) hk)))))) (zSub_cons (fun _ _ h h' hk => ((zDm_or h114).elim (fun e => zIR_s (zIR_s (zIR_s (zIR_s (zIR_a (by omega) (by omega)))))) (fun e => zIR_s (zIR_s (zIR_s (zIR_s (zIR_s (zIR_a (by omega) (by omega))))))))) zSub_nil))
            show ZW _ _ _ _ _ _ _ (111, [some (.ref 2), some (.int 7), some (.int v28_2), o28_3], [], M116)
            refine w_gt dX5_readFact_111 (t := 203) rfl ?_
            refine w_lo dX5_readFact_203 rfl rfl rfl rfl ?_
            refine w_ic dX5_readFact_204 zi_2 ?_
            refine w_remP dX5_readFact_205 (by omega) (by have := zt_2; omega) ?_
            intro x120 h121 h122 h123
            have := zt_2
            refine w_ic dX5_readFact_206 zi_1 ?_
            rcases Int.decEq x120.toInt (1 : Int) with h124 | h124
            · skip
              refine w_cne_t dX5_readFact_207 (t := 222) rfl (by have := zt_1; omega) ?_
              refine w_ic dX5_readFact_222 zi_1 ?_
              refine w_en dX5_readFact_223 rfl ?_
              exact ⟨_, _, rfl, (by have := zt_1; omega), (by have := zt_1; omega), hJ119, trivial⟩
            · skip
              refine w_cne_f dX5_readFact_207 (t := 222) rfl (by have := zt_1; omega) ?_
              refine w_lo dX5_readFact_210 rfl rfl rfl rfl ?_
              have f125 := (hJ117.2 (2) 8 (zNI_k (by decide) (by decide) (zNI (by omega) zNI_nil))).trans (f113)
              refine w_gf dX5_readFact_211 rfl hJ119.1.1 zs_2 f125 ?_
              refine w_gf dX5_readFact_214 rfl hJ119.1.1 (zs_1_0 h114) (zr_1_0_15 h114 hJ119.1) ?_
              refine w_bi dX5_readFact_217 (c := (-8)) (by decide) ?_
              refine w_iv dX5_readFact_219 rfl rfl (As := [.int (-8)]) rfl rfl hJ119.1.1 (zs_1_13 h114) (Nat.le_of_ble_eq_true rfl) ?_
              refine ZV.imp (k_515 (b112 + 13) (zLw_of h114) (-8) hN hJ119.1) ?_
              rintro _ ⟨M126, rfl, hJ127, hq128⟩
              have hJ129 := zJ_trans hJ119 hJ127 (zSub_cons (fun _ _ h h' hk => ((zDm_or h114).elim (fun e => zIR_s (zIR_s (zIR_e (by omega) (by omega) hk))) (fun e => zIR_s (zIR_s (zIR_s (zIR_e (by omega) (by omega) hk)))))) (zSub_cons (fun _ _ h h' hk => ((zDm_or h114).elim (fun e => zIR_s (zIR_s (zIR_s (zIR_s (zIR_a (by omega) (by omega)))))) (fun e => zIR_s (zIR_s (zIR_s (zIR_s (zIR_s (zIR_a (by omega) (by omega))))))))) zSub_nil))
              show ZW _ _ _ _ _ _ _ (222, [some (.ref 2), some (.int 7), some (.int v28_2), o28_3], [], M126)
              refine w_ic dX5_readFact_222 zi_1 ?_
              refine w_en dX5_readFact_223 rfl ?_
              exact ⟨_, _, rfl, (by have := zt_1; omega), (by have := zt_1; omega), hJ129, trivial⟩
      · intro M v167_2 o167_3 s167_0 hJ v167_20 v167_21 s167_00 s167_01 hn
        refine w_lo (ml' := [some (.ref 2), some (.int 7), some (.int v167_2), some (.int s167_0)]) dX5_readFact_167 rfl rfl rfl rfl ?_
        refine w_lo dX5_readFact_168 rfl rfl rfl rfl ?_
        rcases Int.decEq s167_0.toInt (0 : Int) with h130 | h130
        · skip
          refine w_ine_t dX5_readFact_169 (t := 178) rfl (by omega) ?_
          refine w_lo dX5_readFact_178 rfl rfl rfl rfl ?_
          refine w_iv dX5_readFact_179 rfl rfl (As := []) rfl rfl hJ.1.1 zs_2 (Nat.le_of_ble_eq_true rfl) ?_
          refine ZV.imp (k_1289 hN hJ.1) ?_
          rintro _ ⟨M131, rfl, hJ132, hq133⟩
          have hJ134 := zJ_trans hJ hJ132 (zSub_cons (fun _ _ h h' hk => zIR_s (zIR_s (zIR_s (zIR_s (zIR_s (zIR_s (zIR_e (by omega) (by omega) hk))))))) zSub_nil)
          show ZW _ _ _ _ _ _ _ (182, [some (.ref 2), some (.int 7), some (.int v167_2), some (.int s167_0)], [], M131)
          refine w_lo dX5_readFact_182 rfl rfl rfl rfl ?_
          refine w_lo dX5_readFact_183 rfl rfl rfl rfl ?_
          refine w_iv dX5_readFact_184 rfl rfl (As := [.int 7]) rfl rfl hJ134.1.1 zs_2 (Nat.le_of_ble_eq_true rfl) ?_
          refine ZV.imp (k_1297_c7 hN hJ134.1) ?_
          rintro _ ⟨x138, M135, rfl, h139, h140, hJ136, hq137⟩
          have hJ141 := zJ_trans hJ134 hJ136 (zSub_cons (fun _ _ h h' hk => zIR_e (by omega) (by omega) hk) (zSub_cons (fun _ _ h h' hk => zIR_s (zIR_e (by omega) (by omega) hk)) (zSub_cons (fun _ _ h h' hk => zIR_s (zIR_s (zIR_e (by omega) (by omega) hk))) (zSub_cons (fun _ _ h h' hk => zIR_s (zIR_s (zIR_s (zIR_e (by omega) (by omega) hk)))) (zSub_cons (fun _ _ h h' hk => zIR_s (zIR_s (zIR_s (zIR_s (zIR_a (by omega) (by omega)))))) (zSub_cons (fun _ _ h h' hk => zIR_s (zIR_s (zIR_s (zIR_s (zIR_s (zIR_a (by omega) (by omega))))))) (zSub_cons (fun _ _ h h' hk => zIR_s (zIR_s (zIR_s (zIR_s (zIR_s (zIR_s (zIR_e (by omega) (by omega) hk))))))) zSub_nil)))))))
          show ZW _ _ _ _ _ _ _ (187, [some (.ref 2), some (.int 7), some (.int v167_2), some (.int s167_0)], [.int x138], M135)
          rcases Int.decEq x138.toInt (0 : Int) with h142 | h142
          · skip
            refine w_ine_t dX5_readFact_187 (t := 192) rfl (by omega) ?_
            refine w_lo dX5_readFact_192 rfl rfl rfl rfl ?_
            obtain ⟨b143, f144, h145⟩ := zd_2_8 hJ141.1
            have h146 := zDm_b h145
            refine w_gf dX5_readFact_193 rfl hJ141.1.1 zs_2 f144 ?_
            refine w_gf dX5_readFact_196 rfl hJ141.1.1 (zs_1_0 h145) (zr_1_0_15 h145 hJ141.1) ?_
            refine w_lo dX5_readFact_199 rfl rfl rfl rfl ?_
            refine w_iv dX5_readFact_200 rfl rfl (As := [.int s167_0]) rfl rfl hJ141.1.1 (zs_1_13 h145) (Nat.le_of_ble_eq_true rfl) ?_
            refine ZV.imp (k_515 (b143 + 13) (zLw_of h145) s167_0 hN hJ141.1) ?_
            rintro _ ⟨M147, rfl, hJ148, hq149⟩
            have hJ150 := zJ_trans hJ141 hJ148 (zSub_cons (fun _ _ h h' hk => ((zDm_or h145).elim (fun e => zIR_s (zIR_s (zIR_e (by omega) (by omega) hk))) (fun e => zIR_s (zIR_s (zIR_s (zIR_e (by omega) (by omega) hk)))))) (zSub_cons (fun _ _ h h' hk => ((zDm_or h145).elim (fun e => zIR_s (zIR_s (zIR_s (zIR_s (zIR_a (by omega) (by omega)))))) (fun e => zIR_s (zIR_s (zIR_s (zIR_s (zIR_s (zIR_a (by omega) (by omega))))))))) zSub_nil))
            show ZW _ _ _ _ _ _ _ (203, [some (.ref 2), some (.int 7), some (.int v167_2), some (.int s167_0)], [], M147)
            refine w_lo dX5_readFact_203 rfl rfl rfl rfl ?_
            refine w_ic dX5_readFact_204 zi_2 ?_
            refine w_remP dX5_readFact_205 (by omega) (by have := zt_2; omega) ?_
            intro x151 h152 h153 h154
            have := zt_2
            refine w_ic dX5_readFact_206 zi_1 ?_
            rcases Int.decEq x151.toInt (1 : Int) with h155 | h155
            · skip
              refine w_cne_t dX5_readFact_207 (t := 222) rfl (by have := zt_1; omega) ?_
              refine w_ic dX5_readFact_222 zi_1 ?_
              refine w_en dX5_readFact_223 rfl ?_
              exact ⟨_, _, rfl, (by have := zt_1; omega), (by have := zt_1; omega), hJ150, trivial⟩
            · skip
              refine w_cne_f dX5_readFact_207 (t := 222) rfl (by have := zt_1; omega) ?_
              refine w_lo dX5_readFact_210 rfl rfl rfl rfl ?_
              have f156 := (hJ148.2 (2) 8 (zNI_k (by decide) (by decide) (zNI (by omega) zNI_nil))).trans (f144)
              refine w_gf dX5_readFact_211 rfl hJ150.1.1 zs_2 f156 ?_
              refine w_gf dX5_readFact_214 rfl hJ150.1.1 (zs_1_0 h145) (zr_1_0_15 h145 hJ150.1) ?_
              refine w_bi dX5_readFact_217 (c := (-8)) (by decide) ?_
              refine w_iv dX5_readFact_219 rfl rfl (As := [.int (-8)]) rfl rfl hJ150.1.1 (zs_1_13 h145) (Nat.le_of_ble_eq_true rfl) ?_
              refine ZV.imp (k_515 (b143 + 13) (zLw_of h145) (-8) hN hJ150.1) ?_
              rintro _ ⟨M157, rfl, hJ158, hq159⟩
              have hJ160 := zJ_trans hJ150 hJ158 (zSub_cons (fun _ _ h h' hk => ((zDm_or h145).elim (fun e => zIR_s (zIR_s (zIR_e (by omega) (by omega) hk))) (fun e => zIR_s (zIR_s (zIR_s (zIR_e (by omega) (by omega) hk)))))) (zSub_cons (fun _ _ h h' hk => ((zDm_or h145).elim (fun e => zIR_s (zIR_s (zIR_s (zIR_s (zIR_a (by omega) (by omega)))))) (fun e => zIR_s (zIR_s (zIR_s (zIR_s (zIR_s (zIR_a (by omega) (by omega))))))))) zSub_nil))
              show ZW _ _ _ _ _ _ _ (222, [some (.ref 2), some (.int 7), some (.int v167_2), some (.int s167_0)], [], M157)
              refine w_ic dX5_readFact_222 zi_1 ?_
              refine w_en dX5_readFact_223 rfl ?_
              exact ⟨_, _, rfl, (by have := zt_1; omega), (by have := zt_1; omega), hJ160, trivial⟩
          · skip
            refine w_ine_f dX5_readFact_187 (t := 192) rfl (by omega) ?_
            refine w_ic dX5_readFact_190 zi_0 ?_
            refine w_en dX5_readFact_191 rfl ?_
            exact ⟨_, _, rfl, (by have := zt_0; omega), (by have := zt_0; omega), hJ141, trivial⟩
        · skip
          refine w_ine_f dX5_readFact_169 (t := 178) rfl (by omega) ?_
          refine w_lo dX5_readFact_172 rfl rfl rfl rfl ?_
          refine w_ic dX5_readFact_173 zi_1 ?_
          refine w_iv dX5_readFact_174 rfl rfl (As := [.int 1]) rfl rfl hJ.1.1 zs_2 (Nat.le_of_ble_eq_true rfl) ?_
          refine ZV.imp (k_1286 1 (by have := zt_1; omega) (by have := zt_1; omega) hN hJ.1) ?_
          rintro _ ⟨x164, M161, rfl, h165, h166, hJ162, hq163⟩
          have hJ167 := zJ_trans hJ hJ162 (zSub_cons (fun _ _ h h' hk => zIR_e (by omega) (by omega) hk) (zSub_cons (fun _ _ h h' hk => zIR_s (zIR_e (by omega) (by omega) hk)) zSub_nil))
          show ZW _ _ _ _ _ _ _ (177, [some (.ref 2), some (.int 7), some (.int v167_2), some (.int s167_0)], [.int x164], M161)
          refine w_eni dX5_readFact_177 rfl (znb (by omega) (by omega)) ?_
          exact ⟨_, _, rfl, (by omega), (by omega), hJ167, trivial⟩
  obtain ⟨ih2, ih28, ih167⟩ := main 8023
  show ZW _ _ _ _ _ _ _ (0, [some (.ref 2), some (.int 7), none, none], [], M0)
  refine w_ic dX5_readFact_0 zi_0 ?_
  refine w_lo (ml' := [some (.ref 2), some (.int 7), some (.int 0), none]) dX5_readFact_1 rfl rfl rfl rfl ?_
  exact ih2 M0 0 none hJ0 (by have := zt_0; omega) (by have := zt_0; omega) (by have := zt_7; have := zt_0; omega)
set_option maxRecDepth 100000 in
theorem k_1300_c7 {X : List Int32} {d N : Nat} {M0 : zM}  (hN : N ≤ 600) (hB0 : zB N M0) : ZV X (d + 7) 1300 [.ref 2, .int 7] M0 (zRI N [(2, 3, 0), (2, 3, 1), (20, 21, 1), (41, 42, 1), (21, 22, 1000), (42, 43, 1000), (2, 3, 7)] M0 (0) (1) (fun _ _ => True)) := by
  have hJ0 : zJ N [(2, 3, 0), (2, 3, 1), (20, 21, 1), (41, 42, 1), (21, 22, 1000), (42, 43, 1000), (2, 3, 7)] M0 M0 := zJ_refl hB0
  refine ZV.of (ini := false) rfl (Nat.le_of_ble_eq_true rfl) (by decide +kernel) ?_
  have main : ∀ n : Nat,
      (∀ (M : zM) (v2_2 : Int32) (o2_3 : Option Value), zJ N [(2, 3, 0), (2, 3, 1), (20, 21, 1), (41, 42, 1), (21, 22, 1000), (42, 43, 1000), (2, 3, 7)] M0 M → ((0 : Int) ≤ v2_2.toInt) → (v2_2.toInt ≤ 1601) → 9624 * (1601 - v2_2.toInt) + 9622 < (n : Int) → ZW X (d + 6) 5 false (some .boolean) cX5_readTest (zRI N [(2, 3, 0), (2, 3, 1), (20, 21, 1), (41, 42, 1), (21, 22, 1000), (42, 43, 1000), (2, 3, 7)] M0 (0) (1) (fun _ _ => True)) (2, [some (.ref 2), some (.int 7), some (.int v2_2), o2_3], [], M)) ∧
      (∀ (M : zM) (v11_2 : Int32) (v11_3 : Int32), zJ N [(2, 3, 0), (2, 3, 1), (20, 21, 1), (41, 42, 1), (21, 22, 1000), (42, 43, 1000), (2, 3, 7)] M0 M → ((0 : Int) ≤ v11_2.toInt) → (v11_2.toInt ≤ 1600) → ((0 : Int) ≤ v11_3.toInt) → (v11_3.toInt ≤ 1601) → 9624 * (1601 - v11_2.toInt) + 6 * (1601 - v11_3.toInt) + 3 < (n : Int) → ZW X (d + 6) 5 false (some .boolean) cX5_readTest (zRI N [(2, 3, 0), (2, 3, 1), (20, 21, 1), (41, 42, 1), (21, 22, 1000), (42, 43, 1000), (2, 3, 7)] M0 (0) (1) (fun _ _ => True)) (11, [some (.ref 2), some (.int 7), some (.int v11_2), some (.int v11_3)], [], M)) ∧
      (∀ (M : zM) (v44_2 : Int32) (v44_3 : Int32), zJ N [(2, 3, 0), (2, 3, 1), (20, 21, 1), (41, 42, 1), (21, 22, 1000), (42, 43, 1000), (2, 3, 7)] M0 M → ((0 : Int) ≤ v44_2.toInt) → (v44_2.toInt ≤ 1600) → ((0 : Int) ≤ v44_3.toInt) → (v44_3.toInt ≤ 1600) → 9624 * (1601 - v44_2.toInt) + 6 * (1601 - v44_3.toInt) + 2 < (n : Int) → ZW X (d + 6) 5 false (some .boolean) cX5_readTest (zRI N [(2, 3, 0), (2, 3, 1), (20, 21, 1), (41, 42, 1), (21, 22, 1000), (42, 43, 1000), (2, 3, 7)] M0 (0) (1) (fun _ _ => True)) (44, [some (.ref 2), some (.int 7), some (.int v44_2), some (.int v44_3)], [], M)) ∧
      (∀ (M : zM) (v66_2 : Int32) (u66_3 : Int32), zJ N [(2, 3, 0), (2, 3, 1), (20, 21, 1), (41, 42, 1), (21, 22, 1000), (42, 43, 1000), (2, 3, 7)] M0 M → ((0 : Int) ≤ v66_2.toInt) → (v66_2.toInt ≤ 1600) → 9624 * (1601 - v66_2.toInt) + 1 < (n : Int) → ZW X (d + 6) 5 false (some .boolean) cX5_readTest (zRI N [(2, 3, 0), (2, 3, 1), (20, 21, 1), (41, 42, 1), (21, 22, 1000), (42, 43, 1000), (2, 3, 7)] M0 (0) (1) (fun _ _ => True)) (66, [some (.ref 2), some (.int 7), some (.int v66_2), some (.int u66_3)], [], M)) := by
    intro n
    induction n with
    | zero =>
      exact ⟨(fun M v2_2 o2_3 hJ v2_20 v2_21 hn => absurd hn (by omega)), (fun M v11_2 v11_3 hJ v11_20 v11_21 v11_30 v11_31 hn => absurd hn (by omega)), (fun M v44_2 v44_3 hJ v44_20 v44_21 v44_30 v44_31 hn => absurd hn (by omega)), (fun M v66_2 u66_3 hJ v66_20 v66_21 hn => absurd hn (by omega))⟩
    | succ n ih =>
      obtain ⟨ih2, ih11, ih44, ih66⟩ := ih
      refine ⟨?_, ?_, ?_, ?_⟩
      · intro M v2_2 o2_3 hJ v2_20 v2_21 hn
        refine w_lo dX5_readTest_2 rfl rfl rfl rfl ?_
        refine w_si dX5_readTest_3 (c := 1600) (by decide) ?_
        rcases zcut (1600 : Int) v2_2.toInt with h1 | h1
        · skip
          refine w_cgt_t dX5_readTest_6 (t := 104) rfl (by have := zt_1600; omega) ?_
          refine w_ic dX5_readTest_104 zi_1 ?_
          refine w_en dX5_readTest_105 rfl ?_
          exact ⟨_, _, rfl, (by have := zt_1; omega), (by have := zt_1; omega), hJ, trivial⟩
        · skip
          refine w_cgt_f dX5_readTest_6 (t := 104) rfl (by have := zt_1600; omega) ?_
          refine w_ic dX5_readTest_9 zi_0 ?_
          refine w_lo (ml' := [some (.ref 2), some (.int 7), some (.int v2_2), some (.int 0)]) dX5_readTest_10 rfl rfl rfl rfl ?_
          exact ih11 M v2_2 0 hJ (by omega) (by omega) (by have := zt_0; omega) (by have := zt_0; omega) (by have := zt_7; have := zt_0; omega)
      · intro M v11_2 v11_3 hJ v11_20 v11_21 v11_30 v11_31 hn
        refine w_lo dX5_readTest_11 rfl rfl rfl rfl ?_
        refine w_si dX5_readTest_12 (c := 1600) (by decide) ?_
        rcases zcut (1600 : Int) v11_3.toInt with h2 | h2
        · skip
          refine w_cgt_t dX5_readTest_15 (t := 66) rfl (by have := zt_1600; omega) ?_
          exact ih66 M v11_2 v11_3 hJ (by omega) (by omega) (by have := zt_7; omega)
        · skip
          refine w_cgt_f dX5_readTest_15 (t := 66) rfl (by have := zt_1600; omega) ?_
          refine w_lo dX5_readTest_18 rfl rfl rfl rfl ?_
          refine w_lo dX5_readTest_19 rfl rfl rfl rfl ?_
          refine w_iv dX5_readTest_20 rfl rfl (As := [.int 7]) rfl rfl hJ.1.1 zs_2 (Nat.le_of_ble_eq_true rfl) ?_
          refine ZV.imp (k_1301_c7 hN hJ.1) ?_
          rintro _ ⟨x6, M3, rfl, h7, h8, hJ4, hq5⟩
          have hJ9 := zJ_trans hJ hJ4 (zSub_cons (fun _ _ h h' hk => zIR_e (by omega) (by omega) hk) (zSub_cons (fun _ _ h h' hk => zIR_s (zIR_e (by omega) (by omega) hk)) (zSub_cons (fun _ _ h h' hk => zIR_s (zIR_s (zIR_e (by omega) (by omega) hk))) (zSub_cons (fun _ _ h h' hk => zIR_s (zIR_s (zIR_s (zIR_e (by omega) (by omega) hk)))) (zSub_cons (fun _ _ h h' hk => zIR_s (zIR_s (zIR_s (zIR_s (zIR_a (by omega) (by omega)))))) (zSub_cons (fun _ _ h h' hk => zIR_s (zIR_s (zIR_s (zIR_s (zIR_s (zIR_a (by omega) (by omega))))))) (zSub_cons (fun _ _ h h' hk => zIR_s (zIR_s (zIR_s (zIR_s (zIR_s (zIR_s (zIR_e (by omega) (by omega) hk))))))) zSub_nil)))))))
          show ZW _ _ _ _ _ _ _ (23, [some (.ref 2), some (.int 7), some (.int v11_2), some (.int v11_3)], [.int x6], M3)
          rcases Int.decEq x6.toInt (0 : Int) with h10 | h10
          · skip
            refine w_ine_t dX5_readTest_23 (t := 28) rfl (by omega) ?_
            refine w_lo dX5_readTest_28 rfl rfl rfl rfl ?_
            rcases zcut (0 : Int) v11_3.toInt with h11 | h11
            · skip
              refine w_ile_f dX5_readTest_29 (t := 44) rfl (by omega) ?_
              refine w_lo dX5_readTest_32 rfl rfl rfl rfl ?_
              obtain ⟨b12, f13, h14⟩ := zd_2_8 hJ9.1
              have h15 := zDm_b h14
              refine w_gf dX5_readTest_33 rfl hJ9.1.1 zs_2 f13 ?_
              refine w_gf dX5_readTest_36 rfl hJ9.1.1 (zs_1_0 h14) (zr_1_0_15 h14 hJ9.1) ?_
              refine w_bi dX5_readTest_39 (c := (-17)) (by decide) ?_
              refine w_iv dX5_readTest_41 rfl rfl (As := [.int (-17)]) rfl rfl hJ9.1.1 (zs_1_13 h14) (Nat.le_of_ble_eq_true rfl) ?_
              refine ZV.imp (k_515 (b12 + 13) (zLw_of h14) (-17) hN hJ9.1) ?_
              rintro _ ⟨M16, rfl, hJ17, hq18⟩
              have hJ19 := zJ_trans hJ9 hJ17 (zSub_cons (fun _ _ h h' hk => ((zDm_or h14).elim (fun e => zIR_s (zIR_s (zIR_e (by omega) (by omega) hk))) (fun e => zIR_s (zIR_s (zIR_s (zIR_e (by omega) (by omega) hk)))))) (zSub_cons (fun _ _ h h' hk => ((zDm_or h14).elim (fun e => zIR_s (zIR_s (zIR_s (zIR_s (zIR_a (by omega) (by omega)))))) (fun e => zIR_s (zIR_s (zIR_s (zIR_s (zIR_s (zIR_a (by omega) (by omega))))))))) zSub_nil))
              show ZW _ _ _ _ _ _ _ (44, [some (.ref 2), some (.int 7), some (.int v11_2), some (.int v11_3)], [], M16)
              exact ih44 M16 v11_2 v11_3 hJ19 (by omega) (by omega) (by omega) (by omega) (by have := zt_7; omega)
            · skip
              refine w_ile_t dX5_readTest_29 (t := 44) rfl (by omega) ?_
              exact ih44 M3 v11_2 v11_3 hJ9 (by omega) (by omega) (by omega) (by omega) (by have := zt_7; omega)
          · skip
            refine w_ine_f dX5_readTest_23 (t := 28) rfl (by omega) ?_
            refine w_ic dX5_readTest_26 zi_0 ?_
            refine w_en dX5_readTest_27 rfl ?_
            exact ⟨_, _, rfl, (by have := zt_0; omega), (by have := zt_0; omega), hJ9, trivial⟩
      · intro M v44_2 v44_3 hJ v44_20 v44_21 v44_30 v44_31 hn
        refine w_lo dX5_readTest_44 rfl rfl rfl rfl ?_
        refine w_iv dX5_readTest_45 rfl rfl (As := []) rfl rfl hJ.1.1 zs_2 (Nat.le_of_ble_eq_true rfl) ?_
        refine ZV.imp (k_1287 hN hJ.1) ?_
        rintro _ ⟨x23, M20, rfl, h24, h25, hJ21, hq22⟩
        have hJ26 := zJ_trans hJ hJ21 zSub_nil
        show ZW _ _ _ _ _ _ _ (48, [some (.ref 2), some (.int 7), some (.int v44_2), some (.int v44_3)], [.int x23], M20)
        refine w_bi dX5_readTest_48 (c := 22) (by decide) ?_
        rcases Int.decEq x23.toInt (22 : Int) with h27 | h27
        · skip
          refine w_ceq_f dX5_readTest_50 (t := 56) rfl (by have := zt_22; omega) ?_
          refine w_gt dX5_readTest_53 (t := 66) rfl ?_
          exact ih66 M20 v44_2 v44_3 hJ26 (by omega) (by omega) (by have := zt_7; omega)
        · skip
          refine w_ceq_t dX5_readTest_50 (t := 56) rfl (by have := zt_22; omega) ?_
          refine w_lo dX5_readTest_56 rfl rfl rfl rfl ?_
          refine w_iv dX5_readTest_57 rfl rfl (As := []) rfl rfl hJ26.1.1 zs_2 (Nat.le_of_ble_eq_true rfl) ?_
          refine ZV.imp (k_1289 hN hJ26.1) ?_
          rintro _ ⟨M28, rfl, hJ29, hq30⟩
          have hJ31 := zJ_trans hJ26 hJ29 (zSub_cons (fun _ _ h h' hk => zIR_s (zIR_s (zIR_s (zIR_s (zIR_s (zIR_s (zIR_e (by omega) (by omega) hk))))))) zSub_nil)
          show ZW _ _ _ _ _ _ _ (60, [some (.ref 2), some (.int 7), some (.int v44_2), some (.int v44_3)], [], M28)
          refine w_inc (kk := 3) dX5_readTest_60 rfl (m := 1) (by decide) (by omega) ?_
          intro x32 h33
          refine ⟨_, rfl, ?_⟩
          show ZW _ _ _ _ _ _ _ (63, [some (.ref 2), some (.int 7), some (.int v44_2), some (.int x32)], [], M28)
          refine w_gt dX5_readTest_63 (t := 11) rfl ?_
          exact ih11 M28 v44_2 x32 hJ31 (by omega) (by omega) (by omega) (by omega) (by have := zt_7; omega)
      · intro M v66_2 u66_3 hJ v66_20 v66_21 hn
        refine w_lo dX5_readTest_66 rfl rfl rfl rfl ?_
        rcases zcut (0 : Int) v66_2.toInt with h34 | h34
        · skip
          refine w_ile_f dX5_readTest_67 (t := 82) rfl (by omega) ?_
          refine w_lo dX5_readTest_70 rfl rfl rfl rfl ?_
          obtain ⟨b35, f36, h37⟩ := zd_2_8 hJ.1
          have h38 := zDm_b h37
          refine w_gf dX5_readTest_71 rfl hJ.1.1 zs_2 f36 ?_
          refine w_gf dX5_readTest_74 rfl hJ.1.1 (zs_1_0 h37) (zr_1_0_15 h37 hJ.1) ?_
          refine w_bi dX5_readTest_77 (c := (-18)) (by decide) ?_
          refine w_iv dX5_readTest_79 rfl rfl (As := [.int (-18)]) rfl rfl hJ.1.1 (zs_1_13 h37) (Nat.le_of_ble_eq_true rfl) ?_
          refine ZV.imp (k_515 (b35 + 13) (zLw_of h37) (-18) hN hJ.1) ?_
          rintro _ ⟨M39, rfl, hJ40, hq41⟩
          have hJ42 := zJ_trans hJ hJ40 (zSub_cons (fun _ _ h h' hk => ((zDm_or h37).elim (fun e => zIR_s (zIR_s (zIR_e (by omega) (by omega) hk))) (fun e => zIR_s (zIR_s (zIR_s (zIR_e (by omega) (by omega) hk)))))) (zSub_cons (fun _ _ h h' hk => ((zDm_or h37).elim (fun e => zIR_s (zIR_s (zIR_s (zIR_s (zIR_a (by omega) (by omega)))))) (fun e => zIR_s (zIR_s (zIR_s (zIR_s (zIR_s (zIR_a (by omega) (by omega))))))))) zSub_nil))
          show ZW _ _ _ _ _ _ _ (82, [some (.ref 2), some (.int 7), some (.int v66_2), some (.int u66_3)], [], M39)
          refine w_lo dX5_readTest_82 rfl rfl rfl rfl ?_
          refine w_iv dX5_readTest_83 rfl rfl (As := []) rfl rfl hJ42.1.1 zs_2 (Nat.le_of_ble_eq_true rfl) ?_
          refine ZV.imp (k_1287 hN hJ42.1) ?_
          rintro _ ⟨x46, M43, rfl, h47, h48, hJ44, hq45⟩
          have hJ49 := zJ_trans hJ42 hJ44 zSub_nil
          show ZW _ _ _ _ _ _ _ (86, [some (.ref 2), some (.int 7), some (.int v66_2), some (.int u66_3)], [.int x46], M43)
          refine w_bi dX5_readTest_86 (c := 21) (by decide) ?_
          rcases Int.decEq x46.toInt (21 : Int) with h50 | h50
          · skip
            refine w_ceq_f dX5_readTest_88 (t := 94) rfl (by have := zt_21; omega) ?_
            refine w_gt dX5_readTest_91 (t := 104) rfl ?_
            refine w_ic dX5_readTest_104 zi_1 ?_
            refine w_en dX5_readTest_105 rfl ?_
            exact ⟨_, _, rfl, (by have := zt_1; omega), (by have := zt_1; omega), hJ49, trivial⟩
          · skip
            refine w_ceq_t dX5_readTest_88 (t := 94) rfl (by have := zt_21; omega) ?_
            refine w_lo dX5_readTest_94 rfl rfl rfl rfl ?_
            refine w_iv dX5_readTest_95 rfl rfl (As := []) rfl rfl hJ49.1.1 zs_2 (Nat.le_of_ble_eq_true rfl) ?_
            refine ZV.imp (k_1289 hN hJ49.1) ?_
            rintro _ ⟨M51, rfl, hJ52, hq53⟩
            have hJ54 := zJ_trans hJ49 hJ52 (zSub_cons (fun _ _ h h' hk => zIR_s (zIR_s (zIR_s (zIR_s (zIR_s (zIR_s (zIR_e (by omega) (by omega) hk))))))) zSub_nil)
            show ZW _ _ _ _ _ _ _ (98, [some (.ref 2), some (.int 7), some (.int v66_2), some (.int u66_3)], [], M51)
            refine w_inc (kk := 2) dX5_readTest_98 rfl (m := 1) (by decide) (by omega) ?_
            intro x55 h56
            refine ⟨_, rfl, ?_⟩
            show ZW _ _ _ _ _ _ _ (101, [some (.ref 2), some (.int 7), some (.int x55), some (.int u66_3)], [], M51)
            refine w_gt dX5_readTest_101 (t := 2) rfl ?_
            exact ih2 M51 x55 (some (.int u66_3)) hJ54 (by omega) (by omega) (by have := zt_7; omega)
        · skip
          refine w_ile_t dX5_readTest_67 (t := 82) rfl (by omega) ?_
          refine w_lo dX5_readTest_82 rfl rfl rfl rfl ?_
          refine w_iv dX5_readTest_83 rfl rfl (As := []) rfl rfl hJ.1.1 zs_2 (Nat.le_of_ble_eq_true rfl) ?_
          refine ZV.imp (k_1287 hN hJ.1) ?_
          rintro _ ⟨x60, M57, rfl, h61, h62, hJ58, hq59⟩
          have hJ63 := zJ_trans hJ hJ58 zSub_nil
          show ZW _ _ _ _ _ _ _ (86, [some (.ref 2), some (.int 7), some (.int v66_2), some (.int u66_3)], [.int x60], M57)
          refine w_bi dX5_readTest_86 (c := 21) (by decide) ?_
          rcases Int.decEq x60.toInt (21 : Int) with h64 | h64
          · skip
            refine w_ceq_f dX5_readTest_88 (t := 94) rfl (by have := zt_21; omega) ?_
            refine w_gt dX5_readTest_91 (t := 104) rfl ?_
            refine w_ic dX5_readTest_104 zi_1 ?_
            refine w_en dX5_readTest_105 rfl ?_
            exact ⟨_, _, rfl, (by have := zt_1; omega), (by have := zt_1; omega), hJ63, trivial⟩
          · skip
            refine w_ceq_t dX5_readTest_88 (t := 94) rfl (by have := zt_21; omega) ?_
            refine w_lo dX5_readTest_94 rfl rfl rfl rfl ?_
            refine w_iv dX5_readTest_95 rfl rfl (As := []) rfl rfl hJ63.1.1 zs_2 (Nat.le_of_ble_eq_true rfl) ?_
            refine ZV.imp (k_1289 hN hJ63.1) ?_
            rintro _ ⟨M65, rfl, hJ66, hq67⟩
            have hJ68 := zJ_trans hJ63 hJ66 (zSub_cons (fun _ _ h h' hk => zIR_s (zIR_s (zIR_s (zIR_s (zIR_s (zIR_s (zIR_e (by omega) (by omega) hk))))))) zSub_nil)
            show ZW _ _ _ _ _ _ _ (98, [some (.ref 2), some (.int 7), some (.int v66_2), some (.int u66_3)], [], M65)
            refine w_inc (kk := 2) dX5_readTest_98 rfl (m := 1) (by decide) (by omega) ?_
            intro x69 h70
            refine ⟨_, rfl, ?_⟩
            show ZW _ _ _ _ _ _ _ (101, [some (.ref 2), some (.int 7), some (.int x69), some (.int u66_3)], [], M65)
            refine w_gt dX5_readTest_101 (t := 2) rfl ?_
            exact ih2 M65 x69 (some (.int u66_3)) hJ68 (by omega) (by omega) (by have := zt_7; omega)
  obtain ⟨ih2, ih11, ih44, ih66⟩ := main 15436899
  show ZW _ _ _ _ _ _ _ (0, [some (.ref 2), some (.int 7), none, none], [], M0)
  refine w_ic dX5_readTest_0 zi_0 ?_
  refine w_lo (ml' := [some (.ref 2), some (.int 7), some (.int 0), none]) dX5_readTest_1 rfl rfl rfl rfl ?_
  exact ih2 M0 0 none hJ0 (by have := zt_0; omega) (by have := zt_0; omega) (by have := zt_7; have := zt_0; omega)
set_option maxRecDepth 100000 in
theorem k_1301_c6 {X : List Int32} {d N : Nat} {M0 : zM}  (hN : N ≤ 600) (hB0 : zB N M0) : ZV X (d + 8) 1301 [.ref 2, .int 6] M0 (zRI N [(2, 3, 0), (2, 3, 1), (20, 21, 1), (41, 42, 1), (21, 22, 1000), (42, 43, 1000), (2, 3, 7)] M0 (0) (1) (fun _ _ => True)) := by
  have hJ0 : zJ N [(2, 3, 0), (2, 3, 1), (20, 21, 1), (41, 42, 1), (21, 22, 1000), (42, 43, 1000), (2, 3, 7)] M0 M0 := zJ_refl hB0
  refine ZV.of (ini := false) rfl (Nat.le_of_ble_eq_true rfl) (by decide +kernel) ?_
  have main : ∀ n : Nat,
      (∀ (M : zM) (v2_2 : Int32) (o2_3 : Option Value), zJ N [(2, 3, 0), (2, 3, 1), (20, 21, 1), (41, 42, 1), (21, 22, 1000), (42, 43, 1000), (2, 3, 7)] M0 M → ((0 : Int) ≤ v2_2.toInt) → (v2_2.toInt ≤ 1601) → 5 * (1601 - v2_2.toInt) + 3 < (n : Int) → ZW X (d + 7) 5 false (some .boolean) cX5_readFact (zRI N [(2, 3, 0), (2, 3, 1), (20, 21, 1), (41, 42, 1), (21, 22, 1000), (42, 43, 1000), (2, 3, 7)] M0 (0) (1) (fun _ _ => True)) (2, [some (.ref 2), some (.int 6), some (.int v2_2), o2_3], [], M)) ∧
      (∀ (M : zM) (v28_2 : Int32) (o28_3 : Option Value), zJ N [(2, 3, 0), (2, 3, 1), (20, 21, 1), (41, 42, 1), (21, 22, 1000), (42, 43, 1000), (2, 3, 7)] M0 M → ((0 : Int) ≤ v28_2.toInt) → (v28_2.toInt ≤ 1601) → 2 < (n : Int) → ZW X (d + 7) 5 false (some .boolean) cX5_readFact (zRI N [(2, 3, 0), (2, 3, 1), (20, 21, 1), (41, 42, 1), (21, 22, 1000), (42, 43, 1000), (2, 3, 7)] M0 (0) (1) (fun _ _ => True)) (28, [some (.ref 2), some (.int 6), some (.int v28_2), o28_3], [], M)) ∧
      (∀ (M : zM) (v167_2 : Int32) (o167_3 : Option Value) (s167_0 : Int32), zJ N [(2, 3, 0), (2, 3, 1), (20, 21, 1), (41, 42, 1), (21, 22, 1000), (42, 43, 1000), (2, 3, 7)] M0 M → ((0 : Int) ≤ v167_2.toInt) → (v167_2.toInt ≤ 1601) → ((-16 : Int) ≤ s167_0.toInt) → (s167_0.toInt ≤ 0) → 1 < (n : Int) → ZW X (d + 7) 5 false (some .boolean) cX5_readFact (zRI N [(2, 3, 0), (2, 3, 1), (20, 21, 1), (41, 42, 1), (21, 22, 1000), (42, 43, 1000), (2, 3, 7)] M0 (0) (1) (fun _ _ => True)) (167, [some (.ref 2), some (.int 6), some (.int v167_2), o167_3], [.int s167_0], M)) := by
    intro n
    induction n with
    | zero =>
      exact ⟨(fun M v2_2 o2_3 hJ v2_20 v2_21 hn => absurd hn (by omega)), (fun M v28_2 o28_3 hJ v28_20 v28_21 hn => absurd hn (by omega)), (fun M v167_2 o167_3 s167_0 hJ v167_20 v167_21 s167_00 s167_01 hn => absurd hn (by omega))⟩
    | succ n ih =>
      obtain ⟨ih2, ih28, ih167⟩ := ih
      refine ⟨?_, ?_, ?_⟩
      · intro M v2_2 o2_3 hJ v2_20 v2_21 hn
        refine w_lo dX5_readFact_2 rfl rfl rfl rfl ?_
        refine w_si dX5_readFact_3 (c := 1600) (by decide) ?_
        rcases zcut (1600 : Int) v2_2.toInt with h1 | h1
        · skip
          refine w_cgt_t dX5_readFact_6 (t := 28) rfl (by have := zt_1600; omega) ?_
          exact ih28 M v2_2 o2_3 hJ (by omega) (by omega) (by have := zt_6; omega)
        · skip
          refine w_cgt_f dX5_readFact_6 (t := 28) rfl (by have := zt_1600; omega) ?_
          refine w_lo dX5_readFact_9 rfl rfl rfl rfl ?_
          refine w_iv dX5_readFact_10 rfl rfl (As := []) rfl rfl hJ.1.1 zs_2 (Nat.le_of_ble_eq_true rfl) ?_
          refine ZV.imp (k_1287 hN hJ.1) ?_
          rintro _ ⟨x5, M2, rfl, h6, h7, hJ3, hq4⟩
          have hJ8 := zJ_trans hJ hJ3 zSub_nil
          show ZW _ _ _ _ _ _ _ (13, [some (.ref 2), some (.int 6), some (.int v2_2), o2_3], [.int x5], M2)
          refine w_bi dX5_readFact_13 (c := 23) (by decide) ?_
          rcases Int.decEq x5.toInt (23 : Int) with h9 | h9
          · skip
            refine w_cne_t dX5_readFact_15 (t := 28) rfl (by have := zt_23; omega) ?_
            exact ih28 M2 v2_2 o2_3 hJ8 (by omega) (by omega) (by have := zt_6; omega)
          · skip
            refine w_cne_f dX5_readFact_15 (t := 28) rfl (by have := zt_23; omega) ?_
            refine w_lo dX5_readFact_18 rfl rfl rfl rfl ?_
            refine w_iv dX5_readFact_19 rfl rfl (As := []) rfl rfl hJ8.1.1 zs_2 (Nat.le_of_ble_eq_true rfl) ?_
            refine ZV.imp (k_1289 hN hJ8.1) ?_
            rintro _ ⟨M10, rfl, hJ11, hq12⟩
            have hJ13 := zJ_trans hJ8 hJ11 (zSub_cons (fun _ _ h h' hk => zIR_s (zIR_s (zIR_s (zIR_s (zIR_s (zIR_s (zIR_e (by omega) (by omega) hk))))))) zSub_nil)
            show ZW _ _ _ _ _ _ _ (22, [some (.ref 2), some (.int 6), some (.int v2_2), o2_3], [], M10)
            refine w_inc (kk := 2) dX5_readFact_22 rfl (m := 1) (by decide) (by omega) ?_
            intro x14 h15
            refine ⟨_, rfl, ?_⟩
            show ZW _ _ _ _ _ _ _ (25, [some (.ref 2), some (.int 6), some (.int x14), o2_3], [], M10)
            refine w_gt dX5_readFact_25 (t := 2) rfl ?_
            exact ih2 M10 x14 o2_3 hJ13 (by omega) (by omega) (by have := zt_6; omega)
      · intro M v28_2 o28_3 hJ v28_20 v28_21 hn
        refine w_lo dX5_readFact_28 rfl rfl rfl rfl ?_
        refine w_bi dX5_readFact_29 (c := 91) (by decide) ?_
        refine w_iv dX5_readFact_31 rfl rfl (As := [.int 91]) rfl rfl hJ.1.1 zs_2 (Nat.le_of_ble_eq_true rfl) ?_
        refine ZV.imp (k_1299 91 (by have := zt_91; omega) (by have := zt_91; omega) hN hJ.1) ?_
        rintro _ ⟨x19, M16, rfl, h20, h21, hJ17, hq18⟩
        have hJ22 := zJ_trans hJ hJ17 zSub_nil
        show ZW _ _ _ _ _ _ _ (34, [some (.ref 2), some (.int 6), some (.int v28_2), o28_3], [.int x19], M16)
        rcases Int.decEq x19.toInt (0 : Int) with h23 | h23
        · skip
          refine w_ieq_f dX5_readFact_34 (t := 87) rfl (by omega) ?_
          refine w_lo dX5_readFact_37 rfl rfl rfl rfl ?_
          refine w_bi dX5_readFact_38 (c := 8) (by decide) ?_
          refine w_clt_t dX5_readFact_40 (t := 49) rfl (by have := zt_6; have := zt_8; omega) ?_
          refine w_lo dX5_readFact_49 rfl rfl rfl rfl ?_
          refine w_iv dX5_readFact_50 rfl rfl (As := []) rfl rfl hJ22.1.1 zs_2 (Nat.le_of_ble_eq_true rfl) ?_
          refine ZV.imp (k_1289 hN hJ22.1) ?_
          rintro _ ⟨M24, rfl, hJ25, hq26⟩
          have hJ27 := zJ_trans hJ22 hJ25 (zSub_cons (fun _ _ h h' hk => zIR_s (zIR_s (zIR_s (zIR_s (zIR_s (zIR_s (zIR_e (by omega) (by omega) hk))))))) zSub_nil)
          show ZW _ _ _ _ _ _ _ (53, [some (.ref 2), some (.int 6), some (.int v28_2), o28_3], [], M24)
          refine w_lo dX5_readFact_53 rfl rfl rfl rfl ?_
          refine w_lo dX5_readFact_54 rfl rfl rfl rfl ?_
          refine w_ic dX5_readFact_55 zi_1 ?_
          refine w_pu (st' := [.int 7, .ref 2]) dX5_readFact_56 rfl rfl ?_
          refine w_iv dX5_readFact_57 rfl rfl (As := [.int 7]) rfl rfl hJ27.1.1 zs_2 (Nat.le_of_ble_eq_true rfl) ?_
          refine ZV.imp (k_1300_c7 hN hJ27.1) ?_
          rintro _ ⟨x31, M28, rfl, h32, h33, hJ29, hq30⟩
          have hJ34 := zJ_trans hJ27 hJ29 (zSub_cons (fun _ _ h h' hk => zIR_e (by omega) (by omega) hk) (zSub_cons (fun _ _ h h' hk => zIR_s (zIR_e (by omega) (by omega) hk)) (zSub_cons (fun _ _ h h' hk => zIR_s (zIR_s (zIR_e (by omega) (by omega) hk))) (zSub_cons (fun _ _ h h' hk => zIR_s (zIR_s (zIR_s (zIR_e (by omega) (by omega) hk)))) (zSub_cons (fun _ _ h h' hk => zIR_s (zIR_s (zIR_s (zIR_s (zIR_a (by omega) (by omega)))))) (zSub_cons (fun _ _ h h' hk => zIR_s (zIR_s (zIR_s (zIR_s (zIR_s (zIR_a (by omega) (by omega))))))) (zSub_cons (fun _ _ h h' hk => zIR_s (zIR_s (zIR_s (zIR_s (zIR_s (zIR_s (zIR_e (by omega) (by omega) hk))))))) zSub_nil)))))))
          show ZW _ _ _ _ _ _ _ (60, [some (.ref 2), some (.int 6), some (.int v28_2), o28_3], [.int x31], M28)
          rcases Int.decEq x31.toInt (0 : Int) with h35 | h35
          · skip
            refine w_ine_t dX5_readFact_60 (t := 65) rfl (by omega) ?_
            refine w_lo dX5_readFact_65 rfl rfl rfl rfl ?_
            refine w_bi dX5_readFact_66 (c := 93) (by decide) ?_
            refine w_iv dX5_readFact_68 rfl rfl (As := [.int 93]) rfl rfl hJ34.1.1 zs_2 (Nat.le_of_ble_eq_true rfl) ?_
            refine ZV.imp (k_1299 93 (by have := zt_93; omega) (by have := zt_93; omega) hN hJ34.1) ?_
            rintro _ ⟨x39, M36, rfl, h40, h41, hJ37, hq38⟩
            have hJ42 := zJ_trans hJ34 hJ37 zSub_nil
            show ZW _ _ _ _ _ _ _ (71, [some (.ref 2), some (.int 6), some (.int v28_2), o28_3], [.int x39], M36)
            rcases Int.decEq x39.toInt (0 : Int) with h43 | h43
            · skip
              refine w_ine_t dX5_readFact_71 (t := 80) rfl (by omega) ?_
              refine w_lo dX5_readFact_80 rfl rfl rfl rfl ?_
              refine w_iv dX5_readFact_81 rfl rfl (As := []) rfl rfl hJ42.1.1 zs_2 (Nat.le_of_ble_eq_true rfl) ?_
              refine ZV.imp (k_1289 hN hJ42.1) ?_
              rintro _ ⟨M44, rfl, hJ45, hq46⟩
              have hJ47 := zJ_trans hJ42 hJ45 (zSub_cons (fun _ _ h h' hk => zIR_s (zIR_s (zIR_s (zIR_s (zIR_s (zIR_s (zIR_e (by omega) (by omega) hk))))))) zSub_nil)
              show ZW _ _ _ _ _ _ _ (84, [some (.ref 2), some (.int 6), some (.int v28_2), o28_3], [], M44)
              refine w_gt dX5_readFact_84 (t := 203) rfl ?_
              refine w_lo dX5_readFact_203 rfl rfl rfl rfl ?_
              refine w_ic dX5_readFact_204 zi_2 ?_
              refine w_remP dX5_readFact_205 (by omega) (by have := zt_2; omega) ?_
              intro x48 h49 h50 h51
              have := zt_2
              refine w_ic dX5_readFact_206 zi_1 ?_
              rcases Int.decEq x48.toInt (1 : Int) with h52 | h52
              · skip
                refine w_cne_t dX5_readFact_207 (t := 222) rfl (by have := zt_1; omega) ?_
                refine w_ic dX5_readFact_222 zi_1 ?_
                refine w_en dX5_readFact_223 rfl ?_
                exact ⟨_, _, rfl, (by have := zt_1; omega), (by have := zt_1; omega), hJ47, trivial⟩
              · skip
                refine w_cne_f dX5_readFact_207 (t := 222) rfl (by have := zt_1; omega) ?_
                refine w_lo dX5_readFact_210 rfl rfl rfl rfl ?_
                obtain ⟨b53, f54, h55⟩ := zd_2_8 hJ47.1
                have h56 := zDm_b h55
                refine w_gf dX5_readFact_211 rfl hJ47.1.1 zs_2 f54 ?_
                refine w_gf dX5_readFact_214 rfl hJ47.1.1 (zs_1_0 h55) (zr_1_0_15 h55 hJ47.1) ?_
                refine w_bi dX5_readFact_217 (c := (-8)) (by decide) ?_
                refine w_iv dX5_readFact_219 rfl rfl (As := [.int (-8)]) rfl rfl hJ47.1.1 (zs_1_13 h55) (Nat.le_of_ble_eq_true rfl) ?_
                refine ZV.imp (k_515 (b53 + 13) (zLw_of h55) (-8) hN hJ47.1) ?_
                rintro _ ⟨M57, rfl, hJ58, hq59⟩
                have hJ60 := zJ_trans hJ47 hJ58 (zSub_cons (fun _ _ h h' hk => ((zDm_or h55).elim (fun e => zIR_s (zIR_s (zIR_e (by omega) (by omega) hk))) (fun e => zIR_s (zIR_s (zIR_s (zIR_e (by omega) (by omega) hk)))))) (zSub_cons (fun _ _ h h' hk => ((zDm_or h55).elim (fun e => zIR_s (zIR_s (zIR_s (zIR_s (zIR_a (by omega) (by omega)))))) (fun e => zIR_s (zIR_s (zIR_s (zIR_s (zIR_s (zIR_a (by omega) (by omega))))))))) zSub_nil))
                show ZW _ _ _ _ _ _ _ (222, [some (.ref 2), some (.int 6), some (.int v28_2), o28_3], [], M57)
                refine w_ic dX5_readFact_222 zi_1 ?_
                refine w_en dX5_readFact_223 rfl ?_
                exact ⟨_, _, rfl, (by have := zt_1; omega), (by have := zt_1; omega), hJ60, trivial⟩
            · skip
              refine w_ine_f dX5_readFact_71 (t := 80) rfl (by omega) ?_
              refine w_lo dX5_readFact_74 rfl rfl rfl rfl ?_
              refine w_ic dX5_readFact_75 zi_1 ?_
              refine w_iv dX5_readFact_76 rfl rfl (As := [.int 1]) rfl rfl hJ42.1.1 zs_2 (Nat.le_of_ble_eq_true rfl) ?_
              refine ZV.imp (k_1286 1 (by have := zt_1; omega) (by have := zt_1; omega) hN hJ42.1) ?_
              rintro _ ⟨x64, M61, rfl, h65, h66, hJ62, hq63⟩
              have hJ67 := zJ_trans hJ42 hJ62 (zSub_cons (fun _ _ h h' hk => zIR_e (by omega) (by omega) hk) (zSub_cons (fun _ _ h h' hk => zIR_s (zIR_e (by omega) (by omega) hk)) zSub_nil))
              show ZW _ _ _ _ _ _ _ (79, [some (.ref 2), some (.int 6), some (.int v28_2), o28_3], [.int x64], M61)
              refine w_eni dX5_readFact_79 rfl (znb (by omega) (by omega)) ?_
              exact ⟨_, _, rfl, (by omega), (by omega), hJ67, trivial⟩
          · skip
            refine w_ine_f dX5_readFact_60 (t := 65) rfl (by omega) ?_
            refine w_ic dX5_readFact_63 zi_0 ?_
            refine w_en dX5_readFact_64 rfl ?_
            exact ⟨_, _, rfl, (by have := zt_0; omega), (by have := zt_0; omega), hJ34, trivial⟩
        · skip
          refine w_ieq_t dX5_readFact_34 (t := 87) rfl (by omega) ?_
          refine w_lo dX5_readFact_87 rfl rfl rfl rfl ?_
          refine w_iv dX5_readFact_88 rfl rfl (As := []) rfl rfl hJ22.1.1 zs_2 (Nat.le_of_ble_eq_true rfl) ?_
          refine ZV.imp (k_1287 hN hJ22.1) ?_
          rintro _ ⟨x71, M68, rfl, h72, h73, hJ69, hq70⟩
          have hJ74 := zJ_trans hJ22 hJ69 zSub_nil
          show ZW _ _ _ _ _ _ _ (91, [some (.ref 2), some (.int 6), some (.int v28_2), o28_3], [.int x71], M68)
          refine w_bi dX5_readFact_91 (c := 24) (by decide) ?_
          rcases Int.decEq x71.toInt (24 : Int) with h75 | h75
          · skip
            refine w_cne_t dX5_readFact_93 (t := 114) rfl (by have := zt_24; omega) ?_
            refine w_lo dX5_readFact_114 rfl rfl rfl rfl ?_
            refine w_lo dX5_readFact_115 rfl rfl rfl rfl ?_
            refine w_iv dX5_readFact_116 rfl rfl (As := [.int 6]) rfl rfl hJ74.1.1 zs_2 (Nat.le_of_ble_eq_true rfl) ?_
            refine ZV.imp (k_1297_c6 hN hJ74.1) ?_
            rintro _ ⟨x79, M76, rfl, h80, h81, hJ77, hq78⟩
            have hJ82 := zJ_trans hJ74 hJ77 (zSub_cons (fun _ _ h h' hk => zIR_e (by omega) (by omega) hk) (zSub_cons (fun _ _ h h' hk => zIR_s (zIR_e (by omega) (by omega) hk)) (zSub_cons (fun _ _ h h' hk => zIR_s (zIR_s (zIR_e (by omega) (by omega) hk))) (zSub_cons (fun _ _ h h' hk => zIR_s (zIR_s (zIR_s (zIR_e (by omega) (by omega) hk)))) (zSub_cons (fun _ _ h h' hk => zIR_s (zIR_s (zIR_s (zIR_s (zIR_a (by omega) (by omega)))))) (zSub_cons (fun _ _ h h' hk => zIR_s (zIR_s (zIR_s (zIR_s (zIR_s (zIR_a (by omega) (by omega))))))) (zSub_cons (fun _ _ h h' hk => zIR_s (zIR_s (zIR_s (zIR_s (zIR_s (zIR_s (zIR_e (by omega) (by omega) hk))))))) zSub_nil)))))))
            show ZW _ _ _ _ _ _ _ (119, [some (.ref 2), some (.int 6), some (.int v28_2), o28_3], [.int x79], M76)
            rcases Int.decEq x79.toInt (0 : Int) with h83 | h83
            · skip
              refine w_ine_t dX5_readFact_119 (t := 124) rfl (by omega) ?_
              refine w_lo dX5_readFact_124 rfl rfl rfl rfl ?_
              refine w_bi dX5_readFact_125 (c := 60) (by decide) ?_
              refine w_iv dX5_readFact_127 rfl rfl (As := [.int 60]) rfl rfl hJ82.1.1 zs_2 (Nat.le_of_ble_eq_true rfl) ?_
              refine ZV.imp (k_1299 60 (by have := zt_60; omega) (by have := zt_60; omega) hN hJ82.1) ?_
              rintro _ ⟨x87, M84, rfl, h88, h89, hJ85, hq86⟩
              have hJ90 := zJ_trans hJ82 hJ85 zSub_nil
              show ZW _ _ _ _ _ _ _ (130, [some (.ref 2), some (.int 6), some (.int v28_2), o28_3], [.int x87], M84)
              rcases Int.decEq x87.toInt (0 : Int) with h91 | h91
              · skip
                refine w_ieq_f dX5_readFact_130 (t := 138) rfl (by omega) ?_
                refine w_bi dX5_readFact_133 (c := (-14)) (by decide) ?_
                refine w_gt dX5_readFact_135 (t := 167) rfl ?_
                exact ih167 M84 v28_2 o28_3 (-14) hJ90 (by omega) (by omega) (by have := zt_m14; omega) (by have := zt_m14; omega) (by have := zt_6; have := zt_m14; omega)
              · skip
                refine w_ieq_t dX5_readFact_130 (t := 138) rfl (by omega) ?_
                refine w_lo dX5_readFact_138 rfl rfl rfl rfl ?_
                refine w_bi dX5_readFact_139 (c := 62) (by decide) ?_
                refine w_iv dX5_readFact_141 rfl rfl (As := [.int 62]) rfl rfl hJ90.1.1 zs_2 (Nat.le_of_ble_eq_true rfl) ?_
                refine ZV.imp (k_1299 62 (by have := zt_62; omega) (by have := zt_62; omega) hN hJ90.1) ?_
                rintro _ ⟨x95, M92, rfl, h96, h97, hJ93, hq94⟩
                have hJ98 := zJ_trans hJ90 hJ93 zSub_nil
                show ZW _ _ _ _ _ _ _ (144, [some (.ref 2), some (.int 6), some (.int v28_2), o28_3], [.int x95], M92)
                rcases Int.decEq x95.toInt (0 : Int) with h99 | h99
                · skip
                  refine w_ieq_f dX5_readFact_144 (t := 152) rfl (by omega) ?_
                  refine w_bi dX5_readFact_147 (c := (-15)) (by decide) ?_
                  refine w_gt dX5_readFact_149 (t := 167) rfl ?_
                  exact ih167 M92 v28_2 o28_3 (-15) hJ98 (by omega) (by omega) (by have := zt_m15; omega) (by have := zt_m15; omega) (by have := zt_6; have := zt_m15; omega)
                · skip
                  refine w_ieq_t dX5_readFact_144 (t := 152) rfl (by omega) ?_
                  refine w_lo dX5_readFact_152 rfl rfl rfl rfl ?_
                  refine w_bi dX5_readFact_153 (c := 61) (by decide) ?_
                  refine w_iv dX5_readFact_155 rfl rfl (As := [.int 61]) rfl rfl hJ98.1.1 zs_2 (Nat.le_of_ble_eq_true rfl) ?_
                  refine ZV.imp (k_1299 61 (by have := zt_61; omega) (by have := zt_61; omega) hN hJ98.1) ?_
                  rintro _ ⟨x103, M100, rfl, h104, h105, hJ101, hq102⟩
                  have hJ106 := zJ_trans hJ98 hJ101 zSub_nil
                  show ZW _ _ _ _ _ _ _ (158, [some (.ref 2), some (.int 6), some (.int v28_2), o28_3], [.int x103], M100)
                  rcases Int.decEq x103.toInt (0 : Int) with h107 | h107
                  · skip
                    refine w_ieq_f dX5_readFact_158 (t := 166) rfl (by omega) ?_
                    refine w_bi dX5_readFact_161 (c := (-16)) (by decide) ?_
                    refine w_gt dX5_readFact_163 (t := 167) rfl ?_
                    exact ih167 M100 v28_2 o28_3 (-16) hJ106 (by omega) (by omega) (by have := zt_m16; omega) (by have := zt_m16; omega) (by have := zt_6; have := zt_m16; omega)
                  · skip
                    refine w_ieq_t dX5_readFact_158 (t := 166) rfl (by omega) ?_
                    refine w_ic dX5_readFact_166 zi_0 ?_
                    exact ih167 M100 v28_2 o28_3 0 hJ106 (by omega) (by omega) (by have := zt_0; omega) (by have := zt_0; omega) (by have := zt_6; have := zt_0; omega)
            · skip
              refine w_ine_f dX5_readFact_119 (t := 124) rfl (by omega) ?_
              refine w_ic dX5_readFact_122 zi_0 ?_
              refine w_en dX5_readFact_123 rfl ?_
              exact ⟨_, _, rfl, (by have := zt_0; omega), (by have := zt_0; omega), hJ82, trivial⟩
          · skip
            refine w_cne_f dX5_readFact_93 (t := 114) rfl (by have := zt_24; omega) ?_
            refine w_lo dX5_readFact_96 rfl rfl rfl rfl ?_
            refine w_iv dX5_readFact_97 rfl rfl (As := []) rfl rfl hJ74.1.1 zs_2 (Nat.le_of_ble_eq_true rfl) ?_
            refine ZV.imp (k_1289 hN hJ74.1) ?_
            rintro _ ⟨M108, rfl, hJ109, hq110⟩
            have hJ111 := zJ_trans hJ74 hJ109 (zSub_cons (fun _ _ h h' hk => zIR_s (zIR_s (zIR_s (zIR_s (zIR_s (zIR_s (zIR_e (by omega) (by omega) hk))))))) zSub_nil)
            show ZW _ _ _ _ _ _ _ (100, [some (.ref 2), some (.int 6), some (.int v28_2), o28_3], [], M108)
            refine w_lo dX5_readFact_100 rfl rfl rfl rfl ?_
            obtain ⟨b112, f113, h114⟩ := zd_2_8 hJ111.1
            have h115 := zDm_b h114
            refine w_gf dX5_readFact_101 rfl hJ111.1.1 zs_2 f113 ?_
            refine w_gf dX5_readFact_104 rfl hJ111.1.1 (zs_1_0 h114) (zr_1_0_15 h114 hJ111.1) ?_
            refine w_ic dX5_readFact_107 zi_1 ?_
            refine w_iv dX5_readFact_108 rfl rfl (As := [.int 1]) rfl rfl hJ111.1.1 (zs_1_13 h114) (Nat.le_of_ble_eq_true rfl) ?_
            refine ZV.imp (k_515 (b112 + 13) (zLw_of h114) 1 hN hJ111.1) ?_
            rintro _ ⟨M116, rfl, hJ117, hq118⟩
            have hJ119 := zJ_trans hJ111 hJ117 (zSub_cons (fun _ _ h h' hk => ((zDm_or h114).elim (fun e => zIR_s (zIR_s (zIR_e (by omega) (by omega) hk))) (fun e => zIR_s (zIR_s (zIR_s (zIR_e (by omega) (by omega) hk)))))) (zSub_cons (fun _ _ h h' hk => ((zDm_or h114).elim (fun e => zIR_s (zIR_s (zIR_s (zIR_s (zIR_a (by omega) (by omega)))))) (fun e => zIR_s (zIR_s (zIR_s (zIR_s (zIR_s (zIR_a (by omega) (by omega))))))))) zSub_nil))
            show ZW _ _ _ _ _ _ _ (111, [some (.ref 2), some (.int 6), some (.int v28_2), o28_3], [], M116)
            refine w_gt dX5_readFact_111 (t := 203) rfl ?_
            refine w_lo dX5_readFact_203 rfl rfl rfl rfl ?_
            refine w_ic dX5_readFact_204 zi_2 ?_
            refine w_remP dX5_readFact_205 (by omega) (by have := zt_2; omega) ?_
            intro x120 h121 h122 h123
            have := zt_2
            refine w_ic dX5_readFact_206 zi_1 ?_
            rcases Int.decEq x120.toInt (1 : Int) with h124 | h124
            · skip
              refine w_cne_t dX5_readFact_207 (t := 222) rfl (by have := zt_1; omega) ?_
              refine w_ic dX5_readFact_222 zi_1 ?_
              refine w_en dX5_readFact_223 rfl ?_
              exact ⟨_, _, rfl, (by have := zt_1; omega), (by have := zt_1; omega), hJ119, trivial⟩
            · skip
              refine w_cne_f dX5_readFact_207 (t := 222) rfl (by have := zt_1; omega) ?_
              refine w_lo dX5_readFact_210 rfl rfl rfl rfl ?_
              have f125 := (hJ117.2 (2) 8 (zNI_k (by decide) (by decide) (zNI (by omega) zNI_nil))).trans (f113)
              refine w_gf dX5_readFact_211 rfl hJ119.1.1 zs_2 f125 ?_
              refine w_gf dX5_readFact_214 rfl hJ119.1.1 (zs_1_0 h114) (zr_1_0_15 h114 hJ119.1) ?_
              refine w_bi dX5_readFact_217 (c := (-8)) (by decide) ?_
              refine w_iv dX5_readFact_219 rfl rfl (As := [.int (-8)]) rfl rfl hJ119.1.1 (zs_1_13 h114) (Nat.le_of_ble_eq_true rfl) ?_
              refine ZV.imp (k_515 (b112 + 13) (zLw_of h114) (-8) hN hJ119.1) ?_
              rintro _ ⟨M126, rfl, hJ127, hq128⟩
              have hJ129 := zJ_trans hJ119 hJ127 (zSub_cons (fun _ _ h h' hk => ((zDm_or h114).elim (fun e => zIR_s (zIR_s (zIR_e (by omega) (by omega) hk))) (fun e => zIR_s (zIR_s (zIR_s (zIR_e (by omega) (by omega) hk)))))) (zSub_cons (fun _ _ h h' hk => ((zDm_or h114).elim (fun e => zIR_s (zIR_s (zIR_s (zIR_s (zIR_a (by omega) (by omega)))))) (fun e => zIR_s (zIR_s (zIR_s (zIR_s (zIR_s (zIR_a (by omega) (by omega))))))))) zSub_nil))
              show ZW _ _ _ _ _ _ _ (222, [some (.ref 2), some (.int 6), some (.int v28_2), o28_3], [], M126)
              refine w_ic dX5_readFact_222 zi_1 ?_
              refine w_en dX5_readFact_223 rfl ?_
              exact ⟨_, _, rfl, (by have := zt_1; omega), (by have := zt_1; omega), hJ129, trivial⟩
      · intro M v167_2 o167_3 s167_0 hJ v167_20 v167_21 s167_00 s167_01 hn
        refine w_lo (ml' := [some (.ref 2), some (.int 6), some (.int v167_2), some (.int s167_0)]) dX5_readFact_167 rfl rfl rfl rfl ?_
        refine w_lo dX5_readFact_168 rfl rfl rfl rfl ?_
        rcases Int.decEq s167_0.toInt (0 : Int) with h130 | h130
        · skip
          refine w_ine_t dX5_readFact_169 (t := 178) rfl (by omega) ?_
          refine w_lo dX5_readFact_178 rfl rfl rfl rfl ?_
          refine w_iv dX5_readFact_179 rfl rfl (As := []) rfl rfl hJ.1.1 zs_2 (Nat.le_of_ble_eq_true rfl) ?_
          refine ZV.imp (k_1289 hN hJ.1) ?_
          rintro _ ⟨M131, rfl, hJ132, hq133⟩
          have hJ134 := zJ_trans hJ hJ132 (zSub_cons (fun _ _ h h' hk => zIR_s (zIR_s (zIR_s (zIR_s (zIR_s (zIR_s (zIR_e (by omega) (by omega) hk))))))) zSub_nil)
          show ZW _ _ _ _ _ _ _ (182, [some (.ref 2), some (.int 6), some (.int v167_2), some (.int s167_0)], [], M131)
          refine w_lo dX5_readFact_182 rfl rfl rfl rfl ?_
          refine w_lo dX5_readFact_183 rfl rfl rfl rfl ?_
          refine w_iv dX5_readFact_184 rfl rfl (As := [.int 6]) rfl rfl hJ134.1.1 zs_2 (Nat.le_of_ble_eq_true rfl) ?_
          refine ZV.imp (k_1297_c6 hN hJ134.1) ?_
          rintro _ ⟨x138, M135, rfl, h139, h140, hJ136, hq137⟩
          have hJ141 := zJ_trans hJ134 hJ136 (zSub_cons (fun _ _ h h' hk => zIR_e (by omega) (by omega) hk) (zSub_cons (fun _ _ h h' hk => zIR_s (zIR_e (by omega) (by omega) hk)) (zSub_cons (fun _ _ h h' hk => zIR_s (zIR_s (zIR_e (by omega) (by omega) hk))) (zSub_cons (fun _ _ h h' hk => zIR_s (zIR_s (zIR_s (zIR_e (by omega) (by omega) hk)))) (zSub_cons (fun _ _ h h' hk => zIR_s (zIR_s (zIR_s (zIR_s (zIR_a (by omega) (by omega)))))) (zSub_cons (fun _ _ h h' hk => zIR_s (zIR_s (zIR_s (zIR_s (zIR_s (zIR_a (by omega) (by omega))))))) (zSub_cons (fun _ _ h h' hk => zIR_s (zIR_s (zIR_s (zIR_s (zIR_s (zIR_s (zIR_e (by omega) (by omega) hk))))))) zSub_nil)))))))
          show ZW _ _ _ _ _ _ _ (187, [some (.ref 2), some (.int 6), some (.int v167_2), some (.int s167_0)], [.int x138], M135)
          rcases Int.decEq x138.toInt (0 : Int) with h142 | h142
          · skip
            refine w_ine_t dX5_readFact_187 (t := 192) rfl (by omega) ?_
            refine w_lo dX5_readFact_192 rfl rfl rfl rfl ?_
            obtain ⟨b143, f144, h145⟩ := zd_2_8 hJ141.1
            have h146 := zDm_b h145
            refine w_gf dX5_readFact_193 rfl hJ141.1.1 zs_2 f144 ?_
            refine w_gf dX5_readFact_196 rfl hJ141.1.1 (zs_1_0 h145) (zr_1_0_15 h145 hJ141.1) ?_
            refine w_lo dX5_readFact_199 rfl rfl rfl rfl ?_
            refine w_iv dX5_readFact_200 rfl rfl (As := [.int s167_0]) rfl rfl hJ141.1.1 (zs_1_13 h145) (Nat.le_of_ble_eq_true rfl) ?_
            refine ZV.imp (k_515 (b143 + 13) (zLw_of h145) s167_0 hN hJ141.1) ?_
            rintro _ ⟨M147, rfl, hJ148, hq149⟩
            have hJ150 := zJ_trans hJ141 hJ148 (zSub_cons (fun _ _ h h' hk => ((zDm_or h145).elim (fun e => zIR_s (zIR_s (zIR_e (by omega) (by omega) hk))) (fun e => zIR_s (zIR_s (zIR_s (zIR_e (by omega) (by omega) hk)))))) (zSub_cons (fun _ _ h h' hk => ((zDm_or h145).elim (fun e => zIR_s (zIR_s (zIR_s (zIR_s (zIR_a (by omega) (by omega)))))) (fun e => zIR_s (zIR_s (zIR_s (zIR_s (zIR_s (zIR_a (by omega) (by omega))))))))) zSub_nil))
            show ZW _ _ _ _ _ _ _ (203, [some (.ref 2), some (.int 6), some (.int v167_2), some (.int s167_0)], [], M147)
            refine w_lo dX5_readFact_203 rfl rfl rfl rfl ?_
            refine w_ic dX5_readFact_204 zi_2 ?_
            refine w_remP dX5_readFact_205 (by omega) (by have := zt_2; omega) ?_
            intro x151 h152 h153 h154
            have := zt_2
            refine w_ic dX5_readFact_206 zi_1 ?_
            rcases Int.decEq x151.toInt (1 : Int) with h155 | h155
            · skip
              refine w_cne_t dX5_readFact_207 (t := 222) rfl (by have := zt_1; omega) ?_
              refine w_ic dX5_readFact_222 zi_1 ?_
              refine w_en dX5_readFact_223 rfl ?_
              exact ⟨_, _, rfl, (by have := zt_1; omega), (by have := zt_1; omega), hJ150, trivial⟩
            · skip
              refine w_cne_f dX5_readFact_207 (t := 222) rfl (by have := zt_1; omega) ?_
              refine w_lo dX5_readFact_210 rfl rfl rfl rfl ?_
              have f156 := (hJ148.2 (2) 8 (zNI_k (by decide) (by decide) (zNI (by omega) zNI_nil))).trans (f144)
              refine w_gf dX5_readFact_211 rfl hJ150.1.1 zs_2 f156 ?_
              refine w_gf dX5_readFact_214 rfl hJ150.1.1 (zs_1_0 h145) (zr_1_0_15 h145 hJ150.1) ?_
              refine w_bi dX5_readFact_217 (c := (-8)) (by decide) ?_
              refine w_iv dX5_readFact_219 rfl rfl (As := [.int (-8)]) rfl rfl hJ150.1.1 (zs_1_13 h145) (Nat.le_of_ble_eq_true rfl) ?_
              refine ZV.imp (k_515 (b143 + 13) (zLw_of h145) (-8) hN hJ150.1) ?_
              rintro _ ⟨M157, rfl, hJ158, hq159⟩
              have hJ160 := zJ_trans hJ150 hJ158 (zSub_cons (fun _ _ h h' hk => ((zDm_or h145).elim (fun e => zIR_s (zIR_s (zIR_e (by omega) (by omega) hk))) (fun e => zIR_s (zIR_s (zIR_s (zIR_e (by omega) (by omega) hk)))))) (zSub_cons (fun _ _ h h' hk => ((zDm_or h145).elim (fun e => zIR_s (zIR_s (zIR_s (zIR_s (zIR_a (by omega) (by omega)))))) (fun e => zIR_s (zIR_s (zIR_s (zIR_s (zIR_s (zIR_a (by omega) (by omega))))))))) zSub_nil))
              show ZW _ _ _ _ _ _ _ (222, [some (.ref 2), some (.int 6), some (.int v167_2), some (.int s167_0)], [], M157)
              refine w_ic dX5_readFact_222 zi_1 ?_
              refine w_en dX5_readFact_223 rfl ?_
              exact ⟨_, _, rfl, (by have := zt_1; omega), (by have := zt_1; omega), hJ160, trivial⟩
          · skip
            refine w_ine_f dX5_readFact_187 (t := 192) rfl (by omega) ?_
            refine w_ic dX5_readFact_190 zi_0 ?_
            refine w_en dX5_readFact_191 rfl ?_
            exact ⟨_, _, rfl, (by have := zt_0; omega), (by have := zt_0; omega), hJ141, trivial⟩
        · skip
          refine w_ine_f dX5_readFact_169 (t := 178) rfl (by omega) ?_
          refine w_lo dX5_readFact_172 rfl rfl rfl rfl ?_
          refine w_ic dX5_readFact_173 zi_1 ?_
          refine w_iv dX5_readFact_174 rfl rfl (As := [.int 1]) rfl rfl hJ.1.1 zs_2 (Nat.le_of_ble_eq_true rfl) ?_
          refine ZV.imp (k_1286 1 (by have := zt_1; omega) (by have := zt_1; omega) hN hJ.1) ?_
          rintro _ ⟨x164, M161, rfl, h165, h166, hJ162, hq163⟩
          have hJ167 := zJ_trans hJ hJ162 (zSub_cons (fun _ _ h h' hk => zIR_e (by omega) (by omega) hk) (zSub_cons (fun _ _ h h' hk => zIR_s (zIR_e (by omega) (by omega) hk)) zSub_nil))
          show ZW _ _ _ _ _ _ _ (177, [some (.ref 2), some (.int 6), some (.int v167_2), some (.int s167_0)], [.int x164], M161)
          refine w_eni dX5_readFact_177 rfl (znb (by omega) (by omega)) ?_
          exact ⟨_, _, rfl, (by omega), (by omega), hJ167, trivial⟩
  obtain ⟨ih2, ih28, ih167⟩ := main 8023
  show ZW _ _ _ _ _ _ _ (0, [some (.ref 2), some (.int 6), none, none], [], M0)
  refine w_ic dX5_readFact_0 zi_0 ?_
  refine w_lo (ml' := [some (.ref 2), some (.int 6), some (.int 0), none]) dX5_readFact_1 rfl rfl rfl rfl ?_
  exact ih2 M0 0 none hJ0 (by have := zt_0; omega) (by have := zt_0; omega) (by have := zt_6; have := zt_0; omega)
set_option maxRecDepth 100000 in
theorem k_1300_c6 {X : List Int32} {d N : Nat} {M0 : zM}  (hN : N ≤ 600) (hB0 : zB N M0) : ZV X (d + 9) 1300 [.ref 2, .int 6] M0 (zRI N [(2, 3, 0), (2, 3, 1), (20, 21, 1), (41, 42, 1), (21, 22, 1000), (42, 43, 1000), (2, 3, 7)] M0 (0) (1) (fun _ _ => True)) := by
  have hJ0 : zJ N [(2, 3, 0), (2, 3, 1), (20, 21, 1), (41, 42, 1), (21, 22, 1000), (42, 43, 1000), (2, 3, 7)] M0 M0 := zJ_refl hB0
  refine ZV.of (ini := false) rfl (Nat.le_of_ble_eq_true rfl) (by decide +kernel) ?_
  have main : ∀ n : Nat,
      (∀ (M : zM) (v2_2 : Int32) (o2_3 : Option Value), zJ N [(2, 3, 0), (2, 3, 1), (20, 21, 1), (41, 42, 1), (21, 22, 1000), (42, 43, 1000), (2, 3, 7)] M0 M → ((0 : Int) ≤ v2_2.toInt) → (v2_2.toInt ≤ 1601) → 9624 * (1601 - v2_2.toInt) + 9622 < (n : Int) → ZW X (d + 8) 5 false (some .boolean) cX5_readTest (zRI N [(2, 3, 0), (2, 3, 1), (20, 21, 1), (41, 42, 1), (21, 22, 1000), (42, 43, 1000), (2, 3, 7)] M0 (0) (1) (fun _ _ => True)) (2, [some (.ref 2), some (.int 6), some (.int v2_2), o2_3], [], M)) ∧
      (∀ (M : zM) (v11_2 : Int32) (v11_3 : Int32), zJ N [(2, 3, 0), (2, 3, 1), (20, 21, 1), (41, 42, 1), (21, 22, 1000), (42, 43, 1000), (2, 3, 7)] M0 M → ((0 : Int) ≤ v11_2.toInt) → (v11_2.toInt ≤ 1600) → ((0 : Int) ≤ v11_3.toInt) → (v11_3.toInt ≤ 1601) → 9624 * (1601 - v11_2.toInt) + 6 * (1601 - v11_3.toInt) + 3 < (n : Int) → ZW X (d + 8) 5 false (some .boolean) cX5_readTest (zRI N [(2, 3, 0), (2, 3, 1), (20, 21, 1), (41, 42, 1), (21, 22, 1000), (42, 43, 1000), (2, 3, 7)] M0 (0) (1) (fun _ _ => True)) (11, [some (.ref 2), some (.int 6), some (.int v11_2), some (.int v11_3)], [], M)) ∧
      (∀ (M : zM) (v44_2 : Int32) (v44_3 : Int32), zJ N [(2, 3, 0), (2, 3, 1), (20, 21, 1), (41, 42, 1), (21, 22, 1000), (42, 43, 1000), (2, 3, 7)] M0 M → ((0 : Int) ≤ v44_2.toInt) → (v44_2.toInt ≤ 1600) → ((0 : Int) ≤ v44_3.toInt) → (v44_3.toInt ≤ 1600) → 9624 * (1601 - v44_2.toInt) + 6 * (1601 - v44_3.toInt) + 2 < (n : Int) → ZW X (d + 8) 5 false (some .boolean) cX5_readTest (zRI N [(2, 3, 0), (2, 3, 1), (20, 21, 1), (41, 42, 1), (21, 22, 1000), (42, 43, 1000), (2, 3, 7)] M0 (0) (1) (fun _ _ => True)) (44, [some (.ref 2), some (.int 6), some (.int v44_2), some (.int v44_3)], [], M)) ∧
      (∀ (M : zM) (v66_2 : Int32) (u66_3 : Int32), zJ N [(2, 3, 0), (2, 3, 1), (20, 21, 1), (41, 42, 1), (21, 22, 1000), (42, 43, 1000), (2, 3, 7)] M0 M → ((0 : Int) ≤ v66_2.toInt) → (v66_2.toInt ≤ 1600) → 9624 * (1601 - v66_2.toInt) + 1 < (n : Int) → ZW X (d + 8) 5 false (some .boolean) cX5_readTest (zRI N [(2, 3, 0), (2, 3, 1), (20, 21, 1), (41, 42, 1), (21, 22, 1000), (42, 43, 1000), (2, 3, 7)] M0 (0) (1) (fun _ _ => True)) (66, [some (.ref 2), some (.int 6), some (.int v66_2), some (.int u66_3)], [], M)) := by
    intro n
    induction n with
    | zero =>
      exact ⟨(fun M v2_2 o2_3 hJ v2_20 v2_21 hn => absurd hn (by omega)), (fun M v11_2 v11_3 hJ v11_20 v11_21 v11_30 v11_31 hn => absurd hn (by omega)), (fun M v44_2 v44_3 hJ v44_20 v44_21 v44_30 v44_31 hn => absurd hn (by omega)), (fun M v66_2 u66_3 hJ v66_20 v66_21 hn => absurd hn (by omega))⟩
    | succ n ih =>
      obtain ⟨ih2, ih11, ih44, ih66⟩ := ih
      refine ⟨?_, ?_, ?_, ?_⟩
      · intro M v2_2 o2_3 hJ v2_20 v2_21 hn
        refine w_lo dX5_readTest_2 rfl rfl rfl rfl ?_
        refine w_si dX5_readTest_3 (c := 1600) (by decide) ?_
        rcases zcut (1600 : Int) v2_2.toInt with h1 | h1
        · skip
          refine w_cgt_t dX5_readTest_6 (t := 104) rfl (by have := zt_1600; omega) ?_
          refine w_ic dX5_readTest_104 zi_1 ?_
          refine w_en dX5_readTest_105 rfl ?_
          exact ⟨_, _, rfl, (by have := zt_1; omega), (by have := zt_1; omega), hJ, trivial⟩
        · skip
          refine w_cgt_f dX5_readTest_6 (t := 104) rfl (by have := zt_1600; omega) ?_
          refine w_ic dX5_readTest_9 zi_0 ?_
          refine w_lo (ml' := [some (.ref 2), some (.int 6), some (.int v2_2), some (.int 0)]) dX5_readTest_10 rfl rfl rfl rfl ?_
          exact ih11 M v2_2 0 hJ (by omega) (by omega) (by have := zt_0; omega) (by have := zt_0; omega) (by have := zt_6; have := zt_0; omega)
      · intro M v11_2 v11_3 hJ v11_20 v11_21 v11_30 v11_31 hn
        refine w_lo dX5_readTest_11 rfl rfl rfl rfl ?_
        refine w_si dX5_readTest_12 (c := 1600) (by decide) ?_
        rcases zcut (1600 : Int) v11_3.toInt with h2 | h2
        · skip
          refine w_cgt_t dX5_readTest_15 (t := 66) rfl (by have := zt_1600; omega) ?_
          exact ih66 M v11_2 v11_3 hJ (by omega) (by omega) (by have := zt_6; omega)
        · skip
          refine w_cgt_f dX5_readTest_15 (t := 66) rfl (by have := zt_1600; omega) ?_
          refine w_lo dX5_readTest_18 rfl rfl rfl rfl ?_
          refine w_lo dX5_readTest_19 rfl rfl rfl rfl ?_
          refine w_iv dX5_readTest_20 rfl rfl (As := [.int 6]) rfl rfl hJ.1.1 zs_2 (Nat.le_of_ble_eq_true rfl) ?_
          refine ZV.imp (k_1301_c6 hN hJ.1) ?_
          rintro _ ⟨x6, M3, rfl, h7, h8, hJ4, hq5⟩
          have hJ9 := zJ_trans hJ hJ4 (zSub_cons (fun _ _ h h' hk => zIR_e (by omega) (by omega) hk) (zSub_cons (fun _ _ h h' hk => zIR_s (zIR_e (by omega) (by omega) hk)) (zSub_cons (fun _ _ h h' hk => zIR_s (zIR_s (zIR_e (by omega) (by omega) hk))) (zSub_cons (fun _ _ h h' hk => zIR_s (zIR_s (zIR_s (zIR_e (by omega) (by omega) hk)))) (zSub_cons (fun _ _ h h' hk => zIR_s (zIR_s (zIR_s (zIR_s (zIR_a (by omega) (by omega)))))) (zSub_cons (fun _ _ h h' hk => zIR_s (zIR_s (zIR_s (zIR_s (zIR_s (zIR_a (by omega) (by omega))))))) (zSub_cons (fun _ _ h h' hk => zIR_s (zIR_s (zIR_s (zIR_s (zIR_s (zIR_s (zIR_e (by omega) (by omega) hk))))))) zSub_nil)))))))
          show ZW _ _ _ _ _ _ _ (23, [some (.ref 2), some (.int 6), some (.int v11_2), some (.int v11_3)], [.int x6], M3)
          rcases Int.decEq x6.toInt (0 : Int) with h10 | h10
          · skip
            refine w_ine_t dX5_readTest_23 (t := 28) rfl (by omega) ?_
            refine w_lo dX5_readTest_28 rfl rfl rfl rfl ?_
            rcases zcut (0 : Int) v11_3.toInt with h11 | h11
            · skip
              refine w_ile_f dX5_readTest_29 (t := 44) rfl (by omega) ?_
              refine w_lo dX5_readTest_32 rfl rfl rfl rfl ?_
              obtain ⟨b12, f13, h14⟩ := zd_2_8 hJ9.1
              have h15 := zDm_b h14
              refine w_gf dX5_readTest_33 rfl hJ9.1.1 zs_2 f13 ?_
              refine w_gf dX5_readTest_36 rfl hJ9.1.1 (zs_1_0 h14) (zr_1_0_15 h14 hJ9.1) ?_
              refine w_bi dX5_readTest_39 (c := (-17)) (by decide) ?_
              refine w_iv dX5_readTest_41 rfl rfl (As := [.int (-17)]) rfl rfl hJ9.1.1 (zs_1_13 h14) (Nat.le_of_ble_eq_true rfl) ?_
              refine ZV.imp (k_515 (b12 + 13) (zLw_of h14) (-17) hN hJ9.1) ?_
              rintro _ ⟨M16, rfl, hJ17, hq18⟩
              have hJ19 := zJ_trans hJ9 hJ17 (zSub_cons (fun _ _ h h' hk => ((zDm_or h14).elim (fun e => zIR_s (zIR_s (zIR_e (by omega) (by omega) hk))) (fun e => zIR_s (zIR_s (zIR_s (zIR_e (by omega) (by omega) hk)))))) (zSub_cons (fun _ _ h h' hk => ((zDm_or h14).elim (fun e => zIR_s (zIR_s (zIR_s (zIR_s (zIR_a (by omega) (by omega)))))) (fun e => zIR_s (zIR_s (zIR_s (zIR_s (zIR_s (zIR_a (by omega) (by omega))))))))) zSub_nil))
              show ZW _ _ _ _ _ _ _ (44, [some (.ref 2), some (.int 6), some (.int v11_2), some (.int v11_3)], [], M16)
              exact ih44 M16 v11_2 v11_3 hJ19 (by omega) (by omega) (by omega) (by omega) (by have := zt_6; omega)
            · skip
              refine w_ile_t dX5_readTest_29 (t := 44) rfl (by omega) ?_
              exact ih44 M3 v11_2 v11_3 hJ9 (by omega) (by omega) (by omega) (by omega) (by have := zt_6; omega)
          · skip
            refine w_ine_f dX5_readTest_23 (t := 28) rfl (by omega) ?_
            refine w_ic dX5_readTest_26 zi_0 ?_
            refine w_en dX5_readTest_27 rfl ?_
            exact ⟨_, _, rfl, (by have := zt_0; omega), (by have := zt_0; omega), hJ9, trivial⟩
      · intro M v44_2 v44_3 hJ v44_20 v44_21 v44_30 v44_31 hn
        refine w_lo dX5_readTest_44 rfl rfl rfl rfl ?_
        refine w_iv dX5_readTest_45 rfl rfl (As := []) rfl rfl hJ.1.1 zs_2 (Nat.le_of_ble_eq_true rfl) ?_
        refine ZV.imp (k_1287 hN hJ.1) ?_
        rintro _ ⟨x23, M20, rfl, h24, h25, hJ21, hq22⟩
        have hJ26 := zJ_trans hJ hJ21 zSub_nil
        show ZW _ _ _ _ _ _ _ (48, [some (.ref 2), some (.int 6), some (.int v44_2), some (.int v44_3)], [.int x23], M20)
        refine w_bi dX5_readTest_48 (c := 22) (by decide) ?_
        rcases Int.decEq x23.toInt (22 : Int) with h27 | h27
        · skip
          refine w_ceq_f dX5_readTest_50 (t := 56) rfl (by have := zt_22; omega) ?_
          refine w_gt dX5_readTest_53 (t := 66) rfl ?_
          exact ih66 M20 v44_2 v44_3 hJ26 (by omega) (by omega) (by have := zt_6; omega)
        · skip
          refine w_ceq_t dX5_readTest_50 (t := 56) rfl (by have := zt_22; omega) ?_
          refine w_lo dX5_readTest_56 rfl rfl rfl rfl ?_
          refine w_iv dX5_readTest_57 rfl rfl (As := []) rfl rfl hJ26.1.1 zs_2 (Nat.le_of_ble_eq_true rfl) ?_
          refine ZV.imp (k_1289 hN hJ26.1) ?_
          rintro _ ⟨M28, rfl, hJ29, hq30⟩
          have hJ31 := zJ_trans hJ26 hJ29 (zSub_cons (fun _ _ h h' hk => zIR_s (zIR_s (zIR_s (zIR_s (zIR_s (zIR_s (zIR_e (by omega) (by omega) hk))))))) zSub_nil)
          show ZW _ _ _ _ _ _ _ (60, [some (.ref 2), some (.int 6), some (.int v44_2), some (.int v44_3)], [], M28)
          refine w_inc (kk := 3) dX5_readTest_60 rfl (m := 1) (by decide) (by omega) ?_
          intro x32 h33
          refine ⟨_, rfl, ?_⟩
          show ZW _ _ _ _ _ _ _ (63, [some (.ref 2), some (.int 6), some (.int v44_2), some (.int x32)], [], M28)
          refine w_gt dX5_readTest_63 (t := 11) rfl ?_
          exact ih11 M28 v44_2 x32 hJ31 (by omega) (by omega) (by omega) (by omega) (by have := zt_6; omega)
      · intro M v66_2 u66_3 hJ v66_20 v66_21 hn
        refine w_lo dX5_readTest_66 rfl rfl rfl rfl ?_
        rcases zcut (0 : Int) v66_2.toInt with h34 | h34
        · skip
          refine w_ile_f dX5_readTest_67 (t := 82) rfl (by omega) ?_
          refine w_lo dX5_readTest_70 rfl rfl rfl rfl ?_
          obtain ⟨b35, f36, h37⟩ := zd_2_8 hJ.1
          have h38 := zDm_b h37
          refine w_gf dX5_readTest_71 rfl hJ.1.1 zs_2 f36 ?_
          refine w_gf dX5_readTest_74 rfl hJ.1.1 (zs_1_0 h37) (zr_1_0_15 h37 hJ.1) ?_
          refine w_bi dX5_readTest_77 (c := (-18)) (by decide) ?_
          refine w_iv dX5_readTest_79 rfl rfl (As := [.int (-18)]) rfl rfl hJ.1.1 (zs_1_13 h37) (Nat.le_of_ble_eq_true rfl) ?_
          refine ZV.imp (k_515 (b35 + 13) (zLw_of h37) (-18) hN hJ.1) ?_
          rintro _ ⟨M39, rfl, hJ40, hq41⟩
          have hJ42 := zJ_trans hJ hJ40 (zSub_cons (fun _ _ h h' hk => ((zDm_or h37).elim (fun e => zIR_s (zIR_s (zIR_e (by omega) (by omega) hk))) (fun e => zIR_s (zIR_s (zIR_s (zIR_e (by omega) (by omega) hk)))))) (zSub_cons (fun _ _ h h' hk => ((zDm_or h37).elim (fun e => zIR_s (zIR_s (zIR_s (zIR_s (zIR_a (by omega) (by omega)))))) (fun e => zIR_s (zIR_s (zIR_s (zIR_s (zIR_s (zIR_a (by omega) (by omega))))))))) zSub_nil))
          show ZW _ _ _ _ _ _ _ (82, [some (.ref 2), some (.int 6), some (.int v66_2), some (.int u66_3)], [], M39)
          refine w_lo dX5_readTest_82 rfl rfl rfl rfl ?_
          refine w_iv dX5_readTest_83 rfl rfl (As := []) rfl rfl hJ42.1.1 zs_2 (Nat.le_of_ble_eq_true rfl) ?_
          refine ZV.imp (k_1287 hN hJ42.1) ?_
          rintro _ ⟨x46, M43, rfl, h47, h48, hJ44, hq45⟩
          have hJ49 := zJ_trans hJ42 hJ44 zSub_nil
          show ZW _ _ _ _ _ _ _ (86, [some (.ref 2), some (.int 6), some (.int v66_2), some (.int u66_3)], [.int x46], M43)
          refine w_bi dX5_readTest_86 (c := 21) (by decide) ?_
          rcases Int.decEq x46.toInt (21 : Int) with h50 | h50
          · skip
            refine w_ceq_f dX5_readTest_88 (t := 94) rfl (by have := zt_21; omega) ?_
            refine w_gt dX5_readTest_91 (t := 104) rfl ?_
            refine w_ic dX5_readTest_104 zi_1 ?_
            refine w_en dX5_readTest_105 rfl ?_
            exact ⟨_, _, rfl, (by have := zt_1; omega), (by have := zt_1; omega), hJ49, trivial⟩
          · skip
            refine w_ceq_t dX5_readTest_88 (t := 94) rfl (by have := zt_21; omega) ?_
            refine w_lo dX5_readTest_94 rfl rfl rfl rfl ?_
            refine w_iv dX5_readTest_95 rfl rfl (As := []) rfl rfl hJ49.1.1 zs_2 (Nat.le_of_ble_eq_true rfl) ?_
            refine ZV.imp (k_1289 hN hJ49.1) ?_
            rintro _ ⟨M51, rfl, hJ52, hq53⟩
            have hJ54 := zJ_trans hJ49 hJ52 (zSub_cons (fun _ _ h h' hk => zIR_s (zIR_s (zIR_s (zIR_s (zIR_s (zIR_s (zIR_e (by omega) (by omega) hk))))))) zSub_nil)
            show ZW _ _ _ _ _ _ _ (98, [some (.ref 2), some (.int 6), some (.int v66_2), some (.int u66_3)], [], M51)
            refine w_inc (kk := 2) dX5_readTest_98 rfl (m := 1) (by decide) (by omega) ?_
            intro x55 h56
            refine ⟨_, rfl, ?_⟩
            show ZW _ _ _ _ _ _ _ (101, [some (.ref 2), some (.int 6), some (.int x55), some (.int u66_3)], [], M51)
            refine w_gt dX5_readTest_101 (t := 2) rfl ?_
            exact ih2 M51 x55 (some (.int u66_3)) hJ54 (by omega) (by omega) (by have := zt_6; omega)
        · skip
          refine w_ile_t dX5_readTest_67 (t := 82) rfl (by omega) ?_
          refine w_lo dX5_readTest_82 rfl rfl rfl rfl ?_
          refine w_iv dX5_readTest_83 rfl rfl (As := []) rfl rfl hJ.1.1 zs_2 (Nat.le_of_ble_eq_true rfl) ?_
          refine ZV.imp (k_1287 hN hJ.1) ?_
          rintro _ ⟨x60, M57, rfl, h61, h62, hJ58, hq59⟩
          have hJ63 := zJ_trans hJ hJ58 zSub_nil
          show ZW _ _ _ _ _ _ _ (86, [some (.ref 2), some (.int 6), some (.int v66_2), some (.int u66_3)], [.int x60], M57)
          refine w_bi dX5_readTest_86 (c := 21) (by decide) ?_
          rcases Int.decEq x60.toInt (21 : Int) with h64 | h64
          · skip
            refine w_ceq_f dX5_readTest_88 (t := 94) rfl (by have := zt_21; omega) ?_
            refine w_gt dX5_readTest_91 (t := 104) rfl ?_
            refine w_ic dX5_readTest_104 zi_1 ?_
            refine w_en dX5_readTest_105 rfl ?_
            exact ⟨_, _, rfl, (by have := zt_1; omega), (by have := zt_1; omega), hJ63, trivial⟩
          · skip
            refine w_ceq_t dX5_readTest_88 (t := 94) rfl (by have := zt_21; omega) ?_
            refine w_lo dX5_readTest_94 rfl rfl rfl rfl ?_
            refine w_iv dX5_readTest_95 rfl rfl (As := []) rfl rfl hJ63.1.1 zs_2 (Nat.le_of_ble_eq_true rfl) ?_
            refine ZV.imp (k_1289 hN hJ63.1) ?_
            rintro _ ⟨M65, rfl, hJ66, hq67⟩
            have hJ68 := zJ_trans hJ63 hJ66 (zSub_cons (fun _ _ h h' hk => zIR_s (zIR_s (zIR_s (zIR_s (zIR_s (zIR_s (zIR_e (by omega) (by omega) hk))))))) zSub_nil)
            show ZW _ _ _ _ _ _ _ (98, [some (.ref 2), some (.int 6), some (.int v66_2), some (.int u66_3)], [], M65)
            refine w_inc (kk := 2) dX5_readTest_98 rfl (m := 1) (by decide) (by omega) ?_
            intro x69 h70
            refine ⟨_, rfl, ?_⟩
            show ZW _ _ _ _ _ _ _ (101, [some (.ref 2), some (.int 6), some (.int x69), some (.int u66_3)], [], M65)
            refine w_gt dX5_readTest_101 (t := 2) rfl ?_
            exact ih2 M65 x69 (some (.int u66_3)) hJ68 (by omega) (by omega) (by have := zt_6; omega)
  obtain ⟨ih2, ih11, ih44, ih66⟩ := main 15436899
  show ZW _ _ _ _ _ _ _ (0, [some (.ref 2), some (.int 6), none, none], [], M0)
  refine w_ic dX5_readTest_0 zi_0 ?_
  refine w_lo (ml' := [some (.ref 2), some (.int 6), some (.int 0), none]) dX5_readTest_1 rfl rfl rfl rfl ?_
  exact ih2 M0 0 none hJ0 (by have := zt_0; omega) (by have := zt_0; omega) (by have := zt_6; have := zt_0; omega)
set_option maxRecDepth 100000 in
theorem k_1301_c5 {X : List Int32} {d N : Nat} {M0 : zM}  (hN : N ≤ 600) (hB0 : zB N M0) : ZV X (d + 10) 1301 [.ref 2, .int 5] M0 (zRI N [(2, 3, 0), (2, 3, 1), (20, 21, 1), (41, 42, 1), (21, 22, 1000), (42, 43, 1000), (2, 3, 7)] M0 (0) (1) (fun _ _ => True)) := by
  have hJ0 : zJ N [(2, 3, 0), (2, 3, 1), (20, 21, 1), (41, 42, 1), (21, 22, 1000), (42, 43, 1000), (2, 3, 7)] M0 M0 := zJ_refl hB0
  refine ZV.of (ini := false) rfl (Nat.le_of_ble_eq_true rfl) (by decide +kernel) ?_
  have main : ∀ n : Nat,
      (∀ (M : zM) (v2_2 : Int32) (o2_3 : Option Value), zJ N [(2, 3, 0), (2, 3, 1), (20, 21, 1), (41, 42, 1), (21, 22, 1000), (42, 43, 1000), (2, 3, 7)] M0 M → ((0 : Int) ≤ v2_2.toInt) → (v2_2.toInt ≤ 1601) → 5 * (1601 - v2_2.toInt) + 3 < (n : Int) → ZW X (d + 9) 5 false (some .boolean) cX5_readFact (zRI N [(2, 3, 0), (2, 3, 1), (20, 21, 1), (41, 42, 1), (21, 22, 1000), (42, 43, 1000), (2, 3, 7)] M0 (0) (1) (fun _ _ => True)) (2, [some (.ref 2), some (.int 5), some (.int v2_2), o2_3], [], M)) ∧
      (∀ (M : zM) (v28_2 : Int32) (o28_3 : Option Value), zJ N [(2, 3, 0), (2, 3, 1), (20, 21, 1), (41, 42, 1), (21, 22, 1000), (42, 43, 1000), (2, 3, 7)] M0 M → ((0 : Int) ≤ v28_2.toInt) → (v28_2.toInt ≤ 1601) → 2 < (n : Int) → ZW X (d + 9) 5 false (some .boolean) cX5_readFact (zRI N [(2, 3, 0), (2, 3, 1), (20, 21, 1), (41, 42, 1), (21, 22, 1000), (42, 43, 1000), (2, 3, 7)] M0 (0) (1) (fun _ _ => True)) (28, [some (.ref 2), some (.int 5), some (.int v28_2), o28_3], [], M)) ∧
      (∀ (M : zM) (v167_2 : Int32) (o167_3 : Option Value) (s167_0 : Int32), zJ N [(2, 3, 0), (2, 3, 1), (20, 21, 1), (41, 42, 1), (21, 22, 1000), (42, 43, 1000), (2, 3, 7)] M0 M → ((0 : Int) ≤ v167_2.toInt) → (v167_2.toInt ≤ 1601) → ((-16 : Int) ≤ s167_0.toInt) → (s167_0.toInt ≤ 0) → 1 < (n : Int) → ZW X (d + 9) 5 false (some .boolean) cX5_readFact (zRI N [(2, 3, 0), (2, 3, 1), (20, 21, 1), (41, 42, 1), (21, 22, 1000), (42, 43, 1000), (2, 3, 7)] M0 (0) (1) (fun _ _ => True)) (167, [some (.ref 2), some (.int 5), some (.int v167_2), o167_3], [.int s167_0], M)) := by
    intro n
    induction n with
    | zero =>
      exact ⟨(fun M v2_2 o2_3 hJ v2_20 v2_21 hn => absurd hn (by omega)), (fun M v28_2 o28_3 hJ v28_20 v28_21 hn => absurd hn (by omega)), (fun M v167_2 o167_3 s167_0 hJ v167_20 v167_21 s167_00 s167_01 hn => absurd hn (by omega))⟩
    | succ n ih =>
      obtain ⟨ih2, ih28, ih167⟩ := ih
      refine ⟨?_, ?_, ?_⟩
      · intro M v2_2 o2_3 hJ v2_20 v2_21 hn
        refine w_lo dX5_readFact_2 rfl rfl rfl rfl ?_
        refine w_si dX5_readFact_3 (c := 1600) (by decide) ?_
        rcases zcut (1600 : Int) v2_2.toInt with h1 | h1
        · skip
          refine w_cgt_t dX5_readFact_6 (t := 28) rfl (by have := zt_1600; omega) ?_
          exact ih28 M v2_2 o2_3 hJ (by omega) (by omega) (by have := zt_5; omega)
        · skip
          refine w_cgt_f dX5_readFact_6 (t := 28) rfl (by have := zt_1600; omega) ?_
          refine w_lo dX5_readFact_9 rfl rfl rfl rfl ?_
          refine w_iv dX5_readFact_10 rfl rfl (As := []) rfl rfl hJ.1.1 zs_2 (Nat.le_of_ble_eq_true rfl) ?_
          refine ZV.imp (k_1287 hN hJ.1) ?_
          rintro _ ⟨x5, M2, rfl, h6, h7, hJ3, hq4⟩
          have hJ8 := zJ_trans hJ hJ3 zSub_nil
          show ZW _ _ _ _ _ _ _ (13, [some (.ref 2), some (.int 5), some (.int v2_2), o2_3], [.int x5], M2)
          refine w_bi dX5_readFact_13 (c := 23) (by decide) ?_
          rcases Int.decEq x5.toInt (23 : Int) with h9 | h9
          · skip
            refine w_cne_t dX5_readFact_15 (t := 28) rfl (by have := zt_23; omega) ?_
            exact ih28 M2 v2_2 o2_3 hJ8 (by omega) (by omega) (by have := zt_5; omega)
          · skip
            refine w_cne_f dX5_readFact_15 (t := 28) rfl (by have := zt_23; omega) ?_
            refine w_lo dX5_readFact_18 rfl rfl rfl rfl ?_
            refine w_iv dX5_readFact_19 rfl rfl (As := []) rfl rfl hJ8.1.1 zs_2 (Nat.le_of_ble_eq_true rfl) ?_
            refine ZV.imp (k_1289 hN hJ8.1) ?_
            rintro _ ⟨M10, rfl, hJ11, hq12⟩
            have hJ13 := zJ_trans hJ8 hJ11 (zSub_cons (fun _ _ h h' hk => zIR_s (zIR_s (zIR_s (zIR_s (zIR_s (zIR_s (zIR_e (by omega) (by omega) hk))))))) zSub_nil)
            show ZW _ _ _ _ _ _ _ (22, [some (.ref 2), some (.int 5), some (.int v2_2), o2_3], [], M10)
            refine w_inc (kk := 2) dX5_readFact_22 rfl (m := 1) (by decide) (by omega) ?_
            intro x14 h15
            refine ⟨_, rfl, ?_⟩
            show ZW _ _ _ _ _ _ _ (25, [some (.ref 2), some (.int 5), some (.int x14), o2_3], [], M10)
            refine w_gt dX5_readFact_25 (t := 2) rfl ?_
            exact ih2 M10 x14 o2_3 hJ13 (by omega) (by omega) (by have := zt_5; omega)
      · intro M v28_2 o28_3 hJ v28_20 v28_21 hn
        refine w_lo dX5_readFact_28 rfl rfl rfl rfl ?_
        refine w_bi dX5_readFact_29 (c := 91) (by decide) ?_
        refine w_iv dX5_readFact_31 rfl rfl (As := [.int 91]) rfl rfl hJ.1.1 zs_2 (Nat.le_of_ble_eq_true rfl) ?_
        refine ZV.imp (k_1299 91 (by have := zt_91; omega) (by have := zt_91; omega) hN hJ.1) ?_
        rintro _ ⟨x19, M16, rfl, h20, h21, hJ17, hq18⟩
        have hJ22 := zJ_trans hJ hJ17 zSub_nil
        show ZW _ _ _ _ _ _ _ (34, [some (.ref 2), some (.int 5), some (.int v28_2), o28_3], [.int x19], M16)
        rcases Int.decEq x19.toInt (0 : Int) with h23 | h23
        · skip
          refine w_ieq_f dX5_readFact_34 (t := 87) rfl (by omega) ?_
          refine w_lo dX5_readFact_37 rfl rfl rfl rfl ?_
          refine w_bi dX5_readFact_38 (c := 8) (by decide) ?_
          refine w_clt_t dX5_readFact_40 (t := 49) rfl (by have := zt_5; have := zt_8; omega) ?_
          refine w_lo dX5_readFact_49 rfl rfl rfl rfl ?_
          refine w_iv dX5_readFact_50 rfl rfl (As := []) rfl rfl hJ22.1.1 zs_2 (Nat.le_of_ble_eq_true rfl) ?_
          refine ZV.imp (k_1289 hN hJ22.1) ?_
          rintro _ ⟨M24, rfl, hJ25, hq26⟩
          have hJ27 := zJ_trans hJ22 hJ25 (zSub_cons (fun _ _ h h' hk => zIR_s (zIR_s (zIR_s (zIR_s (zIR_s (zIR_s (zIR_e (by omega) (by omega) hk))))))) zSub_nil)
          show ZW _ _ _ _ _ _ _ (53, [some (.ref 2), some (.int 5), some (.int v28_2), o28_3], [], M24)
          refine w_lo dX5_readFact_53 rfl rfl rfl rfl ?_
          refine w_lo dX5_readFact_54 rfl rfl rfl rfl ?_
          refine w_ic dX5_readFact_55 zi_1 ?_
          refine w_pu (st' := [.int 6, .ref 2]) dX5_readFact_56 rfl rfl ?_
          refine w_iv dX5_readFact_57 rfl rfl (As := [.int 6]) rfl rfl hJ27.1.1 zs_2 (Nat.le_of_ble_eq_true rfl) ?_
          refine ZV.imp (k_1300_c6 hN hJ27.1) ?_
          rintro _ ⟨x31, M28, rfl, h32, h33, hJ29, hq30⟩
          have hJ34 := zJ_trans hJ27 hJ29 (zSub_cons (fun _ _ h h' hk => zIR_e (by omega) (by omega) hk) (zSub_cons (fun _ _ h h' hk => zIR_s (zIR_e (by omega) (by omega) hk)) (zSub_cons (fun _ _ h h' hk => zIR_s (zIR_s (zIR_e (by omega) (by omega) hk))) (zSub_cons (fun _ _ h h' hk => zIR_s (zIR_s (zIR_s (zIR_e (by omega) (by omega) hk)))) (zSub_cons (fun _ _ h h' hk => zIR_s (zIR_s (zIR_s (zIR_s (zIR_a (by omega) (by omega)))))) (zSub_cons (fun _ _ h h' hk => zIR_s (zIR_s (zIR_s (zIR_s (zIR_s (zIR_a (by omega) (by omega))))))) (zSub_cons (fun _ _ h h' hk => zIR_s (zIR_s (zIR_s (zIR_s (zIR_s (zIR_s (zIR_e (by omega) (by omega) hk))))))) zSub_nil)))))))
          show ZW _ _ _ _ _ _ _ (60, [some (.ref 2), some (.int 5), some (.int v28_2), o28_3], [.int x31], M28)
          rcases Int.decEq x31.toInt (0 : Int) with h35 | h35
          · skip
            refine w_ine_t dX5_readFact_60 (t := 65) rfl (by omega) ?_
            refine w_lo dX5_readFact_65 rfl rfl rfl rfl ?_
            refine w_bi dX5_readFact_66 (c := 93) (by decide) ?_
            refine w_iv dX5_readFact_68 rfl rfl (As := [.int 93]) rfl rfl hJ34.1.1 zs_2 (Nat.le_of_ble_eq_true rfl) ?_
            refine ZV.imp (k_1299 93 (by have := zt_93; omega) (by have := zt_93; omega) hN hJ34.1) ?_
            rintro _ ⟨x39, M36, rfl, h40, h41, hJ37, hq38⟩
            have hJ42 := zJ_trans hJ34 hJ37 zSub_nil
            show ZW _ _ _ _ _ _ _ (71, [some (.ref 2), some (.int 5), some (.int v28_2), o28_3], [.int x39], M36)
            rcases Int.decEq x39.toInt (0 : Int) with h43 | h43
            · skip
              refine w_ine_t dX5_readFact_71 (t := 80) rfl (by omega) ?_
              refine w_lo dX5_readFact_80 rfl rfl rfl rfl ?_
              refine w_iv dX5_readFact_81 rfl rfl (As := []) rfl rfl hJ42.1.1 zs_2 (Nat.le_of_ble_eq_true rfl) ?_
              refine ZV.imp (k_1289 hN hJ42.1) ?_
              rintro _ ⟨M44, rfl, hJ45, hq46⟩
              have hJ47 := zJ_trans hJ42 hJ45 (zSub_cons (fun _ _ h h' hk => zIR_s (zIR_s (zIR_s (zIR_s (zIR_s (zIR_s (zIR_e (by omega) (by omega) hk))))))) zSub_nil)
              show ZW _ _ _ _ _ _ _ (84, [some (.ref 2), some (.int 5), some (.int v28_2), o28_3], [], M44)
              refine w_gt dX5_readFact_84 (t := 203) rfl ?_
              refine w_lo dX5_readFact_203 rfl rfl rfl rfl ?_
              refine w_ic dX5_readFact_204 zi_2 ?_
              refine w_remP dX5_readFact_205 (by omega) (by have := zt_2; omega) ?_
              intro x48 h49 h50 h51
              have := zt_2
              refine w_ic dX5_readFact_206 zi_1 ?_
              rcases Int.decEq x48.toInt (1 : Int) with h52 | h52
              · skip
                refine w_cne_t dX5_readFact_207 (t := 222) rfl (by have := zt_1; omega) ?_
                refine w_ic dX5_readFact_222 zi_1 ?_
                refine w_en dX5_readFact_223 rfl ?_
                exact ⟨_, _, rfl, (by have := zt_1; omega), (by have := zt_1; omega), hJ47, trivial⟩
              · skip
                refine w_cne_f dX5_readFact_207 (t := 222) rfl (by have := zt_1; omega) ?_
                refine w_lo dX5_readFact_210 rfl rfl rfl rfl ?_
                obtain ⟨b53, f54, h55⟩ := zd_2_8 hJ47.1
                have h56 := zDm_b h55
                refine w_gf dX5_readFact_211 rfl hJ47.1.1 zs_2 f54 ?_
                refine w_gf dX5_readFact_214 rfl hJ47.1.1 (zs_1_0 h55) (zr_1_0_15 h55 hJ47.1) ?_
                refine w_bi dX5_readFact_217 (c := (-8)) (by decide) ?_
                refine w_iv dX5_readFact_219 rfl rfl (As := [.int (-8)]) rfl rfl hJ47.1.1 (zs_1_13 h55) (Nat.le_of_ble_eq_true rfl) ?_
                refine ZV.imp (k_515 (b53 + 13) (zLw_of h55) (-8) hN hJ47.1) ?_
                rintro _ ⟨M57, rfl, hJ58, hq59⟩
                have hJ60 := zJ_trans hJ47 hJ58 (zSub_cons (fun _ _ h h' hk => ((zDm_or h55).elim (fun e => zIR_s (zIR_s (zIR_e (by omega) (by omega) hk))) (fun e => zIR_s (zIR_s (zIR_s (zIR_e (by omega) (by omega) hk)))))) (zSub_cons (fun _ _ h h' hk => ((zDm_or h55).elim (fun e => zIR_s (zIR_s (zIR_s (zIR_s (zIR_a (by omega) (by omega)))))) (fun e => zIR_s (zIR_s (zIR_s (zIR_s (zIR_s (zIR_a (by omega) (by omega))))))))) zSub_nil))
                show ZW _ _ _ _ _ _ _ (222, [some (.ref 2), some (.int 5), some (.int v28_2), o28_3], [], M57)
                refine w_ic dX5_readFact_222 zi_1 ?_
                refine w_en dX5_readFact_223 rfl ?_
                exact ⟨_, _, rfl, (by have := zt_1; omega), (by have := zt_1; omega), hJ60, trivial⟩
            · skip
              refine w_ine_f dX5_readFact_71 (t := 80) rfl (by omega) ?_
              refine w_lo dX5_readFact_74 rfl rfl rfl rfl ?_
              refine w_ic dX5_readFact_75 zi_1 ?_
              refine w_iv dX5_readFact_76 rfl rfl (As := [.int 1]) rfl rfl hJ42.1.1 zs_2 (Nat.le_of_ble_eq_true rfl) ?_
              refine ZV.imp (k_1286 1 (by have := zt_1; omega) (by have := zt_1; omega) hN hJ42.1) ?_
              rintro _ ⟨x64, M61, rfl, h65, h66, hJ62, hq63⟩
              have hJ67 := zJ_trans hJ42 hJ62 (zSub_cons (fun _ _ h h' hk => zIR_e (by omega) (by omega) hk) (zSub_cons (fun _ _ h h' hk => zIR_s (zIR_e (by omega) (by omega) hk)) zSub_nil))
              show ZW _ _ _ _ _ _ _ (79, [some (.ref 2), some (.int 5), some (.int v28_2), o28_3], [.int x64], M61)
              refine w_eni dX5_readFact_79 rfl (znb (by omega) (by omega)) ?_
              exact ⟨_, _, rfl, (by omega), (by omega), hJ67, trivial⟩
          · skip
            refine w_ine_f dX5_readFact_60 (t := 65) rfl (by omega) ?_
            refine w_ic dX5_readFact_63 zi_0 ?_
            refine w_en dX5_readFact_64 rfl ?_
            exact ⟨_, _, rfl, (by have := zt_0; omega), (by have := zt_0; omega), hJ34, trivial⟩
        · skip
          refine w_ieq_t dX5_readFact_34 (t := 87) rfl (by omega) ?_
          refine w_lo dX5_readFact_87 rfl rfl rfl rfl ?_
          refine w_iv dX5_readFact_88 rfl rfl (As := []) rfl rfl hJ22.1.1 zs_2 (Nat.le_of_ble_eq_true rfl) ?_
          refine ZV.imp (k_1287 hN hJ22.1) ?_
          rintro _ ⟨x71, M68, rfl, h72, h73, hJ69, hq70⟩
          have hJ74 := zJ_trans hJ22 hJ69 zSub_nil
          show ZW _ _ _ _ _ _ _ (91, [some (.ref 2), some (.int 5), some (.int v28_2), o28_3], [.int x71], M68)
          refine w_bi dX5_readFact_91 (c := 24) (by decide) ?_
          rcases Int.decEq x71.toInt (24 : Int) with h75 | h75
          · skip
            refine w_cne_t dX5_readFact_93 (t := 114) rfl (by have := zt_24; omega) ?_
            refine w_lo dX5_readFact_114 rfl rfl rfl rfl ?_
            refine w_lo dX5_readFact_115 rfl rfl rfl rfl ?_
            refine w_iv dX5_readFact_116 rfl rfl (As := [.int 5]) rfl rfl hJ74.1.1 zs_2 (Nat.le_of_ble_eq_true rfl) ?_
            refine ZV.imp (k_1297_c5 hN hJ74.1) ?_
            rintro _ ⟨x79, M76, rfl, h80, h81, hJ77, hq78⟩
            have hJ82 := zJ_trans hJ74 hJ77 (zSub_cons (fun _ _ h h' hk => zIR_e (by omega) (by omega) hk) (zSub_cons (fun _ _ h h' hk => zIR_s (zIR_e (by omega) (by omega) hk)) (zSub_cons (fun _ _ h h' hk => zIR_s (zIR_s (zIR_e (by omega) (by omega) hk))) (zSub_cons (fun _ _ h h' hk => zIR_s (zIR_s (zIR_s (zIR_e (by omega) (by omega) hk)))) (zSub_cons (fun _ _ h h' hk => zIR_s (zIR_s (zIR_s (zIR_s (zIR_a (by omega) (by omega)))))) (zSub_cons (fun _ _ h h' hk => zIR_s (zIR_s (zIR_s (zIR_s (zIR_s (zIR_a (by omega) (by omega))))))) (zSub_cons (fun _ _ h h' hk => zIR_s (zIR_s (zIR_s (zIR_s (zIR_s (zIR_s (zIR_e (by omega) (by omega) hk))))))) zSub_nil)))))))
            show ZW _ _ _ _ _ _ _ (119, [some (.ref 2), some (.int 5), some (.int v28_2), o28_3], [.int x79], M76)
            rcases Int.decEq x79.toInt (0 : Int) with h83 | h83
            · skip
              refine w_ine_t dX5_readFact_119 (t := 124) rfl (by omega) ?_
              refine w_lo dX5_readFact_124 rfl rfl rfl rfl ?_
              refine w_bi dX5_readFact_125 (c := 60) (by decide) ?_
              refine w_iv dX5_readFact_127 rfl rfl (As := [.int 60]) rfl rfl hJ82.1.1 zs_2 (Nat.le_of_ble_eq_true rfl) ?_
              refine ZV.imp (k_1299 60 (by have := zt_60; omega) (by have := zt_60; omega) hN hJ82.1) ?_
              rintro _ ⟨x87, M84, rfl, h88, h89, hJ85, hq86⟩
              have hJ90 := zJ_trans hJ82 hJ85 zSub_nil
              show ZW _ _ _ _ _ _ _ (130, [some (.ref 2), some (.int 5), some (.int v28_2), o28_3], [.int x87], M84)
              rcases Int.decEq x87.toInt (0 : Int) with h91 | h91
              · skip
                refine w_ieq_f dX5_readFact_130 (t := 138) rfl (by omega) ?_
                refine w_bi dX5_readFact_133 (c := (-14)) (by decide) ?_
                refine w_gt dX5_readFact_135 (t := 167) rfl ?_
                exact ih167 M84 v28_2 o28_3 (-14) hJ90 (by omega) (by omega) (by have := zt_m14; omega) (by have := zt_m14; omega) (by have := zt_5; have := zt_m14; omega)
              · skip
                refine w_ieq_t dX5_readFact_130 (t := 138) rfl (by omega) ?_
                refine w_lo dX5_readFact_138 rfl rfl rfl rfl ?_
                refine w_bi dX5_readFact_139 (c := 62) (by decide) ?_
                refine w_iv dX5_readFact_141 rfl rfl (As := [.int 62]) rfl rfl hJ90.1.1 zs_2 (Nat.le_of_ble_eq_true rfl) ?_
                refine ZV.imp (k_1299 62 (by have := zt_62; omega) (by have := zt_62; omega) hN hJ90.1) ?_
                rintro _ ⟨x95, M92, rfl, h96, h97, hJ93, hq94⟩
                have hJ98 := zJ_trans hJ90 hJ93 zSub_nil
                show ZW _ _ _ _ _ _ _ (144, [some (.ref 2), some (.int 5), some (.int v28_2), o28_3], [.int x95], M92)
                rcases Int.decEq x95.toInt (0 : Int) with h99 | h99
                · skip
                  refine w_ieq_f dX5_readFact_144 (t := 152) rfl (by omega) ?_
                  refine w_bi dX5_readFact_147 (c := (-15)) (by decide) ?_
                  refine w_gt dX5_readFact_149 (t := 167) rfl ?_
                  exact ih167 M92 v28_2 o28_3 (-15) hJ98 (by omega) (by omega) (by have := zt_m15; omega) (by have := zt_m15; omega) (by have := zt_5; have := zt_m15; omega)
                · skip
                  refine w_ieq_t dX5_readFact_144 (t := 152) rfl (by omega) ?_
                  refine w_lo dX5_readFact_152 rfl rfl rfl rfl ?_
                  refine w_bi dX5_readFact_153 (c := 61) (by decide) ?_
                  refine w_iv dX5_readFact_155 rfl rfl (As := [.int 61]) rfl rfl hJ98.1.1 zs_2 (Nat.le_of_ble_eq_true rfl) ?_
                  refine ZV.imp (k_1299 61 (by have := zt_61; omega) (by have := zt_61; omega) hN hJ98.1) ?_
                  rintro _ ⟨x103, M100, rfl, h104, h105, hJ101, hq102⟩
                  have hJ106 := zJ_trans hJ98 hJ101 zSub_nil
                  show ZW _ _ _ _ _ _ _ (158, [some (.ref 2), some (.int 5), some (.int v28_2), o28_3], [.int x103], M100)
                  rcases Int.decEq x103.toInt (0 : Int) with h107 | h107
                  · skip
                    refine w_ieq_f dX5_readFact_158 (t := 166) rfl (by omega) ?_
                    refine w_bi dX5_readFact_161 (c := (-16)) (by decide) ?_
                    refine w_gt dX5_readFact_163 (t := 167) rfl ?_
                    exact ih167 M100 v28_2 o28_3 (-16) hJ106 (by omega) (by omega) (by have := zt_m16; omega) (by have := zt_m16; omega) (by have := zt_5; have := zt_m16; omega)
                  · skip
                    refine w_ieq_t dX5_readFact_158 (t := 166) rfl (by omega) ?_
                    refine w_ic dX5_readFact_166 zi_0 ?_
                    exact ih167 M100 v28_2 o28_3 0 hJ106 (by omega) (by omega) (by have := zt_0; omega) (by have := zt_0; omega) (by have := zt_5; have := zt_0; omega)
            · skip
              refine w_ine_f dX5_readFact_119 (t := 124) rfl (by omega) ?_
              refine w_ic dX5_readFact_122 zi_0 ?_
              refine w_en dX5_readFact_123 rfl ?_
              exact ⟨_, _, rfl, (by have := zt_0; omega), (by have := zt_0; omega), hJ82, trivial⟩
          · skip
            refine w_cne_f dX5_readFact_93 (t := 114) rfl (by have := zt_24; omega) ?_
            refine w_lo dX5_readFact_96 rfl rfl rfl rfl ?_
            refine w_iv dX5_readFact_97 rfl rfl (As := []) rfl rfl hJ74.1.1 zs_2 (Nat.le_of_ble_eq_true rfl) ?_
            refine ZV.imp (k_1289 hN hJ74.1) ?_
            rintro _ ⟨M108, rfl, hJ109, hq110⟩
            have hJ111 := zJ_trans hJ74 hJ109 (zSub_cons (fun _ _ h h' hk => zIR_s (zIR_s (zIR_s (zIR_s (zIR_s (zIR_s (zIR_e (by omega) (by omega) hk))))))) zSub_nil)
            show ZW _ _ _ _ _ _ _ (100, [some (.ref 2), some (.int 5), some (.int v28_2), o28_3], [], M108)
            refine w_lo dX5_readFact_100 rfl rfl rfl rfl ?_
            obtain ⟨b112, f113, h114⟩ := zd_2_8 hJ111.1
            have h115 := zDm_b h114
            refine w_gf dX5_readFact_101 rfl hJ111.1.1 zs_2 f113 ?_
            refine w_gf dX5_readFact_104 rfl hJ111.1.1 (zs_1_0 h114) (zr_1_0_15 h114 hJ111.1) ?_
            refine w_ic dX5_readFact_107 zi_1 ?_
            refine w_iv dX5_readFact_108 rfl rfl (As := [.int 1]) rfl rfl hJ111.1.1 (zs_1_13 h114) (Nat.le_of_ble_eq_true rfl) ?_
            refine ZV.imp (k_515 (b112 + 13) (zLw_of h114) 1 hN hJ111.1) ?_
            rintro _ ⟨M116, rfl, hJ117, hq118⟩
            have hJ119 := zJ_trans hJ111 hJ117 (zSub_cons (fun _ _ h h' hk => ((zDm_or h114).elim (fun e => zIR_s (zIR_s (zIR_e (by omega) (by omega) hk))) (fun e => zIR_s (zIR_s (zIR_s (zIR_e (by omega) (by omega) hk)))))) (zSub_cons (fun _ _ h h' hk => ((zDm_or h114).elim (fun e => zIR_s (zIR_s (zIR_s (zIR_s (zIR_a (by omega) (by omega)))))) (fun e => zIR_s (zIR_s (zIR_s (zIR_s (zIR_s (zIR_a (by omega) (by omega))))))))) zSub_nil))
            show ZW _ _ _ _ _ _ _ (111, [some (.ref 2), some (.int 5), some (.int v28_2), o28_3], [], M116)
            refine w_gt dX5_readFact_111 (t := 203) rfl ?_
            refine w_lo dX5_readFact_203 rfl rfl rfl rfl ?_
            refine w_ic dX5_readFact_204 zi_2 ?_
            refine w_remP dX5_readFact_205 (by omega) (by have := zt_2; omega) ?_
            intro x120 h121 h122 h123
            have := zt_2
            refine w_ic dX5_readFact_206 zi_1 ?_
            rcases Int.decEq x120.toInt (1 : Int) with h124 | h124
            · skip
              refine w_cne_t dX5_readFact_207 (t := 222) rfl (by have := zt_1; omega) ?_
              refine w_ic dX5_readFact_222 zi_1 ?_
              refine w_en dX5_readFact_223 rfl ?_
              exact ⟨_, _, rfl, (by have := zt_1; omega), (by have := zt_1; omega), hJ119, trivial⟩
            · skip
              refine w_cne_f dX5_readFact_207 (t := 222) rfl (by have := zt_1; omega) ?_
              refine w_lo dX5_readFact_210 rfl rfl rfl rfl ?_
              have f125 := (hJ117.2 (2) 8 (zNI_k (by decide) (by decide) (zNI (by omega) zNI_nil))).trans (f113)
              refine w_gf dX5_readFact_211 rfl hJ119.1.1 zs_2 f125 ?_
              refine w_gf dX5_readFact_214 rfl hJ119.1.1 (zs_1_0 h114) (zr_1_0_15 h114 hJ119.1) ?_
              refine w_bi dX5_readFact_217 (c := (-8)) (by decide) ?_
              refine w_iv dX5_readFact_219 rfl rfl (As := [.int (-8)]) rfl rfl hJ119.1.1 (zs_1_13 h114) (Nat.le_of_ble_eq_true rfl) ?_
              refine ZV.imp (k_515 (b112 + 13) (zLw_of h114) (-8) hN hJ119.1) ?_
              rintro _ ⟨M126, rfl, hJ127, hq128⟩
              have hJ129 := zJ_trans hJ119 hJ127 (zSub_cons (fun _ _ h h' hk => ((zDm_or h114).elim (fun e => zIR_s (zIR_s (zIR_e (by omega) (by omega) hk))) (fun e => zIR_s (zIR_s (zIR_s (zIR_e (by omega) (by omega) hk)))))) (zSub_cons (fun _ _ h h' hk => ((zDm_or h114).elim (fun e => zIR_s (zIR_s (zIR_s (zIR_s (zIR_a (by omega) (by omega)))))) (fun e => zIR_s (zIR_s (zIR_s (zIR_s (zIR_s (zIR_a (by omega) (by omega))))))))) zSub_nil))
              show ZW _ _ _ _ _ _ _ (222, [some (.ref 2), some (.int 5), some (.int v28_2), o28_3], [], M126)
              refine w_ic dX5_readFact_222 zi_1 ?_
              refine w_en dX5_readFact_223 rfl ?_
              exact ⟨_, _, rfl, (by have := zt_1; omega), (by have := zt_1; omega), hJ129, trivial⟩
      · intro M v167_2 o167_3 s167_0 hJ v167_20 v167_21 s167_00 s167_01 hn
        refine w_lo (ml' := [some (.ref 2), some (.int 5), some (.int v167_2), some (.int s167_0)]) dX5_readFact_167 rfl rfl rfl rfl ?_
        refine w_lo dX5_readFact_168 rfl rfl rfl rfl ?_
        rcases Int.decEq s167_0.toInt (0 : Int) with h130 | h130
        · skip
          refine w_ine_t dX5_readFact_169 (t := 178) rfl (by omega) ?_
          refine w_lo dX5_readFact_178 rfl rfl rfl rfl ?_
          refine w_iv dX5_readFact_179 rfl rfl (As := []) rfl rfl hJ.1.1 zs_2 (Nat.le_of_ble_eq_true rfl) ?_
          refine ZV.imp (k_1289 hN hJ.1) ?_
          rintro _ ⟨M131, rfl, hJ132, hq133⟩
          have hJ134 := zJ_trans hJ hJ132 (zSub_cons (fun _ _ h h' hk => zIR_s (zIR_s (zIR_s (zIR_s (zIR_s (zIR_s (zIR_e (by omega) (by omega) hk))))))) zSub_nil)
          show ZW _ _ _ _ _ _ _ (182, [some (.ref 2), some (.int 5), some (.int v167_2), some (.int s167_0)], [], M131)
          refine w_lo dX5_readFact_182 rfl rfl rfl rfl ?_
          refine w_lo dX5_readFact_183 rfl rfl rfl rfl ?_
          refine w_iv dX5_readFact_184 rfl rfl (As := [.int 5]) rfl rfl hJ134.1.1 zs_2 (Nat.le_of_ble_eq_true rfl) ?_
          refine ZV.imp (k_1297_c5 hN hJ134.1) ?_
          rintro _ ⟨x138, M135, rfl, h139, h140, hJ136, hq137⟩
          have hJ141 := zJ_trans hJ134 hJ136 (zSub_cons (fun _ _ h h' hk => zIR_e (by omega) (by omega) hk) (zSub_cons (fun _ _ h h' hk => zIR_s (zIR_e (by omega) (by omega) hk)) (zSub_cons (fun _ _ h h' hk => zIR_s (zIR_s (zIR_e (by omega) (by omega) hk))) (zSub_cons (fun _ _ h h' hk => zIR_s (zIR_s (zIR_s (zIR_e (by omega) (by omega) hk)))) (zSub_cons (fun _ _ h h' hk => zIR_s (zIR_s (zIR_s (zIR_s (zIR_a (by omega) (by omega)))))) (zSub_cons (fun _ _ h h' hk => zIR_s (zIR_s (zIR_s (zIR_s (zIR_s (zIR_a (by omega) (by omega))))))) (zSub_cons (fun _ _ h h' hk => zIR_s (zIR_s (zIR_s (zIR_s (zIR_s (zIR_s (zIR_e (by omega) (by omega) hk))))))) zSub_nil)))))))
          show ZW _ _ _ _ _ _ _ (187, [some (.ref 2), some (.int 5), some (.int v167_2), some (.int s167_0)], [.int x138], M135)
          rcases Int.decEq x138.toInt (0 : Int) with h142 | h142
          · skip
            refine w_ine_t dX5_readFact_187 (t := 192) rfl (by omega) ?_
            refine w_lo dX5_readFact_192 rfl rfl rfl rfl ?_
            obtain ⟨b143, f144, h145⟩ := zd_2_8 hJ141.1
            have h146 := zDm_b h145
            refine w_gf dX5_readFact_193 rfl hJ141.1.1 zs_2 f144 ?_
            refine w_gf dX5_readFact_196 rfl hJ141.1.1 (zs_1_0 h145) (zr_1_0_15 h145 hJ141.1) ?_
            refine w_lo dX5_readFact_199 rfl rfl rfl rfl ?_
            refine w_iv dX5_readFact_200 rfl rfl (As := [.int s167_0]) rfl rfl hJ141.1.1 (zs_1_13 h145) (Nat.le_of_ble_eq_true rfl) ?_
            refine ZV.imp (k_515 (b143 + 13) (zLw_of h145) s167_0 hN hJ141.1) ?_
            rintro _ ⟨M147, rfl, hJ148, hq149⟩
            have hJ150 := zJ_trans hJ141 hJ148 (zSub_cons (fun _ _ h h' hk => ((zDm_or h145).elim (fun e => zIR_s (zIR_s (zIR_e (by omega) (by omega) hk))) (fun e => zIR_s (zIR_s (zIR_s (zIR_e (by omega) (by omega) hk)))))) (zSub_cons (fun _ _ h h' hk => ((zDm_or h145).elim (fun e => zIR_s (zIR_s (zIR_s (zIR_s (zIR_a (by omega) (by omega)))))) (fun e => zIR_s (zIR_s (zIR_s (zIR_s (zIR_s (zIR_a (by omega) (by omega))))))))) zSub_nil))
            show ZW _ _ _ _ _ _ _ (203, [some (.ref 2), some (.int 5), some (.int v167_2), some (.int s167_0)], [], M147)
            refine w_lo dX5_readFact_203 rfl rfl rfl rfl ?_
            refine w_ic dX5_readFact_204 zi_2 ?_
            refine w_remP dX5_readFact_205 (by omega) (by have := zt_2; omega) ?_
            intro x151 h152 h153 h154
            have := zt_2
            refine w_ic dX5_readFact_206 zi_1 ?_
            rcases Int.decEq x151.toInt (1 : Int) with h155 | h155
            · skip
              refine w_cne_t dX5_readFact_207 (t := 222) rfl (by have := zt_1; omega) ?_
              refine w_ic dX5_readFact_222 zi_1 ?_
              refine w_en dX5_readFact_223 rfl ?_
              exact ⟨_, _, rfl, (by have := zt_1; omega), (by have := zt_1; omega), hJ150, trivial⟩
            · skip
              refine w_cne_f dX5_readFact_207 (t := 222) rfl (by have := zt_1; omega) ?_
              refine w_lo dX5_readFact_210 rfl rfl rfl rfl ?_
              have f156 := (hJ148.2 (2) 8 (zNI_k (by decide) (by decide) (zNI (by omega) zNI_nil))).trans (f144)
              refine w_gf dX5_readFact_211 rfl hJ150.1.1 zs_2 f156 ?_
              refine w_gf dX5_readFact_214 rfl hJ150.1.1 (zs_1_0 h145) (zr_1_0_15 h145 hJ150.1) ?_
              refine w_bi dX5_readFact_217 (c := (-8)) (by decide) ?_
              refine w_iv dX5_readFact_219 rfl rfl (As := [.int (-8)]) rfl rfl hJ150.1.1 (zs_1_13 h145) (Nat.le_of_ble_eq_true rfl) ?_
              refine ZV.imp (k_515 (b143 + 13) (zLw_of h145) (-8) hN hJ150.1) ?_
              rintro _ ⟨M157, rfl, hJ158, hq159⟩
              have hJ160 := zJ_trans hJ150 hJ158 (zSub_cons (fun _ _ h h' hk => ((zDm_or h145).elim (fun e => zIR_s (zIR_s (zIR_e (by omega) (by omega) hk))) (fun e => zIR_s (zIR_s (zIR_s (zIR_e (by omega) (by omega) hk)))))) (zSub_cons (fun _ _ h h' hk => ((zDm_or h145).elim (fun e => zIR_s (zIR_s (zIR_s (zIR_s (zIR_a (by omega) (by omega)))))) (fun e => zIR_s (zIR_s (zIR_s (zIR_s (zIR_s (zIR_a (by omega) (by omega))))))))) zSub_nil))
              show ZW _ _ _ _ _ _ _ (222, [some (.ref 2), some (.int 5), some (.int v167_2), some (.int s167_0)], [], M157)
              refine w_ic dX5_readFact_222 zi_1 ?_
              refine w_en dX5_readFact_223 rfl ?_
              exact ⟨_, _, rfl, (by have := zt_1; omega), (by have := zt_1; omega), hJ160, trivial⟩
          · skip
            refine w_ine_f dX5_readFact_187 (t := 192) rfl (by omega) ?_
            refine w_ic dX5_readFact_190 zi_0 ?_
            refine w_en dX5_readFact_191 rfl ?_
            exact ⟨_, _, rfl, (by have := zt_0; omega), (by have := zt_0; omega), hJ141, trivial⟩
        · skip
          refine w_ine_f dX5_readFact_169 (t := 178) rfl (by omega) ?_
          refine w_lo dX5_readFact_172 rfl rfl rfl rfl ?_
          refine w_ic dX5_readFact_173 zi_1 ?_
          refine w_iv dX5_readFact_174 rfl rfl (As := [.int 1]) rfl rfl hJ.1.1 zs_2 (Nat.le_of_ble_eq_true rfl) ?_
          refine ZV.imp (k_1286 1 (by have := zt_1; omega) (by have := zt_1; omega) hN hJ.1) ?_
          rintro _ ⟨x164, M161, rfl, h165, h166, hJ162, hq163⟩
          have hJ167 := zJ_trans hJ hJ162 (zSub_cons (fun _ _ h h' hk => zIR_e (by omega) (by omega) hk) (zSub_cons (fun _ _ h h' hk => zIR_s (zIR_e (by omega) (by omega) hk)) zSub_nil))
          show ZW _ _ _ _ _ _ _ (177, [some (.ref 2), some (.int 5), some (.int v167_2), some (.int s167_0)], [.int x164], M161)
          refine w_eni dX5_readFact_177 rfl (znb (by omega) (by omega)) ?_
          exact ⟨_, _, rfl, (by omega), (by omega), hJ167, trivial⟩
  obtain ⟨ih2, ih28, ih167⟩ := main 8023
  show ZW _ _ _ _ _ _ _ (0, [some (.ref 2), some (.int 5), none, none], [], M0)
  refine w_ic dX5_readFact_0 zi_0 ?_
  refine w_lo (ml' := [some (.ref 2), some (.int 5), some (.int 0), none]) dX5_readFact_1 rfl rfl rfl rfl ?_
  exact ih2 M0 0 none hJ0 (by have := zt_0; omega) (by have := zt_0; omega) (by have := zt_5; have := zt_0; omega)
set_option maxRecDepth 100000 in
theorem k_1300_c5 {X : List Int32} {d N : Nat} {M0 : zM}  (hN : N ≤ 600) (hB0 : zB N M0) : ZV X (d + 11) 1300 [.ref 2, .int 5] M0 (zRI N [(2, 3, 0), (2, 3, 1), (20, 21, 1), (41, 42, 1), (21, 22, 1000), (42, 43, 1000), (2, 3, 7)] M0 (0) (1) (fun _ _ => True)) := by
  have hJ0 : zJ N [(2, 3, 0), (2, 3, 1), (20, 21, 1), (41, 42, 1), (21, 22, 1000), (42, 43, 1000), (2, 3, 7)] M0 M0 := zJ_refl hB0
  refine ZV.of (ini := false) rfl (Nat.le_of_ble_eq_true rfl) (by decide +kernel) ?_
  have main : ∀ n : Nat,
      (∀ (M : zM) (v2_2 : Int32) (o2_3 : Option Value), zJ N [(2, 3, 0), (2, 3, 1), (20, 21, 1), (41, 42, 1), (21, 22, 1000), (42, 43, 1000), (2, 3, 7)] M0 M → ((0 : Int) ≤ v2_2.toInt) → (v2_2.toInt ≤ 1601) → 9624 * (1601 - v2_2.toInt) + 9622 < (n : Int) → ZW X (d + 10) 5 false (some .boolean) cX5_readTest (zRI N [(2, 3, 0), (2, 3, 1), (20, 21, 1), (41, 42, 1), (21, 22, 1000), (42, 43, 1000), (2, 3, 7)] M0 (0) (1) (fun _ _ => True)) (2, [some (.ref 2), some (.int 5), some (.int v2_2), o2_3], [], M)) ∧
      (∀ (M : zM) (v11_2 : Int32) (v11_3 : Int32), zJ N [(2, 3, 0), (2, 3, 1), (20, 21, 1), (41, 42, 1), (21, 22, 1000), (42, 43, 1000), (2, 3, 7)] M0 M → ((0 : Int) ≤ v11_2.toInt) → (v11_2.toInt ≤ 1600) → ((0 : Int) ≤ v11_3.toInt) → (v11_3.toInt ≤ 1601) → 9624 * (1601 - v11_2.toInt) + 6 * (1601 - v11_3.toInt) + 3 < (n : Int) → ZW X (d + 10) 5 false (some .boolean) cX5_readTest (zRI N [(2, 3, 0), (2, 3, 1), (20, 21, 1), (41, 42, 1), (21, 22, 1000), (42, 43, 1000), (2, 3, 7)] M0 (0) (1) (fun _ _ => True)) (11, [some (.ref 2), some (.int 5), some (.int v11_2), some (.int v11_3)], [], M)) ∧
      (∀ (M : zM) (v44_2 : Int32) (v44_3 : Int32), zJ N [(2, 3, 0), (2, 3, 1), (20, 21, 1), (41, 42, 1), (21, 22, 1000), (42, 43, 1000), (2, 3, 7)] M0 M → ((0 : Int) ≤ v44_2.toInt) → (v44_2.toInt ≤ 1600) → ((0 : Int) ≤ v44_3.toInt) → (v44_3.toInt ≤ 1600) → 9624 * (1601 - v44_2.toInt) + 6 * (1601 - v44_3.toInt) + 2 < (n : Int) → ZW X (d + 10) 5 false (some .boolean) cX5_readTest (zRI N [(2, 3, 0), (2, 3, 1), (20, 21, 1), (41, 42, 1), (21, 22, 1000), (42, 43, 1000), (2, 3, 7)] M0 (0) (1) (fun _ _ => True)) (44, [some (.ref 2), some (.int 5), some (.int v44_2), some (.int v44_3)], [], M)) ∧
      (∀ (M : zM) (v66_2 : Int32) (u66_3 : Int32), zJ N [(2, 3, 0), (2, 3, 1), (20, 21, 1), (41, 42, 1), (21, 22, 1000), (42, 43, 1000), (2, 3, 7)] M0 M → ((0 : Int) ≤ v66_2.toInt) → (v66_2.toInt ≤ 1600) → 9624 * (1601 - v66_2.toInt) + 1 < (n : Int) → ZW X (d + 10) 5 false (some .boolean) cX5_readTest (zRI N [(2, 3, 0), (2, 3, 1), (20, 21, 1), (41, 42, 1), (21, 22, 1000), (42, 43, 1000), (2, 3, 7)] M0 (0) (1) (fun _ _ => True)) (66, [some (.ref 2), some (.int 5), some (.int v66_2), some (.int u66_3)], [], M)) := by
    intro n
    induction n with
    | zero =>
      exact ⟨(fun M v2_2 o2_3 hJ v2_20 v2_21 hn => absurd hn (by omega)), (fun M v11_2 v11_3 hJ v11_20 v11_21 v11_30 v11_31 hn => absurd hn (by omega)), (fun M v44_2 v44_3 hJ v44_20 v44_21 v44_30 v44_31 hn => absurd hn (by omega)), (fun M v66_2 u66_3 hJ v66_20 v66_21 hn => absurd hn (by omega))⟩
    | succ n ih =>
      obtain ⟨ih2, ih11, ih44, ih66⟩ := ih
      refine ⟨?_, ?_, ?_, ?_⟩
      · intro M v2_2 o2_3 hJ v2_20 v2_21 hn
        refine w_lo dX5_readTest_2 rfl rfl rfl rfl ?_
        refine w_si dX5_readTest_3 (c := 1600) (by decide) ?_
        rcases zcut (1600 : Int) v2_2.toInt with h1 | h1
        · skip
          refine w_cgt_t dX5_readTest_6 (t := 104) rfl (by have := zt_1600; omega) ?_
          refine w_ic dX5_readTest_104 zi_1 ?_
          refine w_en dX5_readTest_105 rfl ?_
          exact ⟨_, _, rfl, (by have := zt_1; omega), (by have := zt_1; omega), hJ, trivial⟩
        · skip
          refine w_cgt_f dX5_readTest_6 (t := 104) rfl (by have := zt_1600; omega) ?_
          refine w_ic dX5_readTest_9 zi_0 ?_
          refine w_lo (ml' := [some (.ref 2), some (.int 5), some (.int v2_2), some (.int 0)]) dX5_readTest_10 rfl rfl rfl rfl ?_
          exact ih11 M v2_2 0 hJ (by omega) (by omega) (by have := zt_0; omega) (by have := zt_0; omega) (by have := zt_5; have := zt_0; omega)
      · intro M v11_2 v11_3 hJ v11_20 v11_21 v11_30 v11_31 hn
        refine w_lo dX5_readTest_11 rfl rfl rfl rfl ?_
        refine w_si dX5_readTest_12 (c := 1600) (by decide) ?_
        rcases zcut (1600 : Int) v11_3.toInt with h2 | h2
        · skip
          refine w_cgt_t dX5_readTest_15 (t := 66) rfl (by have := zt_1600; omega) ?_
          exact ih66 M v11_2 v11_3 hJ (by omega) (by omega) (by have := zt_5; omega)
        · skip
          refine w_cgt_f dX5_readTest_15 (t := 66) rfl (by have := zt_1600; omega) ?_
          refine w_lo dX5_readTest_18 rfl rfl rfl rfl ?_
          refine w_lo dX5_readTest_19 rfl rfl rfl rfl ?_
          refine w_iv dX5_readTest_20 rfl rfl (As := [.int 5]) rfl rfl hJ.1.1 zs_2 (Nat.le_of_ble_eq_true rfl) ?_
          refine ZV.imp (k_1301_c5 hN hJ.1) ?_
          rintro _ ⟨x6, M3, rfl, h7, h8, hJ4, hq5⟩
          have hJ9 := zJ_trans hJ hJ4 (zSub_cons (fun _ _ h h' hk => zIR_e (by omega) (by omega) hk) (zSub_cons (fun _ _ h h' hk => zIR_s (zIR_e (by omega) (by omega) hk)) (zSub_cons (fun _ _ h h' hk => zIR_s (zIR_s (zIR_e (by omega) (by omega) hk))) (zSub_cons (fun _ _ h h' hk => zIR_s (zIR_s (zIR_s (zIR_e (by omega) (by omega) hk)))) (zSub_cons (fun _ _ h h' hk => zIR_s (zIR_s (zIR_s (zIR_s (zIR_a (by omega) (by omega)))))) (zSub_cons (fun _ _ h h' hk => zIR_s (zIR_s (zIR_s (zIR_s (zIR_s (zIR_a (by omega) (by omega))))))) (zSub_cons (fun _ _ h h' hk => zIR_s (zIR_s (zIR_s (zIR_s (zIR_s (zIR_s (zIR_e (by omega) (by omega) hk))))))) zSub_nil)))))))
          show ZW _ _ _ _ _ _ _ (23, [some (.ref 2), some (.int 5), some (.int v11_2), some (.int v11_3)], [.int x6], M3)
          rcases Int.decEq x6.toInt (0 : Int) with h10 | h10
          · skip
            refine w_ine_t dX5_readTest_23 (t := 28) rfl (by omega) ?_
            refine w_lo dX5_readTest_28 rfl rfl rfl rfl ?_
            rcases zcut (0 : Int) v11_3.toInt with h11 | h11
            · skip
              refine w_ile_f dX5_readTest_29 (t := 44) rfl (by omega) ?_
              refine w_lo dX5_readTest_32 rfl rfl rfl rfl ?_
              obtain ⟨b12, f13, h14⟩ := zd_2_8 hJ9.1
              have h15 := zDm_b h14
              refine w_gf dX5_readTest_33 rfl hJ9.1.1 zs_2 f13 ?_
              refine w_gf dX5_readTest_36 rfl hJ9.1.1 (zs_1_0 h14) (zr_1_0_15 h14 hJ9.1) ?_
              refine w_bi dX5_readTest_39 (c := (-17)) (by decide) ?_
              refine w_iv dX5_readTest_41 rfl rfl (As := [.int (-17)]) rfl rfl hJ9.1.1 (zs_1_13 h14) (Nat.le_of_ble_eq_true rfl) ?_
              refine ZV.imp (k_515 (b12 + 13) (zLw_of h14) (-17) hN hJ9.1) ?_
              rintro _ ⟨M16, rfl, hJ17, hq18⟩
              have hJ19 := zJ_trans hJ9 hJ17 (zSub_cons (fun _ _ h h' hk => ((zDm_or h14).elim (fun e => zIR_s (zIR_s (zIR_e (by omega) (by omega) hk))) (fun e => zIR_s (zIR_s (zIR_s (zIR_e (by omega) (by omega) hk)))))) (zSub_cons (fun _ _ h h' hk => ((zDm_or h14).elim (fun e => zIR_s (zIR_s (zIR_s (zIR_s (zIR_a (by omega) (by omega)))))) (fun e => zIR_s (zIR_s (zIR_s (zIR_s (zIR_s (zIR_a (by omega) (by omega))))))))) zSub_nil))
              show ZW _ _ _ _ _ _ _ (44, [some (.ref 2), some (.int 5), some (.int v11_2), some (.int v11_3)], [], M16)
              exact ih44 M16 v11_2 v11_3 hJ19 (by omega) (by omega) (by omega) (by omega) (by have := zt_5; omega)
            · skip
              refine w_ile_t dX5_readTest_29 (t := 44) rfl (by omega) ?_
              exact ih44 M3 v11_2 v11_3 hJ9 (by omega) (by omega) (by omega) (by omega) (by have := zt_5; omega)
          · skip
            refine w_ine_f dX5_readTest_23 (t := 28) rfl (by omega) ?_
            refine w_ic dX5_readTest_26 zi_0 ?_
            refine w_en dX5_readTest_27 rfl ?_
            exact ⟨_, _, rfl, (by have := zt_0; omega), (by have := zt_0; omega), hJ9, trivial⟩
      · intro M v44_2 v44_3 hJ v44_20 v44_21 v44_30 v44_31 hn
        refine w_lo dX5_readTest_44 rfl rfl rfl rfl ?_
        refine w_iv dX5_readTest_45 rfl rfl (As := []) rfl rfl hJ.1.1 zs_2 (Nat.le_of_ble_eq_true rfl) ?_
        refine ZV.imp (k_1287 hN hJ.1) ?_
        rintro _ ⟨x23, M20, rfl, h24, h25, hJ21, hq22⟩
        have hJ26 := zJ_trans hJ hJ21 zSub_nil
        show ZW _ _ _ _ _ _ _ (48, [some (.ref 2), some (.int 5), some (.int v44_2), some (.int v44_3)], [.int x23], M20)
        refine w_bi dX5_readTest_48 (c := 22) (by decide) ?_
        rcases Int.decEq x23.toInt (22 : Int) with h27 | h27
        · skip
          refine w_ceq_f dX5_readTest_50 (t := 56) rfl (by have := zt_22; omega) ?_
          refine w_gt dX5_readTest_53 (t := 66) rfl ?_
          exact ih66 M20 v44_2 v44_3 hJ26 (by omega) (by omega) (by have := zt_5; omega)
        · skip
          refine w_ceq_t dX5_readTest_50 (t := 56) rfl (by have := zt_22; omega) ?_
          refine w_lo dX5_readTest_56 rfl rfl rfl rfl ?_
          refine w_iv dX5_readTest_57 rfl rfl (As := []) rfl rfl hJ26.1.1 zs_2 (Nat.le_of_ble_eq_true rfl) ?_
          refine ZV.imp (k_1289 hN hJ26.1) ?_
          rintro _ ⟨M28, rfl, hJ29, hq30⟩
          have hJ31 := zJ_trans hJ26 hJ29 (zSub_cons (fun _ _ h h' hk => zIR_s (zIR_s (zIR_s (zIR_s (zIR_s (zIR_s (zIR_e (by omega) (by omega) hk))))))) zSub_nil)
          show ZW _ _ _ _ _ _ _ (60, [some (.ref 2), some (.int 5), some (.int v44_2), some (.int v44_3)], [], M28)
          refine w_inc (kk := 3) dX5_readTest_60 rfl (m := 1) (by decide) (by omega) ?_
          intro x32 h33
          refine ⟨_, rfl, ?_⟩
          show ZW _ _ _ _ _ _ _ (63, [some (.ref 2), some (.int 5), some (.int v44_2), some (.int x32)], [], M28)
          refine w_gt dX5_readTest_63 (t := 11) rfl ?_
          exact ih11 M28 v44_2 x32 hJ31 (by omega) (by omega) (by omega) (by omega) (by have := zt_5; omega)
      · intro M v66_2 u66_3 hJ v66_20 v66_21 hn
        refine w_lo dX5_readTest_66 rfl rfl rfl rfl ?_
        rcases zcut (0 : Int) v66_2.toInt with h34 | h34
        · skip
          refine w_ile_f dX5_readTest_67 (t := 82) rfl (by omega) ?_
          refine w_lo dX5_readTest_70 rfl rfl rfl rfl ?_
          obtain ⟨b35, f36, h37⟩ := zd_2_8 hJ.1
          have h38 := zDm_b h37
          refine w_gf dX5_readTest_71 rfl hJ.1.1 zs_2 f36 ?_
          refine w_gf dX5_readTest_74 rfl hJ.1.1 (zs_1_0 h37) (zr_1_0_15 h37 hJ.1) ?_
          refine w_bi dX5_readTest_77 (c := (-18)) (by decide) ?_
          refine w_iv dX5_readTest_79 rfl rfl (As := [.int (-18)]) rfl rfl hJ.1.1 (zs_1_13 h37) (Nat.le_of_ble_eq_true rfl) ?_
          refine ZV.imp (k_515 (b35 + 13) (zLw_of h37) (-18) hN hJ.1) ?_
          rintro _ ⟨M39, rfl, hJ40, hq41⟩
          have hJ42 := zJ_trans hJ hJ40 (zSub_cons (fun _ _ h h' hk => ((zDm_or h37).elim (fun e => zIR_s (zIR_s (zIR_e (by omega) (by omega) hk))) (fun e => zIR_s (zIR_s (zIR_s (zIR_e (by omega) (by omega) hk)))))) (zSub_cons (fun _ _ h h' hk => ((zDm_or h37).elim (fun e => zIR_s (zIR_s (zIR_s (zIR_s (zIR_a (by omega) (by omega)))))) (fun e => zIR_s (zIR_s (zIR_s (zIR_s (zIR_s (zIR_a (by omega) (by omega))))))))) zSub_nil))
          show ZW _ _ _ _ _ _ _ (82, [some (.ref 2), some (.int 5), some (.int v66_2), some (.int u66_3)], [], M39)
          refine w_lo dX5_readTest_82 rfl rfl rfl rfl ?_
          refine w_iv dX5_readTest_83 rfl rfl (As := []) rfl rfl hJ42.1.1 zs_2 (Nat.le_of_ble_eq_true rfl) ?_
          refine ZV.imp (k_1287 hN hJ42.1) ?_
          rintro _ ⟨x46, M43, rfl, h47, h48, hJ44, hq45⟩
          have hJ49 := zJ_trans hJ42 hJ44 zSub_nil
          show ZW _ _ _ _ _ _ _ (86, [some (.ref 2), some (.int 5), some (.int v66_2), some (.int u66_3)], [.int x46], M43)
          refine w_bi dX5_readTest_86 (c := 21) (by decide) ?_
          rcases Int.decEq x46.toInt (21 : Int) with h50 | h50
          · skip
            refine w_ceq_f dX5_readTest_88 (t := 94) rfl (by have := zt_21; omega) ?_
            refine w_gt dX5_readTest_91 (t := 104) rfl ?_
            refine w_ic dX5_readTest_104 zi_1 ?_
            refine w_en dX5_readTest_105 rfl ?_
            exact ⟨_, _, rfl, (by have := zt_1; omega), (by have := zt_1; omega), hJ49, trivial⟩
          · skip
            refine w_ceq_t dX5_readTest_88 (t := 94) rfl (by have := zt_21; omega) ?_
            refine w_lo dX5_readTest_94 rfl rfl rfl rfl ?_
            refine w_iv dX5_readTest_95 rfl rfl (As := []) rfl rfl hJ49.1.1 zs_2 (Nat.le_of_ble_eq_true rfl) ?_
            refine ZV.imp (k_1289 hN hJ49.1) ?_
            rintro _ ⟨M51, rfl, hJ52, hq53⟩
            have hJ54 := zJ_trans hJ49 hJ52 (zSub_cons (fun _ _ h h' hk => zIR_s (zIR_s (zIR_s (zIR_s (zIR_s (zIR_s (zIR_e (by omega) (by omega) hk))))))) zSub_nil)
            show ZW _ _ _ _ _ _ _ (98, [some (.ref 2), some (.int 5), some (.int v66_2), some (.int u66_3)], [], M51)
            refine w_inc (kk := 2) dX5_readTest_98 rfl (m := 1) (by decide) (by omega) ?_
            intro x55 h56
            refine ⟨_, rfl, ?_⟩
            show ZW _ _ _ _ _ _ _ (101, [some (.ref 2), some (.int 5), some (.int x55), some (.int u66_3)], [], M51)
            refine w_gt dX5_readTest_101 (t := 2) rfl ?_
            exact ih2 M51 x55 (some (.int u66_3)) hJ54 (by omega) (by omega) (by have := zt_5; omega)
        · skip
          refine w_ile_t dX5_readTest_67 (t := 82) rfl (by omega) ?_
          refine w_lo dX5_readTest_82 rfl rfl rfl rfl ?_
          refine w_iv dX5_readTest_83 rfl rfl (As := []) rfl rfl hJ.1.1 zs_2 (Nat.le_of_ble_eq_true rfl) ?_
          refine ZV.imp (k_1287 hN hJ.1) ?_
          rintro _ ⟨x60, M57, rfl, h61, h62, hJ58, hq59⟩
          have hJ63 := zJ_trans hJ hJ58 zSub_nil
          show ZW _ _ _ _ _ _ _ (86, [some (.ref 2), some (.int 5), some (.int v66_2), some (.int u66_3)], [.int x60], M57)
          refine w_bi dX5_readTest_86 (c := 21) (by decide) ?_
          rcases Int.decEq x60.toInt (21 : Int) with h64 | h64
          · skip
            refine w_ceq_f dX5_readTest_88 (t := 94) rfl (by have := zt_21; omega) ?_
            refine w_gt dX5_readTest_91 (t := 104) rfl ?_
            refine w_ic dX5_readTest_104 zi_1 ?_
            refine w_en dX5_readTest_105 rfl ?_
            exact ⟨_, _, rfl, (by have := zt_1; omega), (by have := zt_1; omega), hJ63, trivial⟩
          · skip
            refine w_ceq_t dX5_readTest_88 (t := 94) rfl (by have := zt_21; omega) ?_
            refine w_lo dX5_readTest_94 rfl rfl rfl rfl ?_
            refine w_iv dX5_readTest_95 rfl rfl (As := []) rfl rfl hJ63.1.1 zs_2 (Nat.le_of_ble_eq_true rfl) ?_
            refine ZV.imp (k_1289 hN hJ63.1) ?_
            rintro _ ⟨M65, rfl, hJ66, hq67⟩
            have hJ68 := zJ_trans hJ63 hJ66 (zSub_cons (fun _ _ h h' hk => zIR_s (zIR_s (zIR_s (zIR_s (zIR_s (zIR_s (zIR_e (by omega) (by omega) hk))))))) zSub_nil)
            show ZW _ _ _ _ _ _ _ (98, [some (.ref 2), some (.int 5), some (.int v66_2), some (.int u66_3)], [], M65)
            refine w_inc (kk := 2) dX5_readTest_98 rfl (m := 1) (by decide) (by omega) ?_
            intro x69 h70
            refine ⟨_, rfl, ?_⟩
            show ZW _ _ _ _ _ _ _ (101, [some (.ref 2), some (.int 5), some (.int x69), some (.int u66_3)], [], M65)
            refine w_gt dX5_readTest_101 (t := 2) rfl ?_
            exact ih2 M65 x69 (some (.int u66_3)) hJ68 (by omega) (by omega) (by have := zt_5; omega)
  obtain ⟨ih2, ih11, ih44, ih66⟩ := main 15436899
  show ZW _ _ _ _ _ _ _ (0, [some (.ref 2), some (.int 5), none, none], [], M0)
  refine w_ic dX5_readTest_0 zi_0 ?_
  refine w_lo (ml' := [some (.ref 2), some (.int 5), some (.int 0), none]) dX5_readTest_1 rfl rfl rfl rfl ?_
  exact ih2 M0 0 none hJ0 (by have := zt_0; omega) (by have := zt_0; omega) (by have := zt_5; have := zt_0; omega)
set_option maxRecDepth 100000 in
theorem k_1301_c4 {X : List Int32} {d N : Nat} {M0 : zM}  (hN : N ≤ 600) (hB0 : zB N M0) : ZV X (d + 12) 1301 [.ref 2, .int 4] M0 (zRI N [(2, 3, 0), (2, 3, 1), (20, 21, 1), (41, 42, 1), (21, 22, 1000), (42, 43, 1000), (2, 3, 7)] M0 (0) (1) (fun _ _ => True)) := by
  have hJ0 : zJ N [(2, 3, 0), (2, 3, 1), (20, 21, 1), (41, 42, 1), (21, 22, 1000), (42, 43, 1000), (2, 3, 7)] M0 M0 := zJ_refl hB0
  refine ZV.of (ini := false) rfl (Nat.le_of_ble_eq_true rfl) (by decide +kernel) ?_
  have main : ∀ n : Nat,
      (∀ (M : zM) (v2_2 : Int32) (o2_3 : Option Value), zJ N [(2, 3, 0), (2, 3, 1), (20, 21, 1), (41, 42, 1), (21, 22, 1000), (42, 43, 1000), (2, 3, 7)] M0 M → ((0 : Int) ≤ v2_2.toInt) → (v2_2.toInt ≤ 1601) → 5 * (1601 - v2_2.toInt) + 3 < (n : Int) → ZW X (d + 11) 5 false (some .boolean) cX5_readFact (zRI N [(2, 3, 0), (2, 3, 1), (20, 21, 1), (41, 42, 1), (21, 22, 1000), (42, 43, 1000), (2, 3, 7)] M0 (0) (1) (fun _ _ => True)) (2, [some (.ref 2), some (.int 4), some (.int v2_2), o2_3], [], M)) ∧
      (∀ (M : zM) (v28_2 : Int32) (o28_3 : Option Value), zJ N [(2, 3, 0), (2, 3, 1), (20, 21, 1), (41, 42, 1), (21, 22, 1000), (42, 43, 1000), (2, 3, 7)] M0 M → ((0 : Int) ≤ v28_2.toInt) → (v28_2.toInt ≤ 1601) → 2 < (n : Int) → ZW X (d + 11) 5 false (some .boolean) cX5_readFact (zRI N [(2, 3, 0), (2, 3, 1), (20, 21, 1), (41, 42, 1), (21, 22, 1000), (42, 43, 1000), (2, 3, 7)] M0 (0) (1) (fun _ _ => True)) (28, [some (.ref 2), some (.int 4), some (.int v28_2), o28_3], [], M)) ∧
      (∀ (M : zM) (v167_2 : Int32) (o167_3 : Option Value) (s167_0 : Int32), zJ N [(2, 3, 0), (2, 3, 1), (20, 21, 1), (41, 42, 1), (21, 22, 1000), (42, 43, 1000), (2, 3, 7)] M0 M → ((0 : Int) ≤ v167_2.toInt) → (v167_2.toInt ≤ 1601) → ((-16 : Int) ≤ s167_0.toInt) → (s167_0.toInt ≤ 0) → 1 < (n : Int) → ZW X (d + 11) 5 false (some .boolean) cX5_readFact (zRI N [(2, 3, 0), (2, 3, 1), (20, 21, 1), (41, 42, 1), (21, 22, 1000), (42, 43, 1000), (2, 3, 7)] M0 (0) (1) (fun _ _ => True)) (167, [some (.ref 2), some (.int 4), some (.int v167_2), o167_3], [.int s167_0], M)) := by
    intro n
    induction n with
    | zero =>
      exact ⟨(fun M v2_2 o2_3 hJ v2_20 v2_21 hn => absurd hn (by omega)), (fun M v28_2 o28_3 hJ v28_20 v28_21 hn => absurd hn (by omega)), (fun M v167_2 o167_3 s167_0 hJ v167_20 v167_21 s167_00 s167_01 hn => absurd hn (by omega))⟩
    | succ n ih =>
      obtain ⟨ih2, ih28, ih167⟩ := ih
      refine ⟨?_, ?_, ?_⟩
      · intro M v2_2 o2_3 hJ v2_20 v2_21 hn
        refine w_lo dX5_readFact_2 rfl rfl rfl rfl ?_
        refine w_si dX5_readFact_3 (c := 1600) (by decide) ?_
        rcases zcut (1600 : Int) v2_2.toInt with h1 | h1
        · skip
          refine w_cgt_t dX5_readFact_6 (t := 28) rfl (by have := zt_1600; omega) ?_
          exact ih28 M v2_2 o2_3 hJ (by omega) (by omega) (by have := zt_4; omega)
        · skip
          refine w_cgt_f dX5_readFact_6 (t := 28) rfl (by have := zt_1600; omega) ?_
          refine w_lo dX5_readFact_9 rfl rfl rfl rfl ?_
          refine w_iv dX5_readFact_10 rfl rfl (As := []) rfl rfl hJ.1.1 zs_2 (Nat.le_of_ble_eq_true rfl) ?_
          refine ZV.imp (k_1287 hN hJ.1) ?_
          rintro _ ⟨x5, M2, rfl, h6, h7, hJ3, hq4⟩
          have hJ8 := zJ_trans hJ hJ3 zSub_nil
          show ZW _ _ _ _ _ _ _ (13, [some (.ref 2), some (.int 4), some (.int v2_2), o2_3], [.int x5], M2)
          refine w_bi dX5_readFact_13 (c := 23) (by decide) ?_
          rcases Int.decEq x5.toInt (23 : Int) with h9 | h9
          · skip
            refine w_cne_t dX5_readFact_15 (t := 28) rfl (by have := zt_23; omega) ?_
            exact ih28 M2 v2_2 o2_3 hJ8 (by omega) (by omega) (by have := zt_4; omega)
          · skip
            refine w_cne_f dX5_readFact_15 (t := 28) rfl (by have := zt_23; omega) ?_
            refine w_lo dX5_readFact_18 rfl rfl rfl rfl ?_
            refine w_iv dX5_readFact_19 rfl rfl (As := []) rfl rfl hJ8.1.1 zs_2 (Nat.le_of_ble_eq_true rfl) ?_
            refine ZV.imp (k_1289 hN hJ8.1) ?_
            rintro _ ⟨M10, rfl, hJ11, hq12⟩
            have hJ13 := zJ_trans hJ8 hJ11 (zSub_cons (fun _ _ h h' hk => zIR_s (zIR_s (zIR_s (zIR_s (zIR_s (zIR_s (zIR_e (by omega) (by omega) hk))))))) zSub_nil)
            show ZW _ _ _ _ _ _ _ (22, [some (.ref 2), some (.int 4), some (.int v2_2), o2_3], [], M10)
            refine w_inc (kk := 2) dX5_readFact_22 rfl (m := 1) (by decide) (by omega) ?_
            intro x14 h15
            refine ⟨_, rfl, ?_⟩
            show ZW _ _ _ _ _ _ _ (25, [some (.ref 2), some (.int 4), some (.int x14), o2_3], [], M10)
            refine w_gt dX5_readFact_25 (t := 2) rfl ?_
            exact ih2 M10 x14 o2_3 hJ13 (by omega) (by omega) (by have := zt_4; omega)
      · intro M v28_2 o28_3 hJ v28_20 v28_21 hn
        refine w_lo dX5_readFact_28 rfl rfl rfl rfl ?_
        refine w_bi dX5_readFact_29 (c := 91) (by decide) ?_
        refine w_iv dX5_readFact_31 rfl rfl (As := [.int 91]) rfl rfl hJ.1.1 zs_2 (Nat.le_of_ble_eq_true rfl) ?_
        refine ZV.imp (k_1299 91 (by have := zt_91; omega) (by have := zt_91; omega) hN hJ.1) ?_
        rintro _ ⟨x19, M16, rfl, h20, h21, hJ17, hq18⟩
        have hJ22 := zJ_trans hJ hJ17 zSub_nil
        show ZW _ _ _ _ _ _ _ (34, [some (.ref 2), some (.int 4), some (.int v28_2), o28_3], [.int x19], M16)
        rcases Int.decEq x19.toInt (0 : Int) with h23 | h23
        · skip
          refine w_ieq_f dX5_readFact_34 (t := 87) rfl (by omega) ?_
          refine w_lo dX5_readFact_37 rfl rfl rfl rfl ?_
          refine w_bi dX5_readFact_38 (c := 8) (by decide) ?_
          refine w_clt_t dX5_readFact_40 (t := 49) rfl (by have := zt_4; have := zt_8; omega) ?_
          refine w_lo dX5_readFact_49 rfl rfl rfl rfl ?_
          refine w_iv dX5_readFact_50 rfl rfl (As := []) rfl rfl hJ22.1.1 zs_2 (Nat.le_of_ble_eq_true rfl) ?_
          refine ZV.imp (k_1289 hN hJ22.1) ?_
          rintro _ ⟨M24, rfl, hJ25, hq26⟩
          have hJ27 := zJ_trans hJ22 hJ25 (zSub_cons (fun _ _ h h' hk => zIR_s (zIR_s (zIR_s (zIR_s (zIR_s (zIR_s (zIR_e (by omega) (by omega) hk))))))) zSub_nil)
          show ZW _ _ _ _ _ _ _ (53, [some (.ref 2), some (.int 4), some (.int v28_2), o28_3], [], M24)
          refine w_lo dX5_readFact_53 rfl rfl rfl rfl ?_
          refine w_lo dX5_readFact_54 rfl rfl rfl rfl ?_
          refine w_ic dX5_readFact_55 zi_1 ?_
          refine w_pu (st' := [.int 5, .ref 2]) dX5_readFact_56 rfl rfl ?_
          refine w_iv dX5_readFact_57 rfl rfl (As := [.int 5]) rfl rfl hJ27.1.1 zs_2 (Nat.le_of_ble_eq_true rfl) ?_
          refine ZV.imp (k_1300_c5 hN hJ27.1) ?_
          rintro _ ⟨x31, M28, rfl, h32, h33, hJ29, hq30⟩
          have hJ34 := zJ_trans hJ27 hJ29 (zSub_cons (fun _ _ h h' hk => zIR_e (by omega) (by omega) hk) (zSub_cons (fun _ _ h h' hk => zIR_s (zIR_e (by omega) (by omega) hk)) (zSub_cons (fun _ _ h h' hk => zIR_s (zIR_s (zIR_e (by omega) (by omega) hk))) (zSub_cons (fun _ _ h h' hk => zIR_s (zIR_s (zIR_s (zIR_e (by omega) (by omega) hk)))) (zSub_cons (fun _ _ h h' hk => zIR_s (zIR_s (zIR_s (zIR_s (zIR_a (by omega) (by omega)))))) (zSub_cons (fun _ _ h h' hk => zIR_s (zIR_s (zIR_s (zIR_s (zIR_s (zIR_a (by omega) (by omega))))))) (zSub_cons (fun _ _ h h' hk => zIR_s (zIR_s (zIR_s (zIR_s (zIR_s (zIR_s (zIR_e (by omega) (by omega) hk))))))) zSub_nil)))))))
          show ZW _ _ _ _ _ _ _ (60, [some (.ref 2), some (.int 4), some (.int v28_2), o28_3], [.int x31], M28)
          rcases Int.decEq x31.toInt (0 : Int) with h35 | h35
          · skip
            refine w_ine_t dX5_readFact_60 (t := 65) rfl (by omega) ?_
            refine w_lo dX5_readFact_65 rfl rfl rfl rfl ?_
            refine w_bi dX5_readFact_66 (c := 93) (by decide) ?_
            refine w_iv dX5_readFact_68 rfl rfl (As := [.int 93]) rfl rfl hJ34.1.1 zs_2 (Nat.le_of_ble_eq_true rfl) ?_
            refine ZV.imp (k_1299 93 (by have := zt_93; omega) (by have := zt_93; omega) hN hJ34.1) ?_
            rintro _ ⟨x39, M36, rfl, h40, h41, hJ37, hq38⟩
            have hJ42 := zJ_trans hJ34 hJ37 zSub_nil
            show ZW _ _ _ _ _ _ _ (71, [some (.ref 2), some (.int 4), some (.int v28_2), o28_3], [.int x39], M36)
            rcases Int.decEq x39.toInt (0 : Int) with h43 | h43
            · skip
              refine w_ine_t dX5_readFact_71 (t := 80) rfl (by omega) ?_
              refine w_lo dX5_readFact_80 rfl rfl rfl rfl ?_
              refine w_iv dX5_readFact_81 rfl rfl (As := []) rfl rfl hJ42.1.1 zs_2 (Nat.le_of_ble_eq_true rfl) ?_
              refine ZV.imp (k_1289 hN hJ42.1) ?_
              rintro _ ⟨M44, rfl, hJ45, hq46⟩
              have hJ47 := zJ_trans hJ42 hJ45 (zSub_cons (fun _ _ h h' hk => zIR_s (zIR_s (zIR_s (zIR_s (zIR_s (zIR_s (zIR_e (by omega) (by omega) hk))))))) zSub_nil)
              show ZW _ _ _ _ _ _ _ (84, [some (.ref 2), some (.int 4), some (.int v28_2), o28_3], [], M44)
              refine w_gt dX5_readFact_84 (t := 203) rfl ?_
              refine w_lo dX5_readFact_203 rfl rfl rfl rfl ?_
              refine w_ic dX5_readFact_204 zi_2 ?_
              refine w_remP dX5_readFact_205 (by omega) (by have := zt_2; omega) ?_
              intro x48 h49 h50 h51
              have := zt_2
              refine w_ic dX5_readFact_206 zi_1 ?_
              rcases Int.decEq x48.toInt (1 : Int) with h52 | h52
              · skip
                refine w_cne_t dX5_readFact_207 (t := 222) rfl (by have := zt_1; omega) ?_
                refine w_ic dX5_readFact_222 zi_1 ?_
                refine w_en dX5_readFact_223 rfl ?_
                exact ⟨_, _, rfl, (by have := zt_1; omega), (by have := zt_1; omega), hJ47, trivial⟩
              · skip
                refine w_cne_f dX5_readFact_207 (t := 222) rfl (by have := zt_1; omega) ?_
                refine w_lo dX5_readFact_210 rfl rfl rfl rfl ?_
                obtain ⟨b53, f54, h55⟩ := zd_2_8 hJ47.1
                have h56 := zDm_b h55
                refine w_gf dX5_readFact_211 rfl hJ47.1.1 zs_2 f54 ?_
                refine w_gf dX5_readFact_214 rfl hJ47.1.1 (zs_1_0 h55) (zr_1_0_15 h55 hJ47.1) ?_
                refine w_bi dX5_readFact_217 (c := (-8)) (by decide) ?_
                refine w_iv dX5_readFact_219 rfl rfl (As := [.int (-8)]) rfl rfl hJ47.1.1 (zs_1_13 h55) (Nat.le_of_ble_eq_true rfl) ?_
                refine ZV.imp (k_515 (b53 + 13) (zLw_of h55) (-8) hN hJ47.1) ?_
                rintro _ ⟨M57, rfl, hJ58, hq59⟩
                have hJ60 := zJ_trans hJ47 hJ58 (zSub_cons (fun _ _ h h' hk => ((zDm_or h55).elim (fun e => zIR_s (zIR_s (zIR_e (by omega) (by omega) hk))) (fun e => zIR_s (zIR_s (zIR_s (zIR_e (by omega) (by omega) hk)))))) (zSub_cons (fun _ _ h h' hk => ((zDm_or h55).elim (fun e => zIR_s (zIR_s (zIR_s (zIR_s (zIR_a (by omega) (by omega)))))) (fun e => zIR_s (zIR_s (zIR_s (zIR_s (zIR_s (zIR_a (by omega) (by omega))))))))) zSub_nil))
                show ZW _ _ _ _ _ _ _ (222, [some (.ref 2), some (.int 4), some (.int v28_2), o28_3], [], M57)
                refine w_ic dX5_readFact_222 zi_1 ?_
                refine w_en dX5_readFact_223 rfl ?_
                exact ⟨_, _, rfl, (by have := zt_1; omega), (by have := zt_1; omega), hJ60, trivial⟩
            · skip
              refine w_ine_f dX5_readFact_71 (t := 80) rfl (by omega) ?_
              refine w_lo dX5_readFact_74 rfl rfl rfl rfl ?_
              refine w_ic dX5_readFact_75 zi_1 ?_
              refine w_iv dX5_readFact_76 rfl rfl (As := [.int 1]) rfl rfl hJ42.1.1 zs_2 (Nat.le_of_ble_eq_true rfl) ?_
              refine ZV.imp (k_1286 1 (by have := zt_1; omega) (by have := zt_1; omega) hN hJ42.1) ?_
              rintro _ ⟨x64, M61, rfl, h65, h66, hJ62, hq63⟩
              have hJ67 := zJ_trans hJ42 hJ62 (zSub_cons (fun _ _ h h' hk => zIR_e (by omega) (by omega) hk) (zSub_cons (fun _ _ h h' hk => zIR_s (zIR_e (by omega) (by omega) hk)) zSub_nil))
              show ZW _ _ _ _ _ _ _ (79, [some (.ref 2), some (.int 4), some (.int v28_2), o28_3], [.int x64], M61)
              refine w_eni dX5_readFact_79 rfl (znb (by omega) (by omega)) ?_
              exact ⟨_, _, rfl, (by omega), (by omega), hJ67, trivial⟩
          · skip
            refine w_ine_f dX5_readFact_60 (t := 65) rfl (by omega) ?_
            refine w_ic dX5_readFact_63 zi_0 ?_
            refine w_en dX5_readFact_64 rfl ?_
            exact ⟨_, _, rfl, (by have := zt_0; omega), (by have := zt_0; omega), hJ34, trivial⟩
        · skip
          refine w_ieq_t dX5_readFact_34 (t := 87) rfl (by omega) ?_
          refine w_lo dX5_readFact_87 rfl rfl rfl rfl ?_
          refine w_iv dX5_readFact_88 rfl rfl (As := []) rfl rfl hJ22.1.1 zs_2 (Nat.le_of_ble_eq_true rfl) ?_
          refine ZV.imp (k_1287 hN hJ22.1) ?_
          rintro _ ⟨x71, M68, rfl, h72, h73, hJ69, hq70⟩
          have hJ74 := zJ_trans hJ22 hJ69 zSub_nil
          show ZW _ _ _ _ _ _ _ (91, [some (.ref 2), some (.int 4), some (.int v28_2), o28_3], [.int x71], M68)
          refine w_bi dX5_readFact_91 (c := 24) (by decide) ?_
          rcases Int.decEq x71.toInt (24 : Int) with h75 | h75
          · skip
            refine w_cne_t dX5_readFact_93 (t := 114) rfl (by have := zt_24; omega) ?_
            refine w_lo dX5_readFact_114 rfl rfl rfl rfl ?_
            refine w_lo dX5_readFact_115 rfl rfl rfl rfl ?_
            refine w_iv dX5_readFact_116 rfl rfl (As := [.int 4]) rfl rfl hJ74.1.1 zs_2 (Nat.le_of_ble_eq_true rfl) ?_
            refine ZV.imp (k_1297_c4 hN hJ74.1) ?_
            rintro _ ⟨x79, M76, rfl, h80, h81, hJ77, hq78⟩
            have hJ82 := zJ_trans hJ74 hJ77 (zSub_cons (fun _ _ h h' hk => zIR_e (by omega) (by omega) hk) (zSub_cons (fun _ _ h h' hk => zIR_s (zIR_e (by omega) (by omega) hk)) (zSub_cons (fun _ _ h h' hk => zIR_s (zIR_s (zIR_e (by omega) (by omega) hk))) (zSub_cons (fun _ _ h h' hk => zIR_s (zIR_s (zIR_s (zIR_e (by omega) (by omega) hk)))) (zSub_cons (fun _ _ h h' hk => zIR_s (zIR_s (zIR_s (zIR_s (zIR_a (by omega) (by omega)))))) (zSub_cons (fun _ _ h h' hk => zIR_s (zIR_s (zIR_s (zIR_s (zIR_s (zIR_a (by omega) (by omega))))))) (zSub_cons (fun _ _ h h' hk => zIR_s (zIR_s (zIR_s (zIR_s (zIR_s (zIR_s (zIR_e (by omega) (by omega) hk))))))) zSub_nil)))))))
            show ZW _ _ _ _ _ _ _ (119, [some (.ref 2), some (.int 4), some (.int v28_2), o28_3], [.int x79], M76)
            rcases Int.decEq x79.toInt (0 : Int) with h83 | h83
            · skip
              refine w_ine_t dX5_readFact_119 (t := 124) rfl (by omega) ?_
              refine w_lo dX5_readFact_124 rfl rfl rfl rfl ?_
              refine w_bi dX5_readFact_125 (c := 60) (by decide) ?_
              refine w_iv dX5_readFact_127 rfl rfl (As := [.int 60]) rfl rfl hJ82.1.1 zs_2 (Nat.le_of_ble_eq_true rfl) ?_
              refine ZV.imp (k_1299 60 (by have := zt_60; omega) (by have := zt_60; omega) hN hJ82.1) ?_
              rintro _ ⟨x87, M84, rfl, h88, h89, hJ85, hq86⟩
              have hJ90 := zJ_trans hJ82 hJ85 zSub_nil
              show ZW _ _ _ _ _ _ _ (130, [some (.ref 2), some (.int 4), some (.int v28_2), o28_3], [.int x87], M84)
              rcases Int.decEq x87.toInt (0 : Int) with h91 | h91
              · skip
                refine w_ieq_f dX5_readFact_130 (t := 138) rfl (by omega) ?_
                refine w_bi dX5_readFact_133 (c := (-14)) (by decide) ?_
                refine w_gt dX5_readFact_135 (t := 167) rfl ?_
                exact ih167 M84 v28_2 o28_3 (-14) hJ90 (by omega) (by omega) (by have := zt_m14; omega) (by have := zt_m14; omega) (by have := zt_4; have := zt_m14; omega)
              · skip
                refine w_ieq_t dX5_readFact_130 (t := 138) rfl (by omega) ?_
                refine w_lo dX5_readFact_138 rfl rfl rfl rfl ?_
                refine w_bi dX5_readFact_139 (c := 62) (by decide) ?_
                refine w_iv dX5_readFact_141 rfl rfl (As := [.int 62]) rfl rfl hJ90.1.1 zs_2 (Nat.le_of_ble_eq_true rfl) ?_
                refine ZV.imp (k_1299 62 (by have := zt_62; omega) (by have := zt_62; omega) hN hJ90.1) ?_
                rintro _ ⟨x95, M92, rfl, h96, h97, hJ93, hq94⟩
                have hJ98 := zJ_trans hJ90 hJ93 zSub_nil
                show ZW _ _ _ _ _ _ _ (144, [some (.ref 2), some (.int 4), some (.int v28_2), o28_3], [.int x95], M92)
                rcases Int.decEq x95.toInt (0 : Int) with h99 | h99
                · skip
                  refine w_ieq_f dX5_readFact_144 (t := 152) rfl (by omega) ?_
                  refine w_bi dX5_readFact_147 (c := (-15)) (by decide) ?_
                  refine w_gt dX5_readFact_149 (t := 167) rfl ?_
                  exact ih167 M92 v28_2 o28_3 (-15) hJ98 (by omega) (by omega) (by have := zt_m15; omega) (by have := zt_m15; omega) (by have := zt_4; have := zt_m15; omega)
                · skip
                  refine w_ieq_t dX5_readFact_144 (t := 152) rfl (by omega) ?_
                  refine w_lo dX5_readFact_152 rfl rfl rfl rfl ?_
                  refine w_bi dX5_readFact_153 (c := 61) (by decide) ?_
                  refine w_iv dX5_readFact_155 rfl rfl (As := [.int 61]) rfl rfl hJ98.1.1 zs_2 (Nat.le_of_ble_eq_true rfl) ?_
                  refine ZV.imp (k_1299 61 (by have := zt_61; omega) (by have := zt_61; omega) hN hJ98.1) ?_
                  rintro _ ⟨x103, M100, rfl, h104, h105, hJ101, hq102⟩
                  have hJ106 := zJ_trans hJ98 hJ101 zSub_nil
                  show ZW _ _ _ _ _ _ _ (158, [some (.ref 2), some (.int 4), some (.int v28_2), o28_3], [.int x103], M100)
                  rcases Int.decEq x103.toInt (0 : Int) with h107 | h107
                  · skip
                    refine w_ieq_f dX5_readFact_158 (t := 166) rfl (by omega) ?_
                    refine w_bi dX5_readFact_161 (c := (-16)) (by decide) ?_
                    refine w_gt dX5_readFact_163 (t := 167) rfl ?_
                    exact ih167 M100 v28_2 o28_3 (-16) hJ106 (by omega) (by omega) (by have := zt_m16; omega) (by have := zt_m16; omega) (by have := zt_4; have := zt_m16; omega)
                  · skip
                    refine w_ieq_t dX5_readFact_158 (t := 166) rfl (by omega) ?_
                    refine w_ic dX5_readFact_166 zi_0 ?_
                    exact ih167 M100 v28_2 o28_3 0 hJ106 (by omega) (by omega) (by have := zt_0; omega) (by have := zt_0; omega) (by have := zt_4; have := zt_0; omega)
            · skip
              refine w_ine_f dX5_readFact_119 (t := 124) rfl (by omega) ?_
              refine w_ic dX5_readFact_122 zi_0 ?_
              refine w_en dX5_readFact_123 rfl ?_
              exact ⟨_, _, rfl, (by have := zt_0; omega), (by have := zt_0; omega), hJ82, trivial⟩
          · skip
            refine w_cne_f dX5_readFact_93 (t := 114) rfl (by have := zt_24; omega) ?_
            refine w_lo dX5_readFact_96 rfl rfl rfl rfl ?_
            refine w_iv dX5_readFact_97 rfl rfl (As := []) rfl rfl hJ74.1.1 zs_2 (Nat.le_of_ble_eq_true rfl) ?_
            refine ZV.imp (k_1289 hN hJ74.1) ?_
            rintro _ ⟨M108, rfl, hJ109, hq110⟩
            have hJ111 := zJ_trans hJ74 hJ109 (zSub_cons (fun _ _ h h' hk => zIR_s (zIR_s (zIR_s (zIR_s (zIR_s (zIR_s (zIR_e (by omega) (by omega) hk))))))) zSub_nil)
            show ZW _ _ _ _ _ _ _ (100, [some (.ref 2), some (.int 4), some (.int v28_2), o28_3], [], M108)
            refine w_lo dX5_readFact_100 rfl rfl rfl rfl ?_
            obtain ⟨b112, f113, h114⟩ := zd_2_8 hJ111.1
            have h115 := zDm_b h114
            refine w_gf dX5_readFact_101 rfl hJ111.1.1 zs_2 f113 ?_
            refine w_gf dX5_readFact_104 rfl hJ111.1.1 (zs_1_0 h114) (zr_1_0_15 h114 hJ111.1) ?_
            refine w_ic dX5_readFact_107 zi_1 ?_
            refine w_iv dX5_readFact_108 rfl rfl (As := [.int 1]) rfl rfl hJ111.1.1 (zs_1_13 h114) (Nat.le_of_ble_eq_true rfl) ?_
            refine ZV.imp (k_515 (b112 + 13) (zLw_of h114) 1 hN hJ111.1) ?_
            rintro _ ⟨M116, rfl, hJ117, hq118⟩
            have hJ119 := zJ_trans hJ111 hJ117 (zSub_cons (fun _ _ h h' hk => ((zDm_or h114).elim (fun e => zIR_s (zIR_s (zIR_e (by omega) (by omega) hk))) (fun e => zIR_s (zIR_s (zIR_s (zIR_e (by omega) (by omega) hk)))))) (zSub_cons (fun _ _ h h' hk => ((zDm_or h114).elim (fun e => zIR_s (zIR_s (zIR_s (zIR_s (zIR_a (by omega) (by omega)))))) (fun e => zIR_s (zIR_s (zIR_s (zIR_s (zIR_s (zIR_a (by omega) (by omega))))))))) zSub_nil))
            show ZW _ _ _ _ _ _ _ (111, [some (.ref 2), some (.int 4), some (.int v28_2), o28_3], [], M116)
            refine w_gt dX5_readFact_111 (t := 203) rfl ?_
            refine w_lo dX5_readFact_203 rfl rfl rfl rfl ?_
            refine w_ic dX5_readFact_204 zi_2 ?_
            refine w_remP dX5_readFact_205 (by omega) (by have := zt_2; omega) ?_
            intro x120 h121 h122 h123
            have := zt_2
            refine w_ic dX5_readFact_206 zi_1 ?_
            rcases Int.decEq x120.toInt (1 : Int) with h124 | h124
            · skip
              refine w_cne_t dX5_readFact_207 (t := 222) rfl (by have := zt_1; omega) ?_
              refine w_ic dX5_readFact_222 zi_1 ?_
              refine w_en dX5_readFact_223 rfl ?_
              exact ⟨_, _, rfl, (by have := zt_1; omega), (by have := zt_1; omega), hJ119, trivial⟩
            · skip
              refine w_cne_f dX5_readFact_207 (t := 222) rfl (by have := zt_1; omega) ?_
              refine w_lo dX5_readFact_210 rfl rfl rfl rfl ?_
              have f125 := (hJ117.2 (2) 8 (zNI_k (by decide) (by decide) (zNI (by omega) zNI_nil))).trans (f113)
              refine w_gf dX5_readFact_211 rfl hJ119.1.1 zs_2 f125 ?_
              refine w_gf dX5_readFact_214 rfl hJ119.1.1 (zs_1_0 h114) (zr_1_0_15 h114 hJ119.1) ?_
              refine w_bi dX5_readFact_217 (c := (-8)) (by decide) ?_
              refine w_iv dX5_readFact_219 rfl rfl (As := [.int (-8)]) rfl rfl hJ119.1.1 (zs_1_13 h114) (Nat.le_of_ble_eq_true rfl) ?_
              refine ZV.imp (k_515 (b112 + 13) (zLw_of h114) (-8) hN hJ119.1) ?_
              rintro _ ⟨M126, rfl, hJ127, hq128⟩
              have hJ129 := zJ_trans hJ119 hJ127 (zSub_cons (fun _ _ h h' hk => ((zDm_or h114).elim (fun e => zIR_s (zIR_s (zIR_e (by omega) (by omega) hk))) (fun e => zIR_s (zIR_s (zIR_s (zIR_e (by omega) (by omega) hk)))))) (zSub_cons (fun _ _ h h' hk => ((zDm_or h114).elim (fun e => zIR_s (zIR_s (zIR_s (zIR_s (zIR_a (by omega) (by omega)))))) (fun e => zIR_s (zIR_s (zIR_s (zIR_s (zIR_s (zIR_a (by omega) (by omega))))))))) zSub_nil))
              show ZW _ _ _ _ _ _ _ (222, [some (.ref 2), some (.int 4), some (.int v28_2), o28_3], [], M126)
              refine w_ic dX5_readFact_222 zi_1 ?_
              refine w_en dX5_readFact_223 rfl ?_
              exact ⟨_, _, rfl, (by have := zt_1; omega), (by have := zt_1; omega), hJ129, trivial⟩
      · intro M v167_2 o167_3 s167_0 hJ v167_20 v167_21 s167_00 s167_01 hn
        refine w_lo (ml' := [some (.ref 2), some (.int 4), some (.int v167_2), some (.int s167_0)]) dX5_readFact_167 rfl rfl rfl rfl ?_
        refine w_lo dX5_readFact_168 rfl rfl rfl rfl ?_
        rcases Int.decEq s167_0.toInt (0 : Int) with h130 | h130
        · skip
          refine w_ine_t dX5_readFact_169 (t := 178) rfl (by omega) ?_
          refine w_lo dX5_readFact_178 rfl rfl rfl rfl ?_
          refine w_iv dX5_readFact_179 rfl rfl (As := []) rfl rfl hJ.1.1 zs_2 (Nat.le_of_ble_eq_true rfl) ?_
          refine ZV.imp (k_1289 hN hJ.1) ?_
          rintro _ ⟨M131, rfl, hJ132, hq133⟩
          have hJ134 := zJ_trans hJ hJ132 (zSub_cons (fun _ _ h h' hk => zIR_s (zIR_s (zIR_s (zIR_s (zIR_s (zIR_s (zIR_e (by omega) (by omega) hk))))))) zSub_nil)
          show ZW _ _ _ _ _ _ _ (182, [some (.ref 2), some (.int 4), some (.int v167_2), some (.int s167_0)], [], M131)
          refine w_lo dX5_readFact_182 rfl rfl rfl rfl ?_
          refine w_lo dX5_readFact_183 rfl rfl rfl rfl ?_
          refine w_iv dX5_readFact_184 rfl rfl (As := [.int 4]) rfl rfl hJ134.1.1 zs_2 (Nat.le_of_ble_eq_true rfl) ?_
          refine ZV.imp (k_1297_c4 hN hJ134.1) ?_
          rintro _ ⟨x138, M135, rfl, h139, h140, hJ136, hq137⟩
          have hJ141 := zJ_trans hJ134 hJ136 (zSub_cons (fun _ _ h h' hk => zIR_e (by omega) (by omega) hk) (zSub_cons (fun _ _ h h' hk => zIR_s (zIR_e (by omega) (by omega) hk)) (zSub_cons (fun _ _ h h' hk => zIR_s (zIR_s (zIR_e (by omega) (by omega) hk))) (zSub_cons (fun _ _ h h' hk => zIR_s (zIR_s (zIR_s (zIR_e (by omega) (by omega) hk)))) (zSub_cons (fun _ _ h h' hk => zIR_s (zIR_s (zIR_s (zIR_s (zIR_a (by omega) (by omega)))))) (zSub_cons (fun _ _ h h' hk => zIR_s (zIR_s (zIR_s (zIR_s (zIR_s (zIR_a (by omega) (by omega))))))) (zSub_cons (fun _ _ h h' hk => zIR_s (zIR_s (zIR_s (zIR_s (zIR_s (zIR_s (zIR_e (by omega) (by omega) hk))))))) zSub_nil)))))))
          show ZW _ _ _ _ _ _ _ (187, [some (.ref 2), some (.int 4), some (.int v167_2), some (.int s167_0)], [.int x138], M135)
          rcases Int.decEq x138.toInt (0 : Int) with h142 | h142
          · skip
            refine w_ine_t dX5_readFact_187 (t := 192) rfl (by omega) ?_
            refine w_lo dX5_readFact_192 rfl rfl rfl rfl ?_
            obtain ⟨b143, f144, h145⟩ := zd_2_8 hJ141.1
            have h146 := zDm_b h145
            refine w_gf dX5_readFact_193 rfl hJ141.1.1 zs_2 f144 ?_
            refine w_gf dX5_readFact_196 rfl hJ141.1.1 (zs_1_0 h145) (zr_1_0_15 h145 hJ141.1) ?_
            refine w_lo dX5_readFact_199 rfl rfl rfl rfl ?_
            refine w_iv dX5_readFact_200 rfl rfl (As := [.int s167_0]) rfl rfl hJ141.1.1 (zs_1_13 h145) (Nat.le_of_ble_eq_true rfl) ?_
            refine ZV.imp (k_515 (b143 + 13) (zLw_of h145) s167_0 hN hJ141.1) ?_
            rintro _ ⟨M147, rfl, hJ148, hq149⟩
            have hJ150 := zJ_trans hJ141 hJ148 (zSub_cons (fun _ _ h h' hk => ((zDm_or h145).elim (fun e => zIR_s (zIR_s (zIR_e (by omega) (by omega) hk))) (fun e => zIR_s (zIR_s (zIR_s (zIR_e (by omega) (by omega) hk)))))) (zSub_cons (fun _ _ h h' hk => ((zDm_or h145).elim (fun e => zIR_s (zIR_s (zIR_s (zIR_s (zIR_a (by omega) (by omega)))))) (fun e => zIR_s (zIR_s (zIR_s (zIR_s (zIR_s (zIR_a (by omega) (by omega))))))))) zSub_nil))
            show ZW _ _ _ _ _ _ _ (203, [some (.ref 2), some (.int 4), some (.int v167_2), some (.int s167_0)], [], M147)
            refine w_lo dX5_readFact_203 rfl rfl rfl rfl ?_
            refine w_ic dX5_readFact_204 zi_2 ?_
            refine w_remP dX5_readFact_205 (by omega) (by have := zt_2; omega) ?_
            intro x151 h152 h153 h154
            have := zt_2
            refine w_ic dX5_readFact_206 zi_1 ?_
            rcases Int.decEq x151.toInt (1 : Int) with h155 | h155
            · skip
              refine w_cne_t dX5_readFact_207 (t := 222) rfl (by have := zt_1; omega) ?_
              refine w_ic dX5_readFact_222 zi_1 ?_
              refine w_en dX5_readFact_223 rfl ?_
              exact ⟨_, _, rfl, (by have := zt_1; omega), (by have := zt_1; omega), hJ150, trivial⟩
            · skip
              refine w_cne_f dX5_readFact_207 (t := 222) rfl (by have := zt_1; omega) ?_
              refine w_lo dX5_readFact_210 rfl rfl rfl rfl ?_
              have f156 := (hJ148.2 (2) 8 (zNI_k (by decide) (by decide) (zNI (by omega) zNI_nil))).trans (f144)
              refine w_gf dX5_readFact_211 rfl hJ150.1.1 zs_2 f156 ?_
              refine w_gf dX5_readFact_214 rfl hJ150.1.1 (zs_1_0 h145) (zr_1_0_15 h145 hJ150.1) ?_
              refine w_bi dX5_readFact_217 (c := (-8)) (by decide) ?_
              refine w_iv dX5_readFact_219 rfl rfl (As := [.int (-8)]) rfl rfl hJ150.1.1 (zs_1_13 h145) (Nat.le_of_ble_eq_true rfl) ?_
              refine ZV.imp (k_515 (b143 + 13) (zLw_of h145) (-8) hN hJ150.1) ?_
              rintro _ ⟨M157, rfl, hJ158, hq159⟩
              have hJ160 := zJ_trans hJ150 hJ158 (zSub_cons (fun _ _ h h' hk => ((zDm_or h145).elim (fun e => zIR_s (zIR_s (zIR_e (by omega) (by omega) hk))) (fun e => zIR_s (zIR_s (zIR_s (zIR_e (by omega) (by omega) hk)))))) (zSub_cons (fun _ _ h h' hk => ((zDm_or h145).elim (fun e => zIR_s (zIR_s (zIR_s (zIR_s (zIR_a (by omega) (by omega)))))) (fun e => zIR_s (zIR_s (zIR_s (zIR_s (zIR_s (zIR_a (by omega) (by omega))))))))) zSub_nil))
              show ZW _ _ _ _ _ _ _ (222, [some (.ref 2), some (.int 4), some (.int v167_2), some (.int s167_0)], [], M157)
              refine w_ic dX5_readFact_222 zi_1 ?_
              refine w_en dX5_readFact_223 rfl ?_
              exact ⟨_, _, rfl, (by have := zt_1; omega), (by have := zt_1; omega), hJ160, trivial⟩
          · skip
            refine w_ine_f dX5_readFact_187 (t := 192) rfl (by omega) ?_
            refine w_ic dX5_readFact_190 zi_0 ?_
            refine w_en dX5_readFact_191 rfl ?_
            exact ⟨_, _, rfl, (by have := zt_0; omega), (by have := zt_0; omega), hJ141, trivial⟩
        · skip
          refine w_ine_f dX5_readFact_169 (t := 178) rfl (by omega) ?_
          refine w_lo dX5_readFact_172 rfl rfl rfl rfl ?_
          refine w_ic dX5_readFact_173 zi_1 ?_
          refine w_iv dX5_readFact_174 rfl rfl (As := [.int 1]) rfl rfl hJ.1.1 zs_2 (Nat.le_of_ble_eq_true rfl) ?_
          refine ZV.imp (k_1286 1 (by have := zt_1; omega) (by have := zt_1; omega) hN hJ.1) ?_
          rintro _ ⟨x164, M161, rfl, h165, h166, hJ162, hq163⟩
          have hJ167 := zJ_trans hJ hJ162 (zSub_cons (fun _ _ h h' hk => zIR_e (by omega) (by omega) hk) (zSub_cons (fun _ _ h h' hk => zIR_s (zIR_e (by omega) (by omega) hk)) zSub_nil))
          show ZW _ _ _ _ _ _ _ (177, [some (.ref 2), some (.int 4), some (.int v167_2), some (.int s167_0)], [.int x164], M161)
          refine w_eni dX5_readFact_177 rfl (znb (by omega) (by omega)) ?_
          exact ⟨_, _, rfl, (by omega), (by omega), hJ167, trivial⟩
  obtain ⟨ih2, ih28, ih167⟩ := main 8023
  show ZW _ _ _ _ _ _ _ (0, [some (.ref 2), some (.int 4), none, none], [], M0)
  refine w_ic dX5_readFact_0 zi_0 ?_
  refine w_lo (ml' := [some (.ref 2), some (.int 4), some (.int 0), none]) dX5_readFact_1 rfl rfl rfl rfl ?_
  exact ih2 M0 0 none hJ0 (by have := zt_0; omega) (by have := zt_0; omega) (by have := zt_4; have := zt_0; omega)
set_option maxRecDepth 100000 in
theorem k_1300_c4 {X : List Int32} {d N : Nat} {M0 : zM}  (hN : N ≤ 600) (hB0 : zB N M0) : ZV X (d + 13) 1300 [.ref 2, .int 4] M0 (zRI N [(2, 3, 0), (2, 3, 1), (20, 21, 1), (41, 42, 1), (21, 22, 1000), (42, 43, 1000), (2, 3, 7)] M0 (0) (1) (fun _ _ => True)) := by
  have hJ0 : zJ N [(2, 3, 0), (2, 3, 1), (20, 21, 1), (41, 42, 1), (21, 22, 1000), (42, 43, 1000), (2, 3, 7)] M0 M0 := zJ_refl hB0
  refine ZV.of (ini := false) rfl (Nat.le_of_ble_eq_true rfl) (by decide +kernel) ?_
  have main : ∀ n : Nat,
      (∀ (M : zM) (v2_2 : Int32) (o2_3 : Option Value), zJ N [(2, 3, 0), (2, 3, 1), (20, 21, 1), (41, 42, 1), (21, 22, 1000), (42, 43, 1000), (2, 3, 7)] M0 M → ((0 : Int) ≤ v2_2.toInt) → (v2_2.toInt ≤ 1601) → 9624 * (1601 - v2_2.toInt) + 9622 < (n : Int) → ZW X (d + 12) 5 false (some .boolean) cX5_readTest (zRI N [(2, 3, 0), (2, 3, 1), (20, 21, 1), (41, 42, 1), (21, 22, 1000), (42, 43, 1000), (2, 3, 7)] M0 (0) (1) (fun _ _ => True)) (2, [some (.ref 2), some (.int 4), some (.int v2_2), o2_3], [], M)) ∧
      (∀ (M : zM) (v11_2 : Int32) (v11_3 : Int32), zJ N [(2, 3, 0), (2, 3, 1), (20, 21, 1), (41, 42, 1), (21, 22, 1000), (42, 43, 1000), (2, 3, 7)] M0 M → ((0 : Int) ≤ v11_2.toInt) → (v11_2.toInt ≤ 1600) → ((0 : Int) ≤ v11_3.toInt) → (v11_3.toInt ≤ 1601) → 9624 * (1601 - v11_2.toInt) + 6 * (1601 - v11_3.toInt) + 3 < (n : Int) → ZW X (d + 12) 5 false (some .boolean) cX5_readTest (zRI N [(2, 3, 0), (2, 3, 1), (20, 21, 1), (41, 42, 1), (21, 22, 1000), (42, 43, 1000), (2, 3, 7)] M0 (0) (1) (fun _ _ => True)) (11, [some (.ref 2), some (.int 4), some (.int v11_2), some (.int v11_3)], [], M)) ∧
      (∀ (M : zM) (v44_2 : Int32) (v44_3 : Int32), zJ N [(2, 3, 0), (2, 3, 1), (20, 21, 1), (41, 42, 1), (21, 22, 1000), (42, 43, 1000), (2, 3, 7)] M0 M → ((0 : Int) ≤ v44_2.toInt) → (v44_2.toInt ≤ 1600) → ((0 : Int) ≤ v44_3.toInt) → (v44_3.toInt ≤ 1600) → 9624 * (1601 - v44_2.toInt) + 6 * (1601 - v44_3.toInt) + 2 < (n : Int) → ZW X (d + 12) 5 false (some .boolean) cX5_readTest (zRI N [(2, 3, 0), (2, 3, 1), (20, 21, 1), (41, 42, 1), (21, 22, 1000), (42, 43, 1000), (2, 3, 7)] M0 (0) (1) (fun _ _ => True)) (44, [some (.ref 2), some (.int 4), some (.int v44_2), some (.int v44_3)], [], M)) ∧
      (∀ (M : zM) (v66_2 : Int32) (u66_3 : Int32), zJ N [(2, 3, 0), (2, 3, 1), (20, 21, 1), (41, 42, 1), (21, 22, 1000), (42, 43, 1000), (2, 3, 7)] M0 M → ((0 : Int) ≤ v66_2.toInt) → (v66_2.toInt ≤ 1600) → 9624 * (1601 - v66_2.toInt) + 1 < (n : Int) → ZW X (d + 12) 5 false (some .boolean) cX5_readTest (zRI N [(2, 3, 0), (2, 3, 1), (20, 21, 1), (41, 42, 1), (21, 22, 1000), (42, 43, 1000), (2, 3, 7)] M0 (0) (1) (fun _ _ => True)) (66, [some (.ref 2), some (.int 4), some (.int v66_2), some (.int u66_3)], [], M)) := by
    intro n
    induction n with
    | zero =>
      exact ⟨(fun M v2_2 o2_3 hJ v2_20 v2_21 hn => absurd hn (by omega)), (fun M v11_2 v11_3 hJ v11_20 v11_21 v11_30 v11_31 hn => absurd hn (by omega)), (fun M v44_2 v44_3 hJ v44_20 v44_21 v44_30 v44_31 hn => absurd hn (by omega)), (fun M v66_2 u66_3 hJ v66_20 v66_21 hn => absurd hn (by omega))⟩
    | succ n ih =>
      obtain ⟨ih2, ih11, ih44, ih66⟩ := ih
      refine ⟨?_, ?_, ?_, ?_⟩
      · intro M v2_2 o2_3 hJ v2_20 v2_21 hn
        refine w_lo dX5_readTest_2 rfl rfl rfl rfl ?_
        refine w_si dX5_readTest_3 (c := 1600) (by decide) ?_
        rcases zcut (1600 : Int) v2_2.toInt with h1 | h1
        · skip
          refine w_cgt_t dX5_readTest_6 (t := 104) rfl (by have := zt_1600; omega) ?_
          refine w_ic dX5_readTest_104 zi_1 ?_
          refine w_en dX5_readTest_105 rfl ?_
          exact ⟨_, _, rfl, (by have := zt_1; omega), (by have := zt_1; omega), hJ, trivial⟩
        · skip
          refine w_cgt_f dX5_readTest_6 (t := 104) rfl (by have := zt_1600; omega) ?_
          refine w_ic dX5_readTest_9 zi_0 ?_
          refine w_lo (ml' := [some (.ref 2), some (.int 4), some (.int v2_2), some (.int 0)]) dX5_readTest_10 rfl rfl rfl rfl ?_
          exact ih11 M v2_2 0 hJ (by omega) (by omega) (by have := zt_0; omega) (by have := zt_0; omega) (by have := zt_4; have := zt_0; omega)
      · intro M v11_2 v11_3 hJ v11_20 v11_21 v11_30 v11_31 hn
        refine w_lo dX5_readTest_11 rfl rfl rfl rfl ?_
        refine w_si dX5_readTest_12 (c := 1600) (by decide) ?_
        rcases zcut (1600 : Int) v11_3.toInt with h2 | h2
        · skip
          refine w_cgt_t dX5_readTest_15 (t := 66) rfl (by have := zt_1600; omega) ?_
          exact ih66 M v11_2 v11_3 hJ (by omega) (by omega) (by have := zt_4; omega)
        · skip
          refine w_cgt_f dX5_readTest_15 (t := 66) rfl (by have := zt_1600; omega) ?_
          refine w_lo dX5_readTest_18 rfl rfl rfl rfl ?_
          refine w_lo dX5_readTest_19 rfl rfl rfl rfl ?_
          refine w_iv dX5_readTest_20 rfl rfl (As := [.int 4]) rfl rfl hJ.1.1 zs_2 (Nat.le_of_ble_eq_true rfl) ?_
          refine ZV.imp (k_1301_c4 hN hJ.1) ?_
          rintro _ ⟨x6, M3, rfl, h7, h8, hJ4, hq5⟩
          have hJ9 := zJ_trans hJ hJ4 (zSub_cons (fun _ _ h h' hk => zIR_e (by omega) (by omega) hk) (zSub_cons (fun _ _ h h' hk => zIR_s (zIR_e (by omega) (by omega) hk)) (zSub_cons (fun _ _ h h' hk => zIR_s (zIR_s (zIR_e (by omega) (by omega) hk))) (zSub_cons (fun _ _ h h' hk => zIR_s (zIR_s (zIR_s (zIR_e (by omega) (by omega) hk)))) (zSub_cons (fun _ _ h h' hk => zIR_s (zIR_s (zIR_s (zIR_s (zIR_a (by omega) (by omega)))))) (zSub_cons (fun _ _ h h' hk => zIR_s (zIR_s (zIR_s (zIR_s (zIR_s (zIR_a (by omega) (by omega))))))) (zSub_cons (fun _ _ h h' hk => zIR_s (zIR_s (zIR_s (zIR_s (zIR_s (zIR_s (zIR_e (by omega) (by omega) hk))))))) zSub_nil)))))))
          show ZW _ _ _ _ _ _ _ (23, [some (.ref 2), some (.int 4), some (.int v11_2), some (.int v11_3)], [.int x6], M3)
          rcases Int.decEq x6.toInt (0 : Int) with h10 | h10
          · skip
            refine w_ine_t dX5_readTest_23 (t := 28) rfl (by omega) ?_
            refine w_lo dX5_readTest_28 rfl rfl rfl rfl ?_
            rcases zcut (0 : Int) v11_3.toInt with h11 | h11
            · skip
              refine w_ile_f dX5_readTest_29 (t := 44) rfl (by omega) ?_
              refine w_lo dX5_readTest_32 rfl rfl rfl rfl ?_
              obtain ⟨b12, f13, h14⟩ := zd_2_8 hJ9.1
              have h15 := zDm_b h14
              refine w_gf dX5_readTest_33 rfl hJ9.1.1 zs_2 f13 ?_
              refine w_gf dX5_readTest_36 rfl hJ9.1.1 (zs_1_0 h14) (zr_1_0_15 h14 hJ9.1) ?_
              refine w_bi dX5_readTest_39 (c := (-17)) (by decide) ?_
              refine w_iv dX5_readTest_41 rfl rfl (As := [.int (-17)]) rfl rfl hJ9.1.1 (zs_1_13 h14) (Nat.le_of_ble_eq_true rfl) ?_
              refine ZV.imp (k_515 (b12 + 13) (zLw_of h14) (-17) hN hJ9.1) ?_
              rintro _ ⟨M16, rfl, hJ17, hq18⟩
              have hJ19 := zJ_trans hJ9 hJ17 (zSub_cons (fun _ _ h h' hk => ((zDm_or h14).elim (fun e => zIR_s (zIR_s (zIR_e (by omega) (by omega) hk))) (fun e => zIR_s (zIR_s (zIR_s (zIR_e (by omega) (by omega) hk)))))) (zSub_cons (fun _ _ h h' hk => ((zDm_or h14).elim (fun e => zIR_s (zIR_s (zIR_s (zIR_s (zIR_a (by omega) (by omega)))))) (fun e => zIR_s (zIR_s (zIR_s (zIR_s (zIR_s (zIR_a (by omega) (by omega))))))))) zSub_nil))
              show ZW _ _ _ _ _ _ _ (44, [some (.ref 2), some (.int 4), some (.int v11_2), some (.int v11_3)], [], M16)
              exact ih44 M16 v11_2 v11_3 hJ19 (by omega) (by omega) (by omega) (by omega) (by have := zt_4; omega)
            · skip
              refine w_ile_t dX5_readTest_29 (t := 44) rfl (by omega) ?_
              exact ih44 M3 v11_2 v11_3 hJ9 (by omega) (by omega) (by omega) (by omega) (by have := zt_4; omega)
          · skip
            refine w_ine_f dX5_readTest_23 (t := 28) rfl (by omega) ?_
            refine w_ic dX5_readTest_26 zi_0 ?_
            refine w_en dX5_readTest_27 rfl ?_
            exact ⟨_, _, rfl, (by have := zt_0; omega), (by have := zt_0; omega), hJ9, trivial⟩
      · intro M v44_2 v44_3 hJ v44_20 v44_21 v44_30 v44_31 hn
        refine w_lo dX5_readTest_44 rfl rfl rfl rfl ?_
        refine w_iv dX5_readTest_45 rfl rfl (As := []) rfl rfl hJ.1.1 zs_2 (Nat.le_of_ble_eq_true rfl) ?_
        refine ZV.imp (k_1287 hN hJ.1) ?_
        rintro _ ⟨x23, M20, rfl, h24, h25, hJ21, hq22⟩
        have hJ26 := zJ_trans hJ hJ21 zSub_nil
        show ZW _ _ _ _ _ _ _ (48, [some (.ref 2), some (.int 4), some (.int v44_2), some (.int v44_3)], [.int x23], M20)
        refine w_bi dX5_readTest_48 (c := 22) (by decide) ?_
        rcases Int.decEq x23.toInt (22 : Int) with h27 | h27
        · skip
          refine w_ceq_f dX5_readTest_50 (t := 56) rfl (by have := zt_22; omega) ?_
          refine w_gt dX5_readTest_53 (t := 66) rfl ?_
          exact ih66 M20 v44_2 v44_3 hJ26 (by omega) (by omega) (by have := zt_4; omega)
        · skip
          refine w_ceq_t dX5_readTest_50 (t := 56) rfl (by have := zt_22; omega) ?_
          refine w_lo dX5_readTest_56 rfl rfl rfl rfl ?_
          refine w_iv dX5_readTest_57 rfl rfl (As := []) rfl rfl hJ26.1.1 zs_2 (Nat.le_of_ble_eq_true rfl) ?_
          refine ZV.imp (k_1289 hN hJ26.1) ?_
          rintro _ ⟨M28, rfl, hJ29, hq30⟩
          have hJ31 := zJ_trans hJ26 hJ29 (zSub_cons (fun _ _ h h' hk => zIR_s (zIR_s (zIR_s (zIR_s (zIR_s (zIR_s (zIR_e (by omega) (by omega) hk))))))) zSub_nil)
          show ZW _ _ _ _ _ _ _ (60, [some (.ref 2), some (.int 4), some (.int v44_2), some (.int v44_3)], [], M28)
          refine w_inc (kk := 3) dX5_readTest_60 rfl (m := 1) (by decide) (by omega) ?_
          intro x32 h33
          refine ⟨_, rfl, ?_⟩
          show ZW _ _ _ _ _ _ _ (63, [some (.ref 2), some (.int 4), some (.int v44_2), some (.int x32)], [], M28)
          refine w_gt dX5_readTest_63 (t := 11) rfl ?_
          exact ih11 M28 v44_2 x32 hJ31 (by omega) (by omega) (by omega) (by omega) (by have := zt_4; omega)
      · intro M v66_2 u66_3 hJ v66_20 v66_21 hn
        refine w_lo dX5_readTest_66 rfl rfl rfl rfl ?_
        rcases zcut (0 : Int) v66_2.toInt with h34 | h34
        · skip
          refine w_ile_f dX5_readTest_67 (t := 82) rfl (by omega) ?_
          refine w_lo dX5_readTest_70 rfl rfl rfl rfl ?_
          obtain ⟨b35, f36, h37⟩ := zd_2_8 hJ.1
          have h38 := zDm_b h37
          refine w_gf dX5_readTest_71 rfl hJ.1.1 zs_2 f36 ?_
          refine w_gf dX5_readTest_74 rfl hJ.1.1 (zs_1_0 h37) (zr_1_0_15 h37 hJ.1) ?_
          refine w_bi dX5_readTest_77 (c := (-18)) (by decide) ?_
          refine w_iv dX5_readTest_79 rfl rfl (As := [.int (-18)]) rfl rfl hJ.1.1 (zs_1_13 h37) (Nat.le_of_ble_eq_true rfl) ?_
          refine ZV.imp (k_515 (b35 + 13) (zLw_of h37) (-18) hN hJ.1) ?_
          rintro _ ⟨M39, rfl, hJ40, hq41⟩
          have hJ42 := zJ_trans hJ hJ40 (zSub_cons (fun _ _ h h' hk => ((zDm_or h37).elim (fun e => zIR_s (zIR_s (zIR_e (by omega) (by omega) hk))) (fun e => zIR_s (zIR_s (zIR_s (zIR_e (by omega) (by omega) hk)))))) (zSub_cons (fun _ _ h h' hk => ((zDm_or h37).elim (fun e => zIR_s (zIR_s (zIR_s (zIR_s (zIR_a (by omega) (by omega)))))) (fun e => zIR_s (zIR_s (zIR_s (zIR_s (zIR_s (zIR_a (by omega) (by omega))))))))) zSub_nil))
          show ZW _ _ _ _ _ _ _ (82, [some (.ref 2), some (.int 4), some (.int v66_2), some (.int u66_3)], [], M39)
          refine w_lo dX5_readTest_82 rfl rfl rfl rfl ?_
          refine w_iv dX5_readTest_83 rfl rfl (As := []) rfl rfl hJ42.1.1 zs_2 (Nat.le_of_ble_eq_true rfl) ?_
          refine ZV.imp (k_1287 hN hJ42.1) ?_
          rintro _ ⟨x46, M43, rfl, h47, h48, hJ44, hq45⟩
          have hJ49 := zJ_trans hJ42 hJ44 zSub_nil
          show ZW _ _ _ _ _ _ _ (86, [some (.ref 2), some (.int 4), some (.int v66_2), some (.int u66_3)], [.int x46], M43)
          refine w_bi dX5_readTest_86 (c := 21) (by decide) ?_
          rcases Int.decEq x46.toInt (21 : Int) with h50 | h50
          · skip
            refine w_ceq_f dX5_readTest_88 (t := 94) rfl (by have := zt_21; omega) ?_
            refine w_gt dX5_readTest_91 (t := 104) rfl ?_
            refine w_ic dX5_readTest_104 zi_1 ?_
            refine w_en dX5_readTest_105 rfl ?_
            exact ⟨_, _, rfl, (by have := zt_1; omega), (by have := zt_1; omega), hJ49, trivial⟩
          · skip
            refine w_ceq_t dX5_readTest_88 (t := 94) rfl (by have := zt_21; omega) ?_
            refine w_lo dX5_readTest_94 rfl rfl rfl rfl ?_
            refine w_iv dX5_readTest_95 rfl rfl (As := []) rfl rfl hJ49.1.1 zs_2 (Nat.le_of_ble_eq_true rfl) ?_
            refine ZV.imp (k_1289 hN hJ49.1) ?_
            rintro _ ⟨M51, rfl, hJ52, hq53⟩
            have hJ54 := zJ_trans hJ49 hJ52 (zSub_cons (fun _ _ h h' hk => zIR_s (zIR_s (zIR_s (zIR_s (zIR_s (zIR_s (zIR_e (by omega) (by omega) hk))))))) zSub_nil)
            show ZW _ _ _ _ _ _ _ (98, [some (.ref 2), some (.int 4), some (.int v66_2), some (.int u66_3)], [], M51)
            refine w_inc (kk := 2) dX5_readTest_98 rfl (m := 1) (by decide) (by omega) ?_
            intro x55 h56
            refine ⟨_, rfl, ?_⟩
            show ZW _ _ _ _ _ _ _ (101, [some (.ref 2), some (.int 4), some (.int x55), some (.int u66_3)], [], M51)
            refine w_gt dX5_readTest_101 (t := 2) rfl ?_
            exact ih2 M51 x55 (some (.int u66_3)) hJ54 (by omega) (by omega) (by have := zt_4; omega)
        · skip
          refine w_ile_t dX5_readTest_67 (t := 82) rfl (by omega) ?_
          refine w_lo dX5_readTest_82 rfl rfl rfl rfl ?_
          refine w_iv dX5_readTest_83 rfl rfl (As := []) rfl rfl hJ.1.1 zs_2 (Nat.le_of_ble_eq_true rfl) ?_
          refine ZV.imp (k_1287 hN hJ.1) ?_
          rintro _ ⟨x60, M57, rfl, h61, h62, hJ58, hq59⟩
          have hJ63 := zJ_trans hJ hJ58 zSub_nil
          show ZW _ _ _ _ _ _ _ (86, [some (.ref 2), some (.int 4), some (.int v66_2), some (.int u66_3)], [.int x60], M57)
          refine w_bi dX5_readTest_86 (c := 21) (by decide) ?_
          rcases Int.decEq x60.toInt (21 : Int) with h64 | h64
          · skip
            refine w_ceq_f dX5_readTest_88 (t := 94) rfl (by have := zt_21; omega) ?_
            refine w_gt dX5_readTest_91 (t := 104) rfl ?_
            refine w_ic dX5_readTest_104 zi_1 ?_
            refine w_en dX5_readTest_105 rfl ?_
            exact ⟨_, _, rfl, (by have := zt_1; omega), (by have := zt_1; omega), hJ63, trivial⟩
          · skip
            refine w_ceq_t dX5_readTest_88 (t := 94) rfl (by have := zt_21; omega) ?_
            refine w_lo dX5_readTest_94 rfl rfl rfl rfl ?_
            refine w_iv dX5_readTest_95 rfl rfl (As := []) rfl rfl hJ63.1.1 zs_2 (Nat.le_of_ble_eq_true rfl) ?_
            refine ZV.imp (k_1289 hN hJ63.1) ?_
            rintro _ ⟨M65, rfl, hJ66, hq67⟩
            have hJ68 := zJ_trans hJ63 hJ66 (zSub_cons (fun _ _ h h' hk => zIR_s (zIR_s (zIR_s (zIR_s (zIR_s (zIR_s (zIR_e (by omega) (by omega) hk))))))) zSub_nil)
            show ZW _ _ _ _ _ _ _ (98, [some (.ref 2), some (.int 4), some (.int v66_2), some (.int u66_3)], [], M65)
            refine w_inc (kk := 2) dX5_readTest_98 rfl (m := 1) (by decide) (by omega) ?_
            intro x69 h70
            refine ⟨_, rfl, ?_⟩
            show ZW _ _ _ _ _ _ _ (101, [some (.ref 2), some (.int 4), some (.int x69), some (.int u66_3)], [], M65)
            refine w_gt dX5_readTest_101 (t := 2) rfl ?_
            exact ih2 M65 x69 (some (.int u66_3)) hJ68 (by omega) (by omega) (by have := zt_4; omega)
  obtain ⟨ih2, ih11, ih44, ih66⟩ := main 15436899
  show ZW _ _ _ _ _ _ _ (0, [some (.ref 2), some (.int 4), none, none], [], M0)
  refine w_ic dX5_readTest_0 zi_0 ?_
  refine w_lo (ml' := [some (.ref 2), some (.int 4), some (.int 0), none]) dX5_readTest_1 rfl rfl rfl rfl ?_
  exact ih2 M0 0 none hJ0 (by have := zt_0; omega) (by have := zt_0; omega) (by have := zt_4; have := zt_0; omega)
set_option maxRecDepth 100000 in
theorem k_1301_c3 {X : List Int32} {d N : Nat} {M0 : zM}  (hN : N ≤ 600) (hB0 : zB N M0) : ZV X (d + 14) 1301 [.ref 2, .int 3] M0 (zRI N [(2, 3, 0), (2, 3, 1), (20, 21, 1), (41, 42, 1), (21, 22, 1000), (42, 43, 1000), (2, 3, 7)] M0 (0) (1) (fun _ _ => True)) := by
  have hJ0 : zJ N [(2, 3, 0), (2, 3, 1), (20, 21, 1), (41, 42, 1), (21, 22, 1000), (42, 43, 1000), (2, 3, 7)] M0 M0 := zJ_refl hB0
  refine ZV.of (ini := false) rfl (Nat.le_of_ble_eq_true rfl) (by decide +kernel) ?_
  have main : ∀ n : Nat,
      (∀ (M : zM) (v2_2 : Int32) (o2_3 : Option Value), zJ N [(2, 3, 0), (2, 3, 1), (20, 21, 1), (41, 42, 1), (21, 22, 1000), (42, 43, 1000), (2, 3, 7)] M0 M → ((0 : Int) ≤ v2_2.toInt) → (v2_2.toInt ≤ 1601) → 5 * (1601 - v2_2.toInt) + 3 < (n : Int) → ZW X (d + 13) 5 false (some .boolean) cX5_readFact (zRI N [(2, 3, 0), (2, 3, 1), (20, 21, 1), (41, 42, 1), (21, 22, 1000), (42, 43, 1000), (2, 3, 7)] M0 (0) (1) (fun _ _ => True)) (2, [some (.ref 2), some (.int 3), some (.int v2_2), o2_3], [], M)) ∧
      (∀ (M : zM) (v28_2 : Int32) (o28_3 : Option Value), zJ N [(2, 3, 0), (2, 3, 1), (20, 21, 1), (41, 42, 1), (21, 22, 1000), (42, 43, 1000), (2, 3, 7)] M0 M → ((0 : Int) ≤ v28_2.toInt) → (v28_2.toInt ≤ 1601) → 2 < (n : Int) → ZW X (d + 13) 5 false (some .boolean) cX5_readFact (zRI N [(2, 3, 0), (2, 3, 1), (20, 21, 1), (41, 42, 1), (21, 22, 1000), (42, 43, 1000), (2, 3, 7)] M0 (0) (1) (fun _ _ => True)) (28, [some (.ref 2), some (.int 3), some (.int v28_2), o28_3], [], M)) ∧
      (∀ (M : zM) (v167_2 : Int32) (o167_3 : Option Value) (s167_0 : Int32), zJ N [(2, 3, 0), (2, 3, 1), (20, 21, 1), (41, 42, 1), (21, 22, 1000), (42, 43, 1000), (2, 3, 7)] M0 M → ((0 : Int) ≤ v167_2.toInt) → (v167_2.toInt ≤ 1601) → ((-16 : Int) ≤ s167_0.toInt) → (s167_0.toInt ≤ 0) → 1 < (n : Int) → ZW X (d + 13) 5 false (some .boolean) cX5_readFact (zRI N [(2, 3, 0), (2, 3, 1), (20, 21, 1), (41, 42, 1), (21, 22, 1000), (42, 43, 1000), (2, 3, 7)] M0 (0) (1) (fun _ _ => True)) (167, [some (.ref 2), some (.int 3), some (.int v167_2), o167_3], [.int s167_0], M)) := by
    intro n
    induction n with
    | zero =>
      exact ⟨(fun M v2_2 o2_3 hJ v2_20 v2_21 hn => absurd hn (by omega)), (fun M v28_2 o28_3 hJ v28_20 v28_21 hn => absurd hn (by omega)), (fun M v167_2 o167_3 s167_0 hJ v167_20 v167_21 s167_00 s167_01 hn => absurd hn (by omega))⟩
    | succ n ih =>
      obtain ⟨ih2, ih28, ih167⟩ := ih
      refine ⟨?_, ?_, ?_⟩
      · intro M v2_2 o2_3 hJ v2_20 v2_21 hn
        refine w_lo dX5_readFact_2 rfl rfl rfl rfl ?_
        refine w_si dX5_readFact_3 (c := 1600) (by decide) ?_
        rcases zcut (1600 : Int) v2_2.toInt with h1 | h1
        · skip
          refine w_cgt_t dX5_readFact_6 (t := 28) rfl (by have := zt_1600; omega) ?_
          exact ih28 M v2_2 o2_3 hJ (by omega) (by omega) (by have := zt_3; omega)
        · skip
          refine w_cgt_f dX5_readFact_6 (t := 28) rfl (by have := zt_1600; omega) ?_
          refine w_lo dX5_readFact_9 rfl rfl rfl rfl ?_
          refine w_iv dX5_readFact_10 rfl rfl (As := []) rfl rfl hJ.1.1 zs_2 (Nat.le_of_ble_eq_true rfl) ?_
          refine ZV.imp (k_1287 hN hJ.1) ?_
          rintro _ ⟨x5, M2, rfl, h6, h7, hJ3, hq4⟩
          have hJ8 := zJ_trans hJ hJ3 zSub_nil
          show ZW _ _ _ _ _ _ _ (13, [some (.ref 2), some (.int 3), some (.int v2_2), o2_3], [.int x5], M2)
          refine w_bi dX5_readFact_13 (c := 23) (by decide) ?_
          rcases Int.decEq x5.toInt (23 : Int) with h9 | h9
          · skip
            refine w_cne_t dX5_readFact_15 (t := 28) rfl (by have := zt_23; omega) ?_
            exact ih28 M2 v2_2 o2_3 hJ8 (by omega) (by omega) (by have := zt_3; omega)
          · skip
            refine w_cne_f dX5_readFact_15 (t := 28) rfl (by have := zt_23; omega) ?_
            refine w_lo dX5_readFact_18 rfl rfl rfl rfl ?_
            refine w_iv dX5_readFact_19 rfl rfl (As := []) rfl rfl hJ8.1.1 zs_2 (Nat.le_of_ble_eq_true rfl) ?_
            refine ZV.imp (k_1289 hN hJ8.1) ?_
            rintro _ ⟨M10, rfl, hJ11, hq12⟩
            have hJ13 := zJ_trans hJ8 hJ11 (zSub_cons (fun _ _ h h' hk => zIR_s (zIR_s (zIR_s (zIR_s (zIR_s (zIR_s (zIR_e (by omega) (by omega) hk))))))) zSub_nil)
            show ZW _ _ _ _ _ _ _ (22, [some (.ref 2), some (.int 3), some (.int v2_2), o2_3], [], M10)
            refine w_inc (kk := 2) dX5_readFact_22 rfl (m := 1) (by decide) (by omega) ?_
            intro x14 h15
            refine ⟨_, rfl, ?_⟩
            show ZW _ _ _ _ _ _ _ (25, [some (.ref 2), some (.int 3), some (.int x14), o2_3], [], M10)
            refine w_gt dX5_readFact_25 (t := 2) rfl ?_
            exact ih2 M10 x14 o2_3 hJ13 (by omega) (by omega) (by have := zt_3; omega)
      · intro M v28_2 o28_3 hJ v28_20 v28_21 hn
        refine w_lo dX5_readFact_28 rfl rfl rfl rfl ?_
        refine w_bi dX5_readFact_29 (c := 91) (by decide) ?_
        refine w_iv dX5_readFact_31 rfl rfl (As := [.int 91]) rfl rfl hJ.1.1 zs_2 (Nat.le_of_ble_eq_true rfl) ?_
        refine ZV.imp (k_1299 91 (by have := zt_91; omega) (by have := zt_91; omega) hN hJ.1) ?_
        rintro _ ⟨x19, M16, rfl, h20, h21, hJ17, hq18⟩
        have hJ22 := zJ_trans hJ hJ17 zSub_nil
        show ZW _ _ _ _ _ _ _ (34, [some (.ref 2), some (.int 3), some (.int v28_2), o28_3], [.int x19], M16)
        rcases Int.decEq x19.toInt (0 : Int) with h23 | h23
        · skip
          refine w_ieq_f dX5_readFact_34 (t := 87) rfl (by omega) ?_
          refine w_lo dX5_readFact_37 rfl rfl rfl rfl ?_
          refine w_bi dX5_readFact_38 (c := 8) (by decide) ?_
          refine w_clt_t dX5_readFact_40 (t := 49) rfl (by have := zt_3; have := zt_8; omega) ?_
          refine w_lo dX5_readFact_49 rfl rfl rfl rfl ?_
          refine w_iv dX5_readFact_50 rfl rfl (As := []) rfl rfl hJ22.1.1 zs_2 (Nat.le_of_ble_eq_true rfl) ?_
          refine ZV.imp (k_1289 hN hJ22.1) ?_
          rintro _ ⟨M24, rfl, hJ25, hq26⟩
          have hJ27 := zJ_trans hJ22 hJ25 (zSub_cons (fun _ _ h h' hk => zIR_s (zIR_s (zIR_s (zIR_s (zIR_s (zIR_s (zIR_e (by omega) (by omega) hk))))))) zSub_nil)
          show ZW _ _ _ _ _ _ _ (53, [some (.ref 2), some (.int 3), some (.int v28_2), o28_3], [], M24)
          refine w_lo dX5_readFact_53 rfl rfl rfl rfl ?_
          refine w_lo dX5_readFact_54 rfl rfl rfl rfl ?_
          refine w_ic dX5_readFact_55 zi_1 ?_
          refine w_pu (st' := [.int 4, .ref 2]) dX5_readFact_56 rfl rfl ?_
          refine w_iv dX5_readFact_57 rfl rfl (As := [.int 4]) rfl rfl hJ27.1.1 zs_2 (Nat.le_of_ble_eq_true rfl) ?_
          refine ZV.imp (k_1300_c4 hN hJ27.1) ?_
          rintro _ ⟨x31, M28, rfl, h32, h33, hJ29, hq30⟩
          have hJ34 := zJ_trans hJ27 hJ29 (zSub_cons (fun _ _ h h' hk => zIR_e (by omega) (by omega) hk) (zSub_cons (fun _ _ h h' hk => zIR_s (zIR_e (by omega) (by omega) hk)) (zSub_cons (fun _ _ h h' hk => zIR_s (zIR_s (zIR_e (by omega) (by omega) hk))) (zSub_cons (fun _ _ h h' hk => zIR_s (zIR_s (zIR_s (zIR_e (by omega) (by omega) hk)))) (zSub_cons (fun _ _ h h' hk => zIR_s (zIR_s (zIR_s (zIR_s (zIR_a (by omega) (by omega)))))) (zSub_cons (fun _ _ h h' hk => zIR_s (zIR_s (zIR_s (zIR_s (zIR_s (zIR_a (by omega) (by omega))))))) (zSub_cons (fun _ _ h h' hk => zIR_s (zIR_s (zIR_s (zIR_s (zIR_s (zIR_s (zIR_e (by omega) (by omega) hk))))))) zSub_nil)))))))
          show ZW _ _ _ _ _ _ _ (60, [some (.ref 2), some (.int 3), some (.int v28_2), o28_3], [.int x31], M28)
          rcases Int.decEq x31.toInt (0 : Int) with h35 | h35
          · skip
            refine w_ine_t dX5_readFact_60 (t := 65) rfl (by omega) ?_
            refine w_lo dX5_readFact_65 rfl rfl rfl rfl ?_
            refine w_bi dX5_readFact_66 (c := 93) (by decide) ?_
            refine w_iv dX5_readFact_68 rfl rfl (As := [.int 93]) rfl rfl hJ34.1.1 zs_2 (Nat.le_of_ble_eq_true rfl) ?_
            refine ZV.imp (k_1299 93 (by have := zt_93; omega) (by have := zt_93; omega) hN hJ34.1) ?_
            rintro _ ⟨x39, M36, rfl, h40, h41, hJ37, hq38⟩
            have hJ42 := zJ_trans hJ34 hJ37 zSub_nil
            show ZW _ _ _ _ _ _ _ (71, [some (.ref 2), some (.int 3), some (.int v28_2), o28_3], [.int x39], M36)
            rcases Int.decEq x39.toInt (0 : Int) with h43 | h43
            · skip
              refine w_ine_t dX5_readFact_71 (t := 80) rfl (by omega) ?_
              refine w_lo dX5_readFact_80 rfl rfl rfl rfl ?_
              refine w_iv dX5_readFact_81 rfl rfl (As := []) rfl rfl hJ42.1.1 zs_2 (Nat.le_of_ble_eq_true rfl) ?_
              refine ZV.imp (k_1289 hN hJ42.1) ?_
              rintro _ ⟨M44, rfl, hJ45, hq46⟩
              have hJ47 := zJ_trans hJ42 hJ45 (zSub_cons (fun _ _ h h' hk => zIR_s (zIR_s (zIR_s (zIR_s (zIR_s (zIR_s (zIR_e (by omega) (by omega) hk))))))) zSub_nil)
              show ZW _ _ _ _ _ _ _ (84, [some (.ref 2), some (.int 3), some (.int v28_2), o28_3], [], M44)
              refine w_gt dX5_readFact_84 (t := 203) rfl ?_
              refine w_lo dX5_readFact_203 rfl rfl rfl rfl ?_
              refine w_ic dX5_readFact_204 zi_2 ?_
              refine w_remP dX5_readFact_205 (by omega) (by have := zt_2; omega) ?_
              intro x48 h49 h50 h51
              have := zt_2
              refine w_ic dX5_readFact_206 zi_1 ?_
              rcases Int.decEq x48.toInt (1 : Int) with h52 | h52
              · skip
                refine w_cne_t dX5_readFact_207 (t := 222) rfl (by have := zt_1; omega) ?_
                refine w_ic dX5_readFact_222 zi_1 ?_
                refine w_en dX5_readFact_223 rfl ?_
                exact ⟨_, _, rfl, (by have := zt_1; omega), (by have := zt_1; omega), hJ47, trivial⟩
              · skip
                refine w_cne_f dX5_readFact_207 (t := 222) rfl (by have := zt_1; omega) ?_
                refine w_lo dX5_readFact_210 rfl rfl rfl rfl ?_
                obtain ⟨b53, f54, h55⟩ := zd_2_8 hJ47.1
                have h56 := zDm_b h55
                refine w_gf dX5_readFact_211 rfl hJ47.1.1 zs_2 f54 ?_
                refine w_gf dX5_readFact_214 rfl hJ47.1.1 (zs_1_0 h55) (zr_1_0_15 h55 hJ47.1) ?_
                refine w_bi dX5_readFact_217 (c := (-8)) (by decide) ?_
                refine w_iv dX5_readFact_219 rfl rfl (As := [.int (-8)]) rfl rfl hJ47.1.1 (zs_1_13 h55) (Nat.le_of_ble_eq_true rfl) ?_
                refine ZV.imp (k_515 (b53 + 13) (zLw_of h55) (-8) hN hJ47.1) ?_
                rintro _ ⟨M57, rfl, hJ58, hq59⟩
                have hJ60 := zJ_trans hJ47 hJ58 (zSub_cons (fun _ _ h h' hk => ((zDm_or h55).elim (fun e => zIR_s (zIR_s (zIR_e (by omega) (by omega) hk))) (fun e => zIR_s (zIR_s (zIR_s (zIR_e (by omega) (by omega) hk)))))) (zSub_cons (fun _ _ h h' hk => ((zDm_or h55).elim (fun e => zIR_s (zIR_s (zIR_s (zIR_s (zIR_a (by omega) (by omega)))))) (fun e => zIR_s (zIR_s (zIR_s (zIR_s (zIR_s (zIR_a (by omega) (by omega))))))))) zSub_nil))
                show ZW _ _ _ _ _ _ _ (222, [some (.ref 2), some (.int 3), some (.int v28_2), o28_3], [], M57)
                refine w_ic dX5_readFact_222 zi_1 ?_
                refine w_en dX5_readFact_223 rfl ?_
                exact ⟨_, _, rfl, (by have := zt_1; omega), (by have := zt_1; omega), hJ60, trivial⟩
            · skip
              refine w_ine_f dX5_readFact_71 (t := 80) rfl (by omega) ?_
              refine w_lo dX5_readFact_74 rfl rfl rfl rfl ?_
              refine w_ic dX5_readFact_75 zi_1 ?_
              refine w_iv dX5_readFact_76 rfl rfl (As := [.int 1]) rfl rfl hJ42.1.1 zs_2 (Nat.le_of_ble_eq_true rfl) ?_
              refine ZV.imp (k_1286 1 (by have := zt_1; omega) (by have := zt_1; omega) hN hJ42.1) ?_
              rintro _ ⟨x64, M61, rfl, h65, h66, hJ62, hq63⟩
              have hJ67 := zJ_trans hJ42 hJ62 (zSub_cons (fun _ _ h h' hk => zIR_e (by omega) (by omega) hk) (zSub_cons (fun _ _ h h' hk => zIR_s (zIR_e (by omega) (by omega) hk)) zSub_nil))
              show ZW _ _ _ _ _ _ _ (79, [some (.ref 2), some (.int 3), some (.int v28_2), o28_3], [.int x64], M61)
              refine w_eni dX5_readFact_79 rfl (znb (by omega) (by omega)) ?_
              exact ⟨_, _, rfl, (by omega), (by omega), hJ67, trivial⟩
          · skip
            refine w_ine_f dX5_readFact_60 (t := 65) rfl (by omega) ?_
            refine w_ic dX5_readFact_63 zi_0 ?_
            refine w_en dX5_readFact_64 rfl ?_
            exact ⟨_, _, rfl, (by have := zt_0; omega), (by have := zt_0; omega), hJ34, trivial⟩
        · skip
          refine w_ieq_t dX5_readFact_34 (t := 87) rfl (by omega) ?_
          refine w_lo dX5_readFact_87 rfl rfl rfl rfl ?_
          refine w_iv dX5_readFact_88 rfl rfl (As := []) rfl rfl hJ22.1.1 zs_2 (Nat.le_of_ble_eq_true rfl) ?_
          refine ZV.imp (k_1287 hN hJ22.1) ?_
          rintro _ ⟨x71, M68, rfl, h72, h73, hJ69, hq70⟩
          have hJ74 := zJ_trans hJ22 hJ69 zSub_nil
          show ZW _ _ _ _ _ _ _ (91, [some (.ref 2), some (.int 3), some (.int v28_2), o28_3], [.int x71], M68)
          refine w_bi dX5_readFact_91 (c := 24) (by decide) ?_
          rcases Int.decEq x71.toInt (24 : Int) with h75 | h75
          · skip
            refine w_cne_t dX5_readFact_93 (t := 114) rfl (by have := zt_24; omega) ?_
            refine w_lo dX5_readFact_114 rfl rfl rfl rfl ?_
            refine w_lo dX5_readFact_115 rfl rfl rfl rfl ?_
            refine w_iv dX5_readFact_116 rfl rfl (As := [.int 3]) rfl rfl hJ74.1.1 zs_2 (Nat.le_of_ble_eq_true rfl) ?_
            refine ZV.imp (k_1297_c3 hN hJ74.1) ?_
            rintro _ ⟨x79, M76, rfl, h80, h81, hJ77, hq78⟩
            have hJ82 := zJ_trans hJ74 hJ77 (zSub_cons (fun _ _ h h' hk => zIR_e (by omega) (by omega) hk) (zSub_cons (fun _ _ h h' hk => zIR_s (zIR_e (by omega) (by omega) hk)) (zSub_cons (fun _ _ h h' hk => zIR_s (zIR_s (zIR_e (by omega) (by omega) hk))) (zSub_cons (fun _ _ h h' hk => zIR_s (zIR_s (zIR_s (zIR_e (by omega) (by omega) hk)))) (zSub_cons (fun _ _ h h' hk => zIR_s (zIR_s (zIR_s (zIR_s (zIR_a (by omega) (by omega)))))) (zSub_cons (fun _ _ h h' hk => zIR_s (zIR_s (zIR_s (zIR_s (zIR_s (zIR_a (by omega) (by omega))))))) (zSub_cons (fun _ _ h h' hk => zIR_s (zIR_s (zIR_s (zIR_s (zIR_s (zIR_s (zIR_e (by omega) (by omega) hk))))))) zSub_nil)))))))
            show ZW _ _ _ _ _ _ _ (119, [some (.ref 2), some (.int 3), some (.int v28_2), o28_3], [.int x79], M76)
            rcases Int.decEq x79.toInt (0 : Int) with h83 | h83
            · skip
              refine w_ine_t dX5_readFact_119 (t := 124) rfl (by omega) ?_
              refine w_lo dX5_readFact_124 rfl rfl rfl rfl ?_
              refine w_bi dX5_readFact_125 (c := 60) (by decide) ?_
              refine w_iv dX5_readFact_127 rfl rfl (As := [.int 60]) rfl rfl hJ82.1.1 zs_2 (Nat.le_of_ble_eq_true rfl) ?_
              refine ZV.imp (k_1299 60 (by have := zt_60; omega) (by have := zt_60; omega) hN hJ82.1) ?_
              rintro _ ⟨x87, M84, rfl, h88, h89, hJ85, hq86⟩
              have hJ90 := zJ_trans hJ82 hJ85 zSub_nil
              show ZW _ _ _ _ _ _ _ (130, [some (.ref 2), some (.int 3), some (.int v28_2), o28_3], [.int x87], M84)
              rcases Int.decEq x87.toInt (0 : Int) with h91 | h91
              · skip
                refine w_ieq_f dX5_readFact_130 (t := 138) rfl (by omega) ?_
                refine w_bi dX5_readFact_133 (c := (-14)) (by decide) ?_
                refine w_gt dX5_readFact_135 (t := 167) rfl ?_
                exact ih167 M84 v28_2 o28_3 (-14) hJ90 (by omega) (by omega) (by have := zt_m14; omega) (by have := zt_m14; omega) (by have := zt_3; have := zt_m14; omega)
              · skip
                refine w_ieq_t dX5_readFact_130 (t := 138) rfl (by omega) ?_
                refine w_lo dX5_readFact_138 rfl rfl rfl rfl ?_
                refine w_bi dX5_readFact_139 (c := 62) (by decide) ?_
                refine w_iv dX5_readFact_141 rfl rfl (As := [.int 62]) rfl rfl hJ90.1.1 zs_2 (Nat.le_of_ble_eq_true rfl) ?_
                refine ZV.imp (k_1299 62 (by have := zt_62; omega) (by have := zt_62; omega) hN hJ90.1) ?_
                rintro _ ⟨x95, M92, rfl, h96, h97, hJ93, hq94⟩
                have hJ98 := zJ_trans hJ90 hJ93 zSub_nil
                show ZW _ _ _ _ _ _ _ (144, [some (.ref 2), some (.int 3), some (.int v28_2), o28_3], [.int x95], M92)
                rcases Int.decEq x95.toInt (0 : Int) with h99 | h99
                · skip
                  refine w_ieq_f dX5_readFact_144 (t := 152) rfl (by omega) ?_
                  refine w_bi dX5_readFact_147 (c := (-15)) (by decide) ?_
                  refine w_gt dX5_readFact_149 (t := 167) rfl ?_
                  exact ih167 M92 v28_2 o28_3 (-15) hJ98 (by omega) (by omega) (by have := zt_m15; omega) (by have := zt_m15; omega) (by have := zt_3; have := zt_m15; omega)
                · skip
                  refine w_ieq_t dX5_readFact_144 (t := 152) rfl (by omega) ?_
                  refine w_lo dX5_readFact_152 rfl rfl rfl rfl ?_
                  refine w_bi dX5_readFact_153 (c := 61) (by decide) ?_
                  refine w_iv dX5_readFact_155 rfl rfl (As := [.int 61]) rfl rfl hJ98.1.1 zs_2 (Nat.le_of_ble_eq_true rfl) ?_
                  refine ZV.imp (k_1299 61 (by have := zt_61; omega) (by have := zt_61; omega) hN hJ98.1) ?_
                  rintro _ ⟨x103, M100, rfl, h104, h105, hJ101, hq102⟩
                  have hJ106 := zJ_trans hJ98 hJ101 zSub_nil
                  show ZW _ _ _ _ _ _ _ (158, [some (.ref 2), some (.int 3), some (.int v28_2), o28_3], [.int x103], M100)
                  rcases Int.decEq x103.toInt (0 : Int) with h107 | h107
                  · skip
                    refine w_ieq_f dX5_readFact_158 (t := 166) rfl (by omega) ?_
                    refine w_bi dX5_readFact_161 (c := (-16)) (by decide) ?_
                    refine w_gt dX5_readFact_163 (t := 167) rfl ?_
                    exact ih167 M100 v28_2 o28_3 (-16) hJ106 (by omega) (by omega) (by have := zt_m16; omega) (by have := zt_m16; omega) (by have := zt_3; have := zt_m16; omega)
                  · skip
                    refine w_ieq_t dX5_readFact_158 (t := 166) rfl (by omega) ?_
                    refine w_ic dX5_readFact_166 zi_0 ?_
                    exact ih167 M100 v28_2 o28_3 0 hJ106 (by omega) (by omega) (by have := zt_0; omega) (by have := zt_0; omega) (by have := zt_3; have := zt_0; omega)
            · skip
              refine w_ine_f dX5_readFact_119 (t := 124) rfl (by omega) ?_
              refine w_ic dX5_readFact_122 zi_0 ?_
              refine w_en dX5_readFact_123 rfl ?_
              exact ⟨_, _, rfl, (by have := zt_0; omega), (by have := zt_0; omega), hJ82, trivial⟩
          · skip
            refine w_cne_f dX5_readFact_93 (t := 114) rfl (by have := zt_24; omega) ?_
            refine w_lo dX5_readFact_96 rfl rfl rfl rfl ?_
            refine w_iv dX5_readFact_97 rfl rfl (As := []) rfl rfl hJ74.1.1 zs_2 (Nat.le_of_ble_eq_true rfl) ?_
            refine ZV.imp (k_1289 hN hJ74.1) ?_
            rintro _ ⟨M108, rfl, hJ109, hq110⟩
            have hJ111 := zJ_trans hJ74 hJ109 (zSub_cons (fun _ _ h h' hk => zIR_s (zIR_s (zIR_s (zIR_s (zIR_s (zIR_s (zIR_e (by omega) (by omega) hk))))))) zSub_nil)
            show ZW _ _ _ _ _ _ _ (100, [some (.ref 2), some (.int 3), some (.int v28_2), o28_3], [], M108)
            refine w_lo dX5_readFact_100 rfl rfl rfl rfl ?_
            obtain ⟨b112, f113, h114⟩ := zd_2_8 hJ111.1
            have h115 := zDm_b h114
            refine w_gf dX5_readFact_101 rfl hJ111.1.1 zs_2 f113 ?_
            refine w_gf dX5_readFact_104 rfl hJ111.1.1 (zs_1_0 h114) (zr_1_0_15 h114 hJ111.1) ?_
            refine w_ic dX5_readFact_107 zi_1 ?_
            refine w_iv dX5_readFact_108 rfl rfl (As := [.int 1]) rfl rfl hJ111.1.1 (zs_1_13 h114) (Nat.le_of_ble_eq_true rfl) ?_
            refine ZV.imp (k_515 (b112 + 13) (zLw_of h114) 1 hN hJ111.1) ?_
            rintro _ ⟨M116, rfl, hJ117, hq118⟩
            have hJ119 := zJ_trans hJ111 hJ117 (zSub_cons (fun _ _ h h' hk => ((zDm_or h114).elim (fun e => zIR_s (zIR_s (zIR_e (by omega) (by omega) hk))) (fun e => zIR_s (zIR_s (zIR_s (zIR_e (by omega) (by omega) hk)))))) (zSub_cons (fun _ _ h h' hk => ((zDm_or h114).elim (fun e => zIR_s (zIR_s (zIR_s (zIR_s (zIR_a (by omega) (by omega)))))) (fun e => zIR_s (zIR_s (zIR_s (zIR_s (zIR_s (zIR_a (by omega) (by omega))))))))) zSub_nil))
            show ZW _ _ _ _ _ _ _ (111, [some (.ref 2), some (.int 3), some (.int v28_2), o28_3], [], M116)
            refine w_gt dX5_readFact_111 (t := 203) rfl ?_
            refine w_lo dX5_readFact_203 rfl rfl rfl rfl ?_
            refine w_ic dX5_readFact_204 zi_2 ?_
            refine w_remP dX5_readFact_205 (by omega) (by have := zt_2; omega) ?_
            intro x120 h121 h122 h123
            have := zt_2
            refine w_ic dX5_readFact_206 zi_1 ?_
            rcases Int.decEq x120.toInt (1 : Int) with h124 | h124
            · skip
              refine w_cne_t dX5_readFact_207 (t := 222) rfl (by have := zt_1; omega) ?_
              refine w_ic dX5_readFact_222 zi_1 ?_
              refine w_en dX5_readFact_223 rfl ?_
              exact ⟨_, _, rfl, (by have := zt_1; omega), (by have := zt_1; omega), hJ119, trivial⟩
            · skip
              refine w_cne_f dX5_readFact_207 (t := 222) rfl (by have := zt_1; omega) ?_
              refine w_lo dX5_readFact_210 rfl rfl rfl rfl ?_
              have f125 := (hJ117.2 (2) 8 (zNI_k (by decide) (by decide) (zNI (by omega) zNI_nil))).trans (f113)
              refine w_gf dX5_readFact_211 rfl hJ119.1.1 zs_2 f125 ?_
              refine w_gf dX5_readFact_214 rfl hJ119.1.1 (zs_1_0 h114) (zr_1_0_15 h114 hJ119.1) ?_
              refine w_bi dX5_readFact_217 (c := (-8)) (by decide) ?_
              refine w_iv dX5_readFact_219 rfl rfl (As := [.int (-8)]) rfl rfl hJ119.1.1 (zs_1_13 h114) (Nat.le_of_ble_eq_true rfl) ?_
              refine ZV.imp (k_515 (b112 + 13) (zLw_of h114) (-8) hN hJ119.1) ?_
              rintro _ ⟨M126, rfl, hJ127, hq128⟩
              have hJ129 := zJ_trans hJ119 hJ127 (zSub_cons (fun _ _ h h' hk => ((zDm_or h114).elim (fun e => zIR_s (zIR_s (zIR_e (by omega) (by omega) hk))) (fun e => zIR_s (zIR_s (zIR_s (zIR_e (by omega) (by omega) hk)))))) (zSub_cons (fun _ _ h h' hk => ((zDm_or h114).elim (fun e => zIR_s (zIR_s (zIR_s (zIR_s (zIR_a (by omega) (by omega)))))) (fun e => zIR_s (zIR_s (zIR_s (zIR_s (zIR_s (zIR_a (by omega) (by omega))))))))) zSub_nil))
              show ZW _ _ _ _ _ _ _ (222, [some (.ref 2), some (.int 3), some (.int v28_2), o28_3], [], M126)
              refine w_ic dX5_readFact_222 zi_1 ?_
              refine w_en dX5_readFact_223 rfl ?_
              exact ⟨_, _, rfl, (by have := zt_1; omega), (by have := zt_1; omega), hJ129, trivial⟩
      · intro M v167_2 o167_3 s167_0 hJ v167_20 v167_21 s167_00 s167_01 hn
        refine w_lo (ml' := [some (.ref 2), some (.int 3), some (.int v167_2), some (.int s167_0)]) dX5_readFact_167 rfl rfl rfl rfl ?_
        refine w_lo dX5_readFact_168 rfl rfl rfl rfl ?_
        rcases Int.decEq s167_0.toInt (0 : Int) with h130 | h130
        · skip
          refine w_ine_t dX5_readFact_169 (t := 178) rfl (by omega) ?_
          refine w_lo dX5_readFact_178 rfl rfl rfl rfl ?_
          refine w_iv dX5_readFact_179 rfl rfl (As := []) rfl rfl hJ.1.1 zs_2 (Nat.le_of_ble_eq_true rfl) ?_
          refine ZV.imp (k_1289 hN hJ.1) ?_
          rintro _ ⟨M131, rfl, hJ132, hq133⟩
          have hJ134 := zJ_trans hJ hJ132 (zSub_cons (fun _ _ h h' hk => zIR_s (zIR_s (zIR_s (zIR_s (zIR_s (zIR_s (zIR_e (by omega) (by omega) hk))))))) zSub_nil)
          show ZW _ _ _ _ _ _ _ (182, [some (.ref 2), some (.int 3), some (.int v167_2), some (.int s167_0)], [], M131)
          refine w_lo dX5_readFact_182 rfl rfl rfl rfl ?_
          refine w_lo dX5_readFact_183 rfl rfl rfl rfl ?_
          refine w_iv dX5_readFact_184 rfl rfl (As := [.int 3]) rfl rfl hJ134.1.1 zs_2 (Nat.le_of_ble_eq_true rfl) ?_
          refine ZV.imp (k_1297_c3 hN hJ134.1) ?_
          rintro _ ⟨x138, M135, rfl, h139, h140, hJ136, hq137⟩
          have hJ141 := zJ_trans hJ134 hJ136 (zSub_cons (fun _ _ h h' hk => zIR_e (by omega) (by omega) hk) (zSub_cons (fun _ _ h h' hk => zIR_s (zIR_e (by omega) (by omega) hk)) (zSub_cons (fun _ _ h h' hk => zIR_s (zIR_s (zIR_e (by omega) (by omega) hk))) (zSub_cons (fun _ _ h h' hk => zIR_s (zIR_s (zIR_s (zIR_e (by omega) (by omega) hk)))) (zSub_cons (fun _ _ h h' hk => zIR_s (zIR_s (zIR_s (zIR_s (zIR_a (by omega) (by omega)))))) (zSub_cons (fun _ _ h h' hk => zIR_s (zIR_s (zIR_s (zIR_s (zIR_s (zIR_a (by omega) (by omega))))))) (zSub_cons (fun _ _ h h' hk => zIR_s (zIR_s (zIR_s (zIR_s (zIR_s (zIR_s (zIR_e (by omega) (by omega) hk))))))) zSub_nil)))))))
          show ZW _ _ _ _ _ _ _ (187, [some (.ref 2), some (.int 3), some (.int v167_2), some (.int s167_0)], [.int x138], M135)
          rcases Int.decEq x138.toInt (0 : Int) with h142 | h142
          · skip
            refine w_ine_t dX5_readFact_187 (t := 192) rfl (by omega) ?_
            refine w_lo dX5_readFact_192 rfl rfl rfl rfl ?_
            obtain ⟨b143, f144, h145⟩ := zd_2_8 hJ141.1
            have h146 := zDm_b h145
            refine w_gf dX5_readFact_193 rfl hJ141.1.1 zs_2 f144 ?_
            refine w_gf dX5_readFact_196 rfl hJ141.1.1 (zs_1_0 h145) (zr_1_0_15 h145 hJ141.1) ?_
            refine w_lo dX5_readFact_199 rfl rfl rfl rfl ?_
            refine w_iv dX5_readFact_200 rfl rfl (As := [.int s167_0]) rfl rfl hJ141.1.1 (zs_1_13 h145) (Nat.le_of_ble_eq_true rfl) ?_
            refine ZV.imp (k_515 (b143 + 13) (zLw_of h145) s167_0 hN hJ141.1) ?_
            rintro _ ⟨M147, rfl, hJ148, hq149⟩
            have hJ150 := zJ_trans hJ141 hJ148 (zSub_cons (fun _ _ h h' hk => ((zDm_or h145).elim (fun e => zIR_s (zIR_s (zIR_e (by omega) (by omega) hk))) (fun e => zIR_s (zIR_s (zIR_s (zIR_e (by omega) (by omega) hk)))))) (zSub_cons (fun _ _ h h' hk => ((zDm_or h145).elim (fun e => zIR_s (zIR_s (zIR_s (zIR_s (zIR_a (by omega) (by omega)))))) (fun e => zIR_s (zIR_s (zIR_s (zIR_s (zIR_s (zIR_a (by omega) (by omega))))))))) zSub_nil))
            show ZW _ _ _ _ _ _ _ (203, [some (.ref 2), some (.int 3), some (.int v167_2), some (.int s167_0)], [], M147)
            refine w_lo dX5_readFact_203 rfl rfl rfl rfl ?_
            refine w_ic dX5_readFact_204 zi_2 ?_
            refine w_remP dX5_readFact_205 (by omega) (by have := zt_2; omega) ?_
            intro x151 h152 h153 h154
            have := zt_2
            refine w_ic dX5_readFact_206 zi_1 ?_
            rcases Int.decEq x151.toInt (1 : Int) with h155 | h155
            · skip
              refine w_cne_t dX5_readFact_207 (t := 222) rfl (by have := zt_1; omega) ?_
              refine w_ic dX5_readFact_222 zi_1 ?_
              refine w_en dX5_readFact_223 rfl ?_
              exact ⟨_, _, rfl, (by have := zt_1; omega), (by have := zt_1; omega), hJ150, trivial⟩
            · skip
              refine w_cne_f dX5_readFact_207 (t := 222) rfl (by have := zt_1; omega) ?_
              refine w_lo dX5_readFact_210 rfl rfl rfl rfl ?_
              have f156 := (hJ148.2 (2) 8 (zNI_k (by decide) (by decide) (zNI (by omega) zNI_nil))).trans (f144)
              refine w_gf dX5_readFact_211 rfl hJ150.1.1 zs_2 f156 ?_
              refine w_gf dX5_readFact_214 rfl hJ150.1.1 (zs_1_0 h145) (zr_1_0_15 h145 hJ150.1) ?_
              refine w_bi dX5_readFact_217 (c := (-8)) (by decide) ?_
              refine w_iv dX5_readFact_219 rfl rfl (As := [.int (-8)]) rfl rfl hJ150.1.1 (zs_1_13 h145) (Nat.le_of_ble_eq_true rfl) ?_
              refine ZV.imp (k_515 (b143 + 13) (zLw_of h145) (-8) hN hJ150.1) ?_
              rintro _ ⟨M157, rfl, hJ158, hq159⟩
              have hJ160 := zJ_trans hJ150 hJ158 (zSub_cons (fun _ _ h h' hk => ((zDm_or h145).elim (fun e => zIR_s (zIR_s (zIR_e (by omega) (by omega) hk))) (fun e => zIR_s (zIR_s (zIR_s (zIR_e (by omega) (by omega) hk)))))) (zSub_cons (fun _ _ h h' hk => ((zDm_or h145).elim (fun e => zIR_s (zIR_s (zIR_s (zIR_s (zIR_a (by omega) (by omega)))))) (fun e => zIR_s (zIR_s (zIR_s (zIR_s (zIR_s (zIR_a (by omega) (by omega))))))))) zSub_nil))
              show ZW _ _ _ _ _ _ _ (222, [some (.ref 2), some (.int 3), some (.int v167_2), some (.int s167_0)], [], M157)
              refine w_ic dX5_readFact_222 zi_1 ?_
              refine w_en dX5_readFact_223 rfl ?_
              exact ⟨_, _, rfl, (by have := zt_1; omega), (by have := zt_1; omega), hJ160, trivial⟩
          · skip
            refine w_ine_f dX5_readFact_187 (t := 192) rfl (by omega) ?_
            refine w_ic dX5_readFact_190 zi_0 ?_
            refine w_en dX5_readFact_191 rfl ?_
            exact ⟨_, _, rfl, (by have := zt_0; omega), (by have := zt_0; omega), hJ141, trivial⟩
        · skip
          refine w_ine_f dX5_readFact_169 (t := 178) rfl (by omega) ?_
          refine w_lo dX5_readFact_172 rfl rfl rfl rfl ?_
          refine w_ic dX5_readFact_173 zi_1 ?_
          refine w_iv dX5_readFact_174 rfl rfl (As := [.int 1]) rfl rfl hJ.1.1 zs_2 (Nat.le_of_ble_eq_true rfl) ?_
          refine ZV.imp (k_1286 1 (by have := zt_1; omega) (by have := zt_1; omega) hN hJ.1) ?_
          rintro _ ⟨x164, M161, rfl, h165, h166, hJ162, hq163⟩
          have hJ167 := zJ_trans hJ hJ162 (zSub_cons (fun _ _ h h' hk => zIR_e (by omega) (by omega) hk) (zSub_cons (fun _ _ h h' hk => zIR_s (zIR_e (by omega) (by omega) hk)) zSub_nil))
          show ZW _ _ _ _ _ _ _ (177, [some (.ref 2), some (.int 3), some (.int v167_2), some (.int s167_0)], [.int x164], M161)
          refine w_eni dX5_readFact_177 rfl (znb (by omega) (by omega)) ?_
          exact ⟨_, _, rfl, (by omega), (by omega), hJ167, trivial⟩
  obtain ⟨ih2, ih28, ih167⟩ := main 8023
  show ZW _ _ _ _ _ _ _ (0, [some (.ref 2), some (.int 3), none, none], [], M0)
  refine w_ic dX5_readFact_0 zi_0 ?_
  refine w_lo (ml' := [some (.ref 2), some (.int 3), some (.int 0), none]) dX5_readFact_1 rfl rfl rfl rfl ?_
  exact ih2 M0 0 none hJ0 (by have := zt_0; omega) (by have := zt_0; omega) (by have := zt_3; have := zt_0; omega)
set_option maxRecDepth 100000 in
theorem k_1300_c3 {X : List Int32} {d N : Nat} {M0 : zM}  (hN : N ≤ 600) (hB0 : zB N M0) : ZV X (d + 15) 1300 [.ref 2, .int 3] M0 (zRI N [(2, 3, 0), (2, 3, 1), (20, 21, 1), (41, 42, 1), (21, 22, 1000), (42, 43, 1000), (2, 3, 7)] M0 (0) (1) (fun _ _ => True)) := by
  have hJ0 : zJ N [(2, 3, 0), (2, 3, 1), (20, 21, 1), (41, 42, 1), (21, 22, 1000), (42, 43, 1000), (2, 3, 7)] M0 M0 := zJ_refl hB0
  refine ZV.of (ini := false) rfl (Nat.le_of_ble_eq_true rfl) (by decide +kernel) ?_
  have main : ∀ n : Nat,
      (∀ (M : zM) (v2_2 : Int32) (o2_3 : Option Value), zJ N [(2, 3, 0), (2, 3, 1), (20, 21, 1), (41, 42, 1), (21, 22, 1000), (42, 43, 1000), (2, 3, 7)] M0 M → ((0 : Int) ≤ v2_2.toInt) → (v2_2.toInt ≤ 1601) → 9624 * (1601 - v2_2.toInt) + 9622 < (n : Int) → ZW X (d + 14) 5 false (some .boolean) cX5_readTest (zRI N [(2, 3, 0), (2, 3, 1), (20, 21, 1), (41, 42, 1), (21, 22, 1000), (42, 43, 1000), (2, 3, 7)] M0 (0) (1) (fun _ _ => True)) (2, [some (.ref 2), some (.int 3), some (.int v2_2), o2_3], [], M)) ∧
      (∀ (M : zM) (v11_2 : Int32) (v11_3 : Int32), zJ N [(2, 3, 0), (2, 3, 1), (20, 21, 1), (41, 42, 1), (21, 22, 1000), (42, 43, 1000), (2, 3, 7)] M0 M → ((0 : Int) ≤ v11_2.toInt) → (v11_2.toInt ≤ 1600) → ((0 : Int) ≤ v11_3.toInt) → (v11_3.toInt ≤ 1601) → 9624 * (1601 - v11_2.toInt) + 6 * (1601 - v11_3.toInt) + 3 < (n : Int) → ZW X (d + 14) 5 false (some .boolean) cX5_readTest (zRI N [(2, 3, 0), (2, 3, 1), (20, 21, 1), (41, 42, 1), (21, 22, 1000), (42, 43, 1000), (2, 3, 7)] M0 (0) (1) (fun _ _ => True)) (11, [some (.ref 2), some (.int 3), some (.int v11_2), some (.int v11_3)], [], M)) ∧
      (∀ (M : zM) (v44_2 : Int32) (v44_3 : Int32), zJ N [(2, 3, 0), (2, 3, 1), (20, 21, 1), (41, 42, 1), (21, 22, 1000), (42, 43, 1000), (2, 3, 7)] M0 M → ((0 : Int) ≤ v44_2.toInt) → (v44_2.toInt ≤ 1600) → ((0 : Int) ≤ v44_3.toInt) → (v44_3.toInt ≤ 1600) → 9624 * (1601 - v44_2.toInt) + 6 * (1601 - v44_3.toInt) + 2 < (n : Int) → ZW X (d + 14) 5 false (some .boolean) cX5_readTest (zRI N [(2, 3, 0), (2, 3, 1), (20, 21, 1), (41, 42, 1), (21, 22, 1000), (42, 43, 1000), (2, 3, 7)] M0 (0) (1) (fun _ _ => True)) (44, [some (.ref 2), some (.int 3), some (.int v44_2), some (.int v44_3)], [], M)) ∧
      (∀ (M : zM) (v66_2 : Int32) (u66_3 : Int32), zJ N [(2, 3, 0), (2, 3, 1), (20, 21, 1), (41, 42, 1), (21, 22, 1000), (42, 43, 1000), (2, 3, 7)] M0 M → ((0 : Int) ≤ v66_2.toInt) → (v66_2.toInt ≤ 1600) → 9624 * (1601 - v66_2.toInt) + 1 < (n : Int) → ZW X (d + 14) 5 false (some .boolean) cX5_readTest (zRI N [(2, 3, 0), (2, 3, 1), (20, 21, 1), (41, 42, 1), (21, 22, 1000), (42, 43, 1000), (2, 3, 7)] M0 (0) (1) (fun _ _ => True)) (66, [some (.ref 2), some (.int 3), some (.int v66_2), some (.int u66_3)], [], M)) := by
    intro n
    induction n with
    | zero =>
      exact ⟨(fun M v2_2 o2_3 hJ v2_20 v2_21 hn => absurd hn (by omega)), (fun M v11_2 v11_3 hJ v11_20 v11_21 v11_30 v11_31 hn => absurd hn (by omega)), (fun M v44_2 v44_3 hJ v44_20 v44_21 v44_30 v44_31 hn => absurd hn (by omega)), (fun M v66_2 u66_3 hJ v66_20 v66_21 hn => absurd hn (by omega))⟩
    | succ n ih =>
      obtain ⟨ih2, ih11, ih44, ih66⟩ := ih
      refine ⟨?_, ?_, ?_, ?_⟩
      · intro M v2_2 o2_3 hJ v2_20 v2_21 hn
        refine w_lo dX5_readTest_2 rfl rfl rfl rfl ?_
        refine w_si dX5_readTest_3 (c := 1600) (by decide) ?_
        rcases zcut (1600 : Int) v2_2.toInt with h1 | h1
        · skip
          refine w_cgt_t dX5_readTest_6 (t := 104) rfl (by have := zt_1600; omega) ?_
          refine w_ic dX5_readTest_104 zi_1 ?_
          refine w_en dX5_readTest_105 rfl ?_
          exact ⟨_, _, rfl, (by have := zt_1; omega), (by have := zt_1; omega), hJ, trivial⟩
        · skip
          refine w_cgt_f dX5_readTest_6 (t := 104) rfl (by have := zt_1600; omega) ?_
          refine w_ic dX5_readTest_9 zi_0 ?_
          refine w_lo (ml' := [some (.ref 2), some (.int 3), some (.int v2_2), some (.int 0)]) dX5_readTest_10 rfl rfl rfl rfl ?_
          exact ih11 M v2_2 0 hJ (by omega) (by omega) (by have := zt_0; omega) (by have := zt_0; omega) (by have := zt_3; have := zt_0; omega)
      · intro M v11_2 v11_3 hJ v11_20 v11_21 v11_30 v11_31 hn
        refine w_lo dX5_readTest_11 rfl rfl rfl rfl ?_
        refine w_si dX5_readTest_12 (c := 1600) (by decide) ?_
        rcases zcut (1600 : Int) v11_3.toInt with h2 | h2
        · skip
          refine w_cgt_t dX5_readTest_15 (t := 66) rfl (by have := zt_1600; omega) ?_
          exact ih66 M v11_2 v11_3 hJ (by omega) (by omega) (by have := zt_3; omega)
        · skip
          refine w_cgt_f dX5_readTest_15 (t := 66) rfl (by have := zt_1600; omega) ?_
          refine w_lo dX5_readTest_18 rfl rfl rfl rfl ?_
          refine w_lo dX5_readTest_19 rfl rfl rfl rfl ?_
          refine w_iv dX5_readTest_20 rfl rfl (As := [.int 3]) rfl rfl hJ.1.1 zs_2 (Nat.le_of_ble_eq_true rfl) ?_
          refine ZV.imp (k_1301_c3 hN hJ.1) ?_
          rintro _ ⟨x6, M3, rfl, h7, h8, hJ4, hq5⟩
          have hJ9 := zJ_trans hJ hJ4 (zSub_cons (fun _ _ h h' hk => zIR_e (by omega) (by omega) hk) (zSub_cons (fun _ _ h h' hk => zIR_s (zIR_e (by omega) (by omega) hk)) (zSub_cons (fun _ _ h h' hk => zIR_s (zIR_s (zIR_e (by omega) (by omega) hk))) (zSub_cons (fun _ _ h h' hk => zIR_s (zIR_s (zIR_s (zIR_e (by omega) (by omega) hk)))) (zSub_cons (fun _ _ h h' hk => zIR_s (zIR_s (zIR_s (zIR_s (zIR_a (by omega) (by omega)))))) (zSub_cons (fun _ _ h h' hk => zIR_s (zIR_s (zIR_s (zIR_s (zIR_s (zIR_a (by omega) (by omega))))))) (zSub_cons (fun _ _ h h' hk => zIR_s (zIR_s (zIR_s (zIR_s (zIR_s (zIR_s (zIR_e (by omega) (by omega) hk))))))) zSub_nil)))))))
          show ZW _ _ _ _ _ _ _ (23, [some (.ref 2), some (.int 3), some (.int v11_2), some (.int v11_3)], [.int x6], M3)
          rcases Int.decEq x6.toInt (0 : Int) with h10 | h10
          · skip
            refine w_ine_t dX5_readTest_23 (t := 28) rfl (by omega) ?_
            refine w_lo dX5_readTest_28 rfl rfl rfl rfl ?_
            rcases zcut (0 : Int) v11_3.toInt with h11 | h11
            · skip
              refine w_ile_f dX5_readTest_29 (t := 44) rfl (by omega) ?_
              refine w_lo dX5_readTest_32 rfl rfl rfl rfl ?_
              obtain ⟨b12, f13, h14⟩ := zd_2_8 hJ9.1
              have h15 := zDm_b h14
              refine w_gf dX5_readTest_33 rfl hJ9.1.1 zs_2 f13 ?_
              refine w_gf dX5_readTest_36 rfl hJ9.1.1 (zs_1_0 h14) (zr_1_0_15 h14 hJ9.1) ?_
              refine w_bi dX5_readTest_39 (c := (-17)) (by decide) ?_
              refine w_iv dX5_readTest_41 rfl rfl (As := [.int (-17)]) rfl rfl hJ9.1.1 (zs_1_13 h14) (Nat.le_of_ble_eq_true rfl) ?_
              refine ZV.imp (k_515 (b12 + 13) (zLw_of h14) (-17) hN hJ9.1) ?_
              rintro _ ⟨M16, rfl, hJ17, hq18⟩
              have hJ19 := zJ_trans hJ9 hJ17 (zSub_cons (fun _ _ h h' hk => ((zDm_or h14).elim (fun e => zIR_s (zIR_s (zIR_e (by omega) (by omega) hk))) (fun e => zIR_s (zIR_s (zIR_s (zIR_e (by omega) (by omega) hk)))))) (zSub_cons (fun _ _ h h' hk => ((zDm_or h14).elim (fun e => zIR_s (zIR_s (zIR_s (zIR_s (zIR_a (by omega) (by omega)))))) (fun e => zIR_s (zIR_s (zIR_s (zIR_s (zIR_s (zIR_a (by omega) (by omega))))))))) zSub_nil))
              show ZW _ _ _ _ _ _ _ (44, [some (.ref 2), some (.int 3), some (.int v11_2), some (.int v11_3)], [], M16)
              exact ih44 M16 v11_2 v11_3 hJ19 (by omega) (by omega) (by omega) (by omega) (by have := zt_3; omega)
            · skip
              refine w_ile_t dX5_readTest_29 (t := 44) rfl (by omega) ?_
              exact ih44 M3 v11_2 v11_3 hJ9 (by omega) (by omega) (by omega) (by omega) (by have := zt_3; omega)
          · skip
            refine w_ine_f dX5_readTest_23 (t := 28) rfl (by omega) ?_
            refine w_ic dX5_readTest_26 zi_0 ?_
            refine w_en dX5_readTest_27 rfl ?_
            exact ⟨_, _, rfl, (by have := zt_0; omega), (by have := zt_0; omega), hJ9, trivial⟩
      · intro M v44_2 v44_3 hJ v44_20 v44_21 v44_30 v44_31 hn
        refine w_lo dX5_readTest_44 rfl rfl rfl rfl ?_
        refine w_iv dX5_readTest_45 rfl rfl (As := []) rfl rfl hJ.1.1 zs_2 (Nat.le_of_ble_eq_true rfl) ?_
        refine ZV.imp (k_1287 hN hJ.1) ?_
        rintro _ ⟨x23, M20, rfl, h24, h25, hJ21, hq22⟩
        have hJ26 := zJ_trans hJ hJ21 zSub_nil
        show ZW _ _ _ _ _ _ _ (48, [some (.ref 2), some (.int 3), some (.int v44_2), some (.int v44_3)], [.int x23], M20)
        refine w_bi dX5_readTest_48 (c := 22) (by decide) ?_
        rcases Int.decEq x23.toInt (22 : Int) with h27 | h27
        · skip
          refine w_ceq_f dX5_readTest_50 (t := 56) rfl (by have := zt_22; omega) ?_
          refine w_gt dX5_readTest_53 (t := 66) rfl ?_
          exact ih66 M20 v44_2 v44_3 hJ26 (by omega) (by omega) (by have := zt_3; omega)
        · skip
          refine w_ceq_t dX5_readTest_50 (t := 56) rfl (by have := zt_22; omega) ?_
          refine w_lo dX5_readTest_56 rfl rfl rfl rfl ?_
          refine w_iv dX5_readTest_57 rfl rfl (As := []) rfl rfl hJ26.1.1 zs_2 (Nat.le_of_ble_eq_true rfl) ?_
          refine ZV.imp (k_1289 hN hJ26.1) ?_
          rintro _ ⟨M28, rfl, hJ29, hq30⟩
          have hJ31 := zJ_trans hJ26 hJ29 (zSub_cons (fun _ _ h h' hk => zIR_s (zIR_s (zIR_s (zIR_s (zIR_s (zIR_s (zIR_e (by omega) (by omega) hk))))))) zSub_nil)
          show ZW _ _ _ _ _ _ _ (60, [some (.ref 2), some (.int 3), some (.int v44_2), some (.int v44_3)], [], M28)
          refine w_inc (kk := 3) dX5_readTest_60 rfl (m := 1) (by decide) (by omega) ?_
          intro x32 h33
          refine ⟨_, rfl, ?_⟩
          show ZW _ _ _ _ _ _ _ (63, [some (.ref 2), some (.int 3), some (.int v44_2), some (.int x32)], [], M28)
          refine w_gt dX5_readTest_63 (t := 11) rfl ?_
          exact ih11 M28 v44_2 x32 hJ31 (by omega) (by omega) (by omega) (by omega) (by have := zt_3; omega)
      · intro M v66_2 u66_3 hJ v66_20 v66_21 hn
        refine w_lo dX5_readTest_66 rfl rfl rfl rfl ?_
        rcases zcut (0 : Int) v66_2.toInt with h34 | h34
        · skip
          refine w_ile_f dX5_readTest_67 (t := 82) rfl (by omega) ?_
          refine w_lo dX5_readTest_70 rfl rfl rfl rfl ?_
          obtain ⟨b35, f36, h37⟩ := zd_2_8 hJ.1
          have h38 := zDm_b h37
          refine w_gf dX5_readTest_71 rfl hJ.1.1 zs_2 f36 ?_
          refine w_gf dX5_readTest_74 rfl hJ.1.1 (zs_1_0 h37) (zr_1_0_15 h37 hJ.1) ?_
          refine w_bi dX5_readTest_77 (c := (-18)) (by decide) ?_
          refine w_iv dX5_readTest_79 rfl rfl (As := [.int (-18)]) rfl rfl hJ.1.1 (zs_1_13 h37) (Nat.le_of_ble_eq_true rfl) ?_
          refine ZV.imp (k_515 (b35 + 13) (zLw_of h37) (-18) hN hJ.1) ?_
          rintro _ ⟨M39, rfl, hJ40, hq41⟩
          have hJ42 := zJ_trans hJ hJ40 (zSub_cons (fun _ _ h h' hk => ((zDm_or h37).elim (fun e => zIR_s (zIR_s (zIR_e (by omega) (by omega) hk))) (fun e => zIR_s (zIR_s (zIR_s (zIR_e (by omega) (by omega) hk)))))) (zSub_cons (fun _ _ h h' hk => ((zDm_or h37).elim (fun e => zIR_s (zIR_s (zIR_s (zIR_s (zIR_a (by omega) (by omega)))))) (fun e => zIR_s (zIR_s (zIR_s (zIR_s (zIR_s (zIR_a (by omega) (by omega))))))))) zSub_nil))
          show ZW _ _ _ _ _ _ _ (82, [some (.ref 2), some (.int 3), some (.int v66_2), some (.int u66_3)], [], M39)
          refine w_lo dX5_readTest_82 rfl rfl rfl rfl ?_
          refine w_iv dX5_readTest_83 rfl rfl (As := []) rfl rfl hJ42.1.1 zs_2 (Nat.le_of_ble_eq_true rfl) ?_
          refine ZV.imp (k_1287 hN hJ42.1) ?_
          rintro _ ⟨x46, M43, rfl, h47, h48, hJ44, hq45⟩
          have hJ49 := zJ_trans hJ42 hJ44 zSub_nil
          show ZW _ _ _ _ _ _ _ (86, [some (.ref 2), some (.int 3), some (.int v66_2), some (.int u66_3)], [.int x46], M43)
          refine w_bi dX5_readTest_86 (c := 21) (by decide) ?_
          rcases Int.decEq x46.toInt (21 : Int) with h50 | h50
          · skip
            refine w_ceq_f dX5_readTest_88 (t := 94) rfl (by have := zt_21; omega) ?_
            refine w_gt dX5_readTest_91 (t := 104) rfl ?_
            refine w_ic dX5_readTest_104 zi_1 ?_
            refine w_en dX5_readTest_105 rfl ?_
            exact ⟨_, _, rfl, (by have := zt_1; omega), (by have := zt_1; omega), hJ49, trivial⟩
          · skip
            refine w_ceq_t dX5_readTest_88 (t := 94) rfl (by have := zt_21; omega) ?_
            refine w_lo dX5_readTest_94 rfl rfl rfl rfl ?_
            refine w_iv dX5_readTest_95 rfl rfl (As := []) rfl rfl hJ49.1.1 zs_2 (Nat.le_of_ble_eq_true rfl) ?_
            refine ZV.imp (k_1289 hN hJ49.1) ?_
            rintro _ ⟨M51, rfl, hJ52, hq53⟩
            have hJ54 := zJ_trans hJ49 hJ52 (zSub_cons (fun _ _ h h' hk => zIR_s (zIR_s (zIR_s (zIR_s (zIR_s (zIR_s (zIR_e (by omega) (by omega) hk))))))) zSub_nil)
            show ZW _ _ _ _ _ _ _ (98, [some (.ref 2), some (.int 3), some (.int v66_2), some (.int u66_3)], [], M51)
            refine w_inc (kk := 2) dX5_readTest_98 rfl (m := 1) (by decide) (by omega) ?_
            intro x55 h56
            refine ⟨_, rfl, ?_⟩
            show ZW _ _ _ _ _ _ _ (101, [some (.ref 2), some (.int 3), some (.int x55), some (.int u66_3)], [], M51)
            refine w_gt dX5_readTest_101 (t := 2) rfl ?_
            exact ih2 M51 x55 (some (.int u66_3)) hJ54 (by omega) (by omega) (by have := zt_3; omega)
        · skip
          refine w_ile_t dX5_readTest_67 (t := 82) rfl (by omega) ?_
          refine w_lo dX5_readTest_82 rfl rfl rfl rfl ?_
          refine w_iv dX5_readTest_83 rfl rfl (As := []) rfl rfl hJ.1.1 zs_2 (Nat.le_of_ble_eq_true rfl) ?_
          refine ZV.imp (k_1287 hN hJ.1) ?_
          rintro _ ⟨x60, M57, rfl, h61, h62, hJ58, hq59⟩
          have hJ63 := zJ_trans hJ hJ58 zSub_nil
          show ZW _ _ _ _ _ _ _ (86, [some (.ref 2), some (.int 3), some (.int v66_2), some (.int u66_3)], [.int x60], M57)
          refine w_bi dX5_readTest_86 (c := 21) (by decide) ?_
          rcases Int.decEq x60.toInt (21 : Int) with h64 | h64
          · skip
            refine w_ceq_f dX5_readTest_88 (t := 94) rfl (by have := zt_21; omega) ?_
            refine w_gt dX5_readTest_91 (t := 104) rfl ?_
            refine w_ic dX5_readTest_104 zi_1 ?_
            refine w_en dX5_readTest_105 rfl ?_
            exact ⟨_, _, rfl, (by have := zt_1; omega), (by have := zt_1; omega), hJ63, trivial⟩
          · skip
            refine w_ceq_t dX5_readTest_88 (t := 94) rfl (by have := zt_21; omega) ?_
            refine w_lo dX5_readTest_94 rfl rfl rfl rfl ?_
            refine w_iv dX5_readTest_95 rfl rfl (As := []) rfl rfl hJ63.1.1 zs_2 (Nat.le_of_ble_eq_true rfl) ?_
            refine ZV.imp (k_1289 hN hJ63.1) ?_
            rintro _ ⟨M65, rfl, hJ66, hq67⟩
            have hJ68 := zJ_trans hJ63 hJ66 (zSub_cons (fun _ _ h h' hk => zIR_s (zIR_s (zIR_s (zIR_s (zIR_s (zIR_s (zIR_e (by omega) (by omega) hk))))))) zSub_nil)
            show ZW _ _ _ _ _ _ _ (98, [some (.ref 2), some (.int 3), some (.int v66_2), some (.int u66_3)], [], M65)
            refine w_inc (kk := 2) dX5_readTest_98 rfl (m := 1) (by decide) (by omega) ?_
            intro x69 h70
            refine ⟨_, rfl, ?_⟩
            show ZW _ _ _ _ _ _ _ (101, [some (.ref 2), some (.int 3), some (.int x69), some (.int u66_3)], [], M65)
            refine w_gt dX5_readTest_101 (t := 2) rfl ?_
            exact ih2 M65 x69 (some (.int u66_3)) hJ68 (by omega) (by omega) (by have := zt_3; omega)
  obtain ⟨ih2, ih11, ih44, ih66⟩ := main 15436899
  show ZW _ _ _ _ _ _ _ (0, [some (.ref 2), some (.int 3), none, none], [], M0)
  refine w_ic dX5_readTest_0 zi_0 ?_
  refine w_lo (ml' := [some (.ref 2), some (.int 3), some (.int 0), none]) dX5_readTest_1 rfl rfl rfl rfl ?_
  exact ih2 M0 0 none hJ0 (by have := zt_0; omega) (by have := zt_0; omega) (by have := zt_3; have := zt_0; omega)
set_option maxRecDepth 100000 in
theorem k_1301_c2 {X : List Int32} {d N : Nat} {M0 : zM}  (hN : N ≤ 600) (hB0 : zB N M0) : ZV X (d + 16) 1301 [.ref 2, .int 2] M0 (zRI N [(2, 3, 0), (2, 3, 1), (20, 21, 1), (41, 42, 1), (21, 22, 1000), (42, 43, 1000), (2, 3, 7)] M0 (0) (1) (fun _ _ => True)) := by
  have hJ0 : zJ N [(2, 3, 0), (2, 3, 1), (20, 21, 1), (41, 42, 1), (21, 22, 1000), (42, 43, 1000), (2, 3, 7)] M0 M0 := zJ_refl hB0
  refine ZV.of (ini := false) rfl (Nat.le_of_ble_eq_true rfl) (by decide +kernel) ?_
  have main : ∀ n : Nat,
      (∀ (M : zM) (v2_2 : Int32) (o2_3 : Option Value), zJ N [(2, 3, 0), (2, 3, 1), (20, 21, 1), (41, 42, 1), (21, 22, 1000), (42, 43, 1000), (2, 3, 7)] M0 M → ((0 : Int) ≤ v2_2.toInt) → (v2_2.toInt ≤ 1601) → 5 * (1601 - v2_2.toInt) + 3 < (n : Int) → ZW X (d + 15) 5 false (some .boolean) cX5_readFact (zRI N [(2, 3, 0), (2, 3, 1), (20, 21, 1), (41, 42, 1), (21, 22, 1000), (42, 43, 1000), (2, 3, 7)] M0 (0) (1) (fun _ _ => True)) (2, [some (.ref 2), some (.int 2), some (.int v2_2), o2_3], [], M)) ∧
      (∀ (M : zM) (v28_2 : Int32) (o28_3 : Option Value), zJ N [(2, 3, 0), (2, 3, 1), (20, 21, 1), (41, 42, 1), (21, 22, 1000), (42, 43, 1000), (2, 3, 7)] M0 M → ((0 : Int) ≤ v28_2.toInt) → (v28_2.toInt ≤ 1601) → 2 < (n : Int) → ZW X (d + 15) 5 false (some .boolean) cX5_readFact (zRI N [(2, 3, 0), (2, 3, 1), (20, 21, 1), (41, 42, 1), (21, 22, 1000), (42, 43, 1000), (2, 3, 7)] M0 (0) (1) (fun _ _ => True)) (28, [some (.ref 2), some (.int 2), some (.int v28_2), o28_3], [], M)) ∧
      (∀ (M : zM) (v167_2 : Int32) (o167_3 : Option Value) (s167_0 : Int32), zJ N [(2, 3, 0), (2, 3, 1), (20, 21, 1), (41, 42, 1), (21, 22, 1000), (42, 43, 1000), (2, 3, 7)] M0 M → ((0 : Int) ≤ v167_2.toInt) → (v167_2.toInt ≤ 1601) → ((-16 : Int) ≤ s167_0.toInt) → (s167_0.toInt ≤ 0) → 1 < (n : Int) → ZW X (d + 15) 5 false (some .boolean) cX5_readFact (zRI N [(2, 3, 0), (2, 3, 1), (20, 21, 1), (41, 42, 1), (21, 22, 1000), (42, 43, 1000), (2, 3, 7)] M0 (0) (1) (fun _ _ => True)) (167, [some (.ref 2), some (.int 2), some (.int v167_2), o167_3], [.int s167_0], M)) := by
    intro n
    induction n with
    | zero =>
      exact ⟨(fun M v2_2 o2_3 hJ v2_20 v2_21 hn => absurd hn (by omega)), (fun M v28_2 o28_3 hJ v28_20 v28_21 hn => absurd hn (by omega)), (fun M v167_2 o167_3 s167_0 hJ v167_20 v167_21 s167_00 s167_01 hn => absurd hn (by omega))⟩
    | succ n ih =>
      obtain ⟨ih2, ih28, ih167⟩ := ih
      refine ⟨?_, ?_, ?_⟩
      · intro M v2_2 o2_3 hJ v2_20 v2_21 hn
        refine w_lo dX5_readFact_2 rfl rfl rfl rfl ?_
        refine w_si dX5_readFact_3 (c := 1600) (by decide) ?_
        rcases zcut (1600 : Int) v2_2.toInt with h1 | h1
        · skip
          refine w_cgt_t dX5_readFact_6 (t := 28) rfl (by have := zt_1600; omega) ?_
          exact ih28 M v2_2 o2_3 hJ (by omega) (by omega) (by have := zt_2; omega)
        · skip
          refine w_cgt_f dX5_readFact_6 (t := 28) rfl (by have := zt_1600; omega) ?_
          refine w_lo dX5_readFact_9 rfl rfl rfl rfl ?_
          refine w_iv dX5_readFact_10 rfl rfl (As := []) rfl rfl hJ.1.1 zs_2 (Nat.le_of_ble_eq_true rfl) ?_
          refine ZV.imp (k_1287 hN hJ.1) ?_
          rintro _ ⟨x5, M2, rfl, h6, h7, hJ3, hq4⟩
          have hJ8 := zJ_trans hJ hJ3 zSub_nil
          show ZW _ _ _ _ _ _ _ (13, [some (.ref 2), some (.int 2), some (.int v2_2), o2_3], [.int x5], M2)
          refine w_bi dX5_readFact_13 (c := 23) (by decide) ?_
          rcases Int.decEq x5.toInt (23 : Int) with h9 | h9
          · skip
            refine w_cne_t dX5_readFact_15 (t := 28) rfl (by have := zt_23; omega) ?_
            exact ih28 M2 v2_2 o2_3 hJ8 (by omega) (by omega) (by have := zt_2; omega)
          · skip
            refine w_cne_f dX5_readFact_15 (t := 28) rfl (by have := zt_23; omega) ?_
            refine w_lo dX5_readFact_18 rfl rfl rfl rfl ?_
            refine w_iv dX5_readFact_19 rfl rfl (As := []) rfl rfl hJ8.1.1 zs_2 (Nat.le_of_ble_eq_true rfl) ?_
            refine ZV.imp (k_1289 hN hJ8.1) ?_
            rintro _ ⟨M10, rfl, hJ11, hq12⟩
            have hJ13 := zJ_trans hJ8 hJ11 (zSub_cons (fun _ _ h h' hk => zIR_s (zIR_s (zIR_s (zIR_s (zIR_s (zIR_s (zIR_e (by omega) (by omega) hk))))))) zSub_nil)
            show ZW _ _ _ _ _ _ _ (22, [some (.ref 2), some (.int 2), some (.int v2_2), o2_3], [], M10)
            refine w_inc (kk := 2) dX5_readFact_22 rfl (m := 1) (by decide) (by omega) ?_
            intro x14 h15
            refine ⟨_, rfl, ?_⟩
            show ZW _ _ _ _ _ _ _ (25, [some (.ref 2), some (.int 2), some (.int x14), o2_3], [], M10)
            refine w_gt dX5_readFact_25 (t := 2) rfl ?_
            exact ih2 M10 x14 o2_3 hJ13 (by omega) (by omega) (by have := zt_2; omega)
      · intro M v28_2 o28_3 hJ v28_20 v28_21 hn
        refine w_lo dX5_readFact_28 rfl rfl rfl rfl ?_
        refine w_bi dX5_readFact_29 (c := 91) (by decide) ?_
        refine w_iv dX5_readFact_31 rfl rfl (As := [.int 91]) rfl rfl hJ.1.1 zs_2 (Nat.le_of_ble_eq_true rfl) ?_
        refine ZV.imp (k_1299 91 (by have := zt_91; omega) (by have := zt_91; omega) hN hJ.1) ?_
        rintro _ ⟨x19, M16, rfl, h20, h21, hJ17, hq18⟩
        have hJ22 := zJ_trans hJ hJ17 zSub_nil
        show ZW _ _ _ _ _ _ _ (34, [some (.ref 2), some (.int 2), some (.int v28_2), o28_3], [.int x19], M16)
        rcases Int.decEq x19.toInt (0 : Int) with h23 | h23
        · skip
          refine w_ieq_f dX5_readFact_34 (t := 87) rfl (by omega) ?_
          refine w_lo dX5_readFact_37 rfl rfl rfl rfl ?_
          refine w_bi dX5_readFact_38 (c := 8) (by decide) ?_
          refine w_clt_t dX5_readFact_40 (t := 49) rfl (by have := zt_2; have := zt_8; omega) ?_
          refine w_lo dX5_readFact_49 rfl rfl rfl rfl ?_
          refine w_iv dX5_readFact_50 rfl rfl (As := []) rfl rfl hJ22.1.1 zs_2 (Nat.le_of_ble_eq_true rfl) ?_
          refine ZV.imp (k_1289 hN hJ22.1) ?_
          rintro _ ⟨M24, rfl, hJ25, hq26⟩
          have hJ27 := zJ_trans hJ22 hJ25 (zSub_cons (fun _ _ h h' hk => zIR_s (zIR_s (zIR_s (zIR_s (zIR_s (zIR_s (zIR_e (by omega) (by omega) hk))))))) zSub_nil)
          show ZW _ _ _ _ _ _ _ (53, [some (.ref 2), some (.int 2), some (.int v28_2), o28_3], [], M24)
          refine w_lo dX5_readFact_53 rfl rfl rfl rfl ?_
          refine w_lo dX5_readFact_54 rfl rfl rfl rfl ?_
          refine w_ic dX5_readFact_55 zi_1 ?_
          refine w_pu (st' := [.int 3, .ref 2]) dX5_readFact_56 rfl rfl ?_
          refine w_iv dX5_readFact_57 rfl rfl (As := [.int 3]) rfl rfl hJ27.1.1 zs_2 (Nat.le_of_ble_eq_true rfl) ?_
          refine ZV.imp (k_1300_c3 hN hJ27.1) ?_
          rintro _ ⟨x31, M28, rfl, h32, h33, hJ29, hq30⟩
          have hJ34 := zJ_trans hJ27 hJ29 (zSub_cons (fun _ _ h h' hk => zIR_e (by omega) (by omega) hk) (zSub_cons (fun _ _ h h' hk => zIR_s (zIR_e (by omega) (by omega) hk)) (zSub_cons (fun _ _ h h' hk => zIR_s (zIR_s (zIR_e (by omega) (by omega) hk))) (zSub_cons (fun _ _ h h' hk => zIR_s (zIR_s (zIR_s (zIR_e (by omega) (by omega) hk)))) (zSub_cons (fun _ _ h h' hk => zIR_s (zIR_s (zIR_s (zIR_s (zIR_a (by omega) (by omega)))))) (zSub_cons (fun _ _ h h' hk => zIR_s (zIR_s (zIR_s (zIR_s (zIR_s (zIR_a (by omega) (by omega))))))) (zSub_cons (fun _ _ h h' hk => zIR_s (zIR_s (zIR_s (zIR_s (zIR_s (zIR_s (zIR_e (by omega) (by omega) hk))))))) zSub_nil)))))))
          show ZW _ _ _ _ _ _ _ (60, [some (.ref 2), some (.int 2), some (.int v28_2), o28_3], [.int x31], M28)
          rcases Int.decEq x31.toInt (0 : Int) with h35 | h35
          · skip
            refine w_ine_t dX5_readFact_60 (t := 65) rfl (by omega) ?_
            refine w_lo dX5_readFact_65 rfl rfl rfl rfl ?_
            refine w_bi dX5_readFact_66 (c := 93) (by decide) ?_
            refine w_iv dX5_readFact_68 rfl rfl (As := [.int 93]) rfl rfl hJ34.1.1 zs_2 (Nat.le_of_ble_eq_true rfl) ?_
            refine ZV.imp (k_1299 93 (by have := zt_93; omega) (by have := zt_93; omega) hN hJ34.1) ?_
            rintro _ ⟨x39, M36, rfl, h40, h41, hJ37, hq38⟩
            have hJ42 := zJ_trans hJ34 hJ37 zSub_nil
            show ZW _ _ _ _ _ _ _ (71, [some (.ref 2), some (.int 2), some (.int v28_2), o28_3], [.int x39], M36)
            rcases Int.decEq x39.toInt (0 : Int) with h43 | h43
            · skip
              refine w_ine_t dX5_readFact_71 (t := 80) rfl (by omega) ?_
              refine w_lo dX5_readFact_80 rfl rfl rfl rfl ?_
              refine w_iv dX5_readFact_81 rfl rfl (As := []) rfl rfl hJ42.1.1 zs_2 (Nat.le_of_ble_eq_true rfl) ?_
              refine ZV.imp (k_1289 hN hJ42.1) ?_
              rintro _ ⟨M44, rfl, hJ45, hq46⟩
              have hJ47 := zJ_trans hJ42 hJ45 (zSub_cons (fun _ _ h h' hk => zIR_s (zIR_s (zIR_s (zIR_s (zIR_s (zIR_s (zIR_e (by omega) (by omega) hk))))))) zSub_nil)
              show ZW _ _ _ _ _ _ _ (84, [some (.ref 2), some (.int 2), some (.int v28_2), o28_3], [], M44)
              refine w_gt dX5_readFact_84 (t := 203) rfl ?_
              refine w_lo dX5_readFact_203 rfl rfl rfl rfl ?_
              refine w_ic dX5_readFact_204 zi_2 ?_
              refine w_remP dX5_readFact_205 (by omega) (by have := zt_2; omega) ?_
              intro x48 h49 h50 h51
              have := zt_2
              refine w_ic dX5_readFact_206 zi_1 ?_
              rcases Int.decEq x48.toInt (1 : Int) with h52 | h52
              · skip
                refine w_cne_t dX5_readFact_207 (t := 222) rfl (by have := zt_1; omega) ?_
                refine w_ic dX5_readFact_222 zi_1 ?_
                refine w_en dX5_readFact_223 rfl ?_
                exact ⟨_, _, rfl, (by have := zt_1; omega), (by have := zt_1; omega), hJ47, trivial⟩
              · skip
                refine w_cne_f dX5_readFact_207 (t := 222) rfl (by have := zt_1; omega) ?_
                refine w_lo dX5_readFact_210 rfl rfl rfl rfl ?_
                obtain ⟨b53, f54, h55⟩ := zd_2_8 hJ47.1
                have h56 := zDm_b h55
                refine w_gf dX5_readFact_211 rfl hJ47.1.1 zs_2 f54 ?_
                refine w_gf dX5_readFact_214 rfl hJ47.1.1 (zs_1_0 h55) (zr_1_0_15 h55 hJ47.1) ?_
                refine w_bi dX5_readFact_217 (c := (-8)) (by decide) ?_
                refine w_iv dX5_readFact_219 rfl rfl (As := [.int (-8)]) rfl rfl hJ47.1.1 (zs_1_13 h55) (Nat.le_of_ble_eq_true rfl) ?_
                refine ZV.imp (k_515 (b53 + 13) (zLw_of h55) (-8) hN hJ47.1) ?_
                rintro _ ⟨M57, rfl, hJ58, hq59⟩
                have hJ60 := zJ_trans hJ47 hJ58 (zSub_cons (fun _ _ h h' hk => ((zDm_or h55).elim (fun e => zIR_s (zIR_s (zIR_e (by omega) (by omega) hk))) (fun e => zIR_s (zIR_s (zIR_s (zIR_e (by omega) (by omega) hk)))))) (zSub_cons (fun _ _ h h' hk => ((zDm_or h55).elim (fun e => zIR_s (zIR_s (zIR_s (zIR_s (zIR_a (by omega) (by omega)))))) (fun e => zIR_s (zIR_s (zIR_s (zIR_s (zIR_s (zIR_a (by omega) (by omega))))))))) zSub_nil))
                show ZW _ _ _ _ _ _ _ (222, [some (.ref 2), some (.int 2), some (.int v28_2), o28_3], [], M57)
                refine w_ic dX5_readFact_222 zi_1 ?_
                refine w_en dX5_readFact_223 rfl ?_
                exact ⟨_, _, rfl, (by have := zt_1; omega), (by have := zt_1; omega), hJ60, trivial⟩
            · skip
              refine w_ine_f dX5_readFact_71 (t := 80) rfl (by omega) ?_
              refine w_lo dX5_readFact_74 rfl rfl rfl rfl ?_
              refine w_ic dX5_readFact_75 zi_1 ?_
              refine w_iv dX5_readFact_76 rfl rfl (As := [.int 1]) rfl rfl hJ42.1.1 zs_2 (Nat.le_of_ble_eq_true rfl) ?_
              refine ZV.imp (k_1286 1 (by have := zt_1; omega) (by have := zt_1; omega) hN hJ42.1) ?_
              rintro _ ⟨x64, M61, rfl, h65, h66, hJ62, hq63⟩
              have hJ67 := zJ_trans hJ42 hJ62 (zSub_cons (fun _ _ h h' hk => zIR_e (by omega) (by omega) hk) (zSub_cons (fun _ _ h h' hk => zIR_s (zIR_e (by omega) (by omega) hk)) zSub_nil))
              show ZW _ _ _ _ _ _ _ (79, [some (.ref 2), some (.int 2), some (.int v28_2), o28_3], [.int x64], M61)
              refine w_eni dX5_readFact_79 rfl (znb (by omega) (by omega)) ?_
              exact ⟨_, _, rfl, (by omega), (by omega), hJ67, trivial⟩
          · skip
            refine w_ine_f dX5_readFact_60 (t := 65) rfl (by omega) ?_
            refine w_ic dX5_readFact_63 zi_0 ?_
            refine w_en dX5_readFact_64 rfl ?_
            exact ⟨_, _, rfl, (by have := zt_0; omega), (by have := zt_0; omega), hJ34, trivial⟩
        · skip
          refine w_ieq_t dX5_readFact_34 (t := 87) rfl (by omega) ?_
          refine w_lo dX5_readFact_87 rfl rfl rfl rfl ?_
          refine w_iv dX5_readFact_88 rfl rfl (As := []) rfl rfl hJ22.1.1 zs_2 (Nat.le_of_ble_eq_true rfl) ?_
          refine ZV.imp (k_1287 hN hJ22.1) ?_
          rintro _ ⟨x71, M68, rfl, h72, h73, hJ69, hq70⟩
          have hJ74 := zJ_trans hJ22 hJ69 zSub_nil
          show ZW _ _ _ _ _ _ _ (91, [some (.ref 2), some (.int 2), some (.int v28_2), o28_3], [.int x71], M68)
          refine w_bi dX5_readFact_91 (c := 24) (by decide) ?_
          rcases Int.decEq x71.toInt (24 : Int) with h75 | h75
          · skip
            refine w_cne_t dX5_readFact_93 (t := 114) rfl (by have := zt_24; omega) ?_
            refine w_lo dX5_readFact_114 rfl rfl rfl rfl ?_
            refine w_lo dX5_readFact_115 rfl rfl rfl rfl ?_
            refine w_iv dX5_readFact_116 rfl rfl (As := [.int 2]) rfl rfl hJ74.1.1 zs_2 (Nat.le_of_ble_eq_true rfl) ?_
            refine ZV.imp (k_1297_c2 hN hJ74.1) ?_
            rintro _ ⟨x79, M76, rfl, h80, h81, hJ77, hq78⟩
            have hJ82 := zJ_trans hJ74 hJ77 (zSub_cons (fun _ _ h h' hk => zIR_e (by omega) (by omega) hk) (zSub_cons (fun _ _ h h' hk => zIR_s (zIR_e (by omega) (by omega) hk)) (zSub_cons (fun _ _ h h' hk => zIR_s (zIR_s (zIR_e (by omega) (by omega) hk))) (zSub_cons (fun _ _ h h' hk => zIR_s (zIR_s (zIR_s (zIR_e (by omega) (by omega) hk)))) (zSub_cons (fun _ _ h h' hk => zIR_s (zIR_s (zIR_s (zIR_s (zIR_a (by omega) (by omega)))))) (zSub_cons (fun _ _ h h' hk => zIR_s (zIR_s (zIR_s (zIR_s (zIR_s (zIR_a (by omega) (by omega))))))) (zSub_cons (fun _ _ h h' hk => zIR_s (zIR_s (zIR_s (zIR_s (zIR_s (zIR_s (zIR_e (by omega) (by omega) hk))))))) zSub_nil)))))))
            show ZW _ _ _ _ _ _ _ (119, [some (.ref 2), some (.int 2), some (.int v28_2), o28_3], [.int x79], M76)
            rcases Int.decEq x79.toInt (0 : Int) with h83 | h83
            · skip
              refine w_ine_t dX5_readFact_119 (t := 124) rfl (by omega) ?_
              refine w_lo dX5_readFact_124 rfl rfl rfl rfl ?_
              refine w_bi dX5_readFact_125 (c := 60) (by decide) ?_
              refine w_iv dX5_readFact_127 rfl rfl (As := [.int 60]) rfl rfl hJ82.1.1 zs_2 (Nat.le_of_ble_eq_true rfl) ?_
              refine ZV.imp (k_1299 60 (by have := zt_60; omega) (by have := zt_60; omega) hN hJ82.1) ?_
              rintro _ ⟨x87, M84, rfl, h88, h89, hJ85, hq86⟩
              have hJ90 := zJ_trans hJ82 hJ85 zSub_nil
              show ZW _ _ _ _ _ _ _ (130, [some (.ref 2), some (.int 2), some (.int v28_2), o28_3], [.int x87], M84)
              rcases Int.decEq x87.toInt (0 : Int) with h91 | h91
              · skip
                refine w_ieq_f dX5_readFact_130 (t := 138) rfl (by omega) ?_
                refine w_bi dX5_readFact_133 (c := (-14)) (by decide) ?_
                refine w_gt dX5_readFact_135 (t := 167) rfl ?_
                exact ih167 M84 v28_2 o28_3 (-14) hJ90 (by omega) (by omega) (by have := zt_m14; omega) (by have := zt_m14; omega) (by have := zt_2; have := zt_m14; omega)
              · skip
                refine w_ieq_t dX5_readFact_130 (t := 138) rfl (by omega) ?_
                refine w_lo dX5_readFact_138 rfl rfl rfl rfl ?_
                refine w_bi dX5_readFact_139 (c := 62) (by decide) ?_
                refine w_iv dX5_readFact_141 rfl rfl (As := [.int 62]) rfl rfl hJ90.1.1 zs_2 (Nat.le_of_ble_eq_true rfl) ?_
                refine ZV.imp (k_1299 62 (by have := zt_62; omega) (by have := zt_62; omega) hN hJ90.1) ?_
                rintro _ ⟨x95, M92, rfl, h96, h97, hJ93, hq94⟩
                have hJ98 := zJ_trans hJ90 hJ93 zSub_nil
                show ZW _ _ _ _ _ _ _ (144, [some (.ref 2), some (.int 2), some (.int v28_2), o28_3], [.int x95], M92)
                rcases Int.decEq x95.toInt (0 : Int) with h99 | h99
                · skip
                  refine w_ieq_f dX5_readFact_144 (t := 152) rfl (by omega) ?_
                  refine w_bi dX5_readFact_147 (c := (-15)) (by decide) ?_
                  refine w_gt dX5_readFact_149 (t := 167) rfl ?_
                  exact ih167 M92 v28_2 o28_3 (-15) hJ98 (by omega) (by omega) (by have := zt_m15; omega) (by have := zt_m15; omega) (by have := zt_2; have := zt_m15; omega)
                · skip
                  refine w_ieq_t dX5_readFact_144 (t := 152) rfl (by omega) ?_
                  refine w_lo dX5_readFact_152 rfl rfl rfl rfl ?_
                  refine w_bi dX5_readFact_153 (c := 61) (by decide) ?_
                  refine w_iv dX5_readFact_155 rfl rfl (As := [.int 61]) rfl rfl hJ98.1.1 zs_2 (Nat.le_of_ble_eq_true rfl) ?_
                  refine ZV.imp (k_1299 61 (by have := zt_61; omega) (by have := zt_61; omega) hN hJ98.1) ?_
                  rintro _ ⟨x103, M100, rfl, h104, h105, hJ101, hq102⟩
                  have hJ106 := zJ_trans hJ98 hJ101 zSub_nil
                  show ZW _ _ _ _ _ _ _ (158, [some (.ref 2), some (.int 2), some (.int v28_2), o28_3], [.int x103], M100)
                  rcases Int.decEq x103.toInt (0 : Int) with h107 | h107
                  · skip
                    refine w_ieq_f dX5_readFact_158 (t := 166) rfl (by omega) ?_
                    refine w_bi dX5_readFact_161 (c := (-16)) (by decide) ?_
                    refine w_gt dX5_readFact_163 (t := 167) rfl ?_
                    exact ih167 M100 v28_2 o28_3 (-16) hJ106 (by omega) (by omega) (by have := zt_m16; omega) (by have := zt_m16; omega) (by have := zt_2; have := zt_m16; omega)
                  · skip
                    refine w_ieq_t dX5_readFact_158 (t := 166) rfl (by omega) ?_
                    refine w_ic dX5_readFact_166 zi_0 ?_
                    exact ih167 M100 v28_2 o28_3 0 hJ106 (by omega) (by omega) (by have := zt_0; omega) (by have := zt_0; omega) (by have := zt_2; have := zt_0; omega)
            · skip
              refine w_ine_f dX5_readFact_119 (t := 124) rfl (by omega) ?_
              refine w_ic dX5_readFact_122 zi_0 ?_
              refine w_en dX5_readFact_123 rfl ?_
              exact ⟨_, _, rfl, (by have := zt_0; omega), (by have := zt_0; omega), hJ82, trivial⟩
          · skip
            refine w_cne_f dX5_readFact_93 (t := 114) rfl (by have := zt_24; omega) ?_
            refine w_lo dX5_readFact_96 rfl rfl rfl rfl ?_
            refine w_iv dX5_readFact_97 rfl rfl (As := []) rfl rfl hJ74.1.1 zs_2 (Nat.le_of_ble_eq_true rfl) ?_
            refine ZV.imp (k_1289 hN hJ74.1) ?_
            rintro _ ⟨M108, rfl, hJ109, hq110⟩
            have hJ111 := zJ_trans hJ74 hJ109 (zSub_cons (fun _ _ h h' hk => zIR_s (zIR_s (zIR_s (zIR_s (zIR_s (zIR_s (zIR_e (by omega) (by omega) hk))))))) zSub_nil)
            show ZW _ _ _ _ _ _ _ (100, [some (.ref 2), some (.int 2), some (.int v28_2), o28_3], [], M108)
            refine w_lo dX5_readFact_100 rfl rfl rfl rfl ?_
            obtain ⟨b112, f113, h114⟩ := zd_2_8 hJ111.1
            have h115 := zDm_b h114
            refine w_gf dX5_readFact_101 rfl hJ111.1.1 zs_2 f113 ?_
            refine w_gf dX5_readFact_104 rfl hJ111.1.1 (zs_1_0 h114) (zr_1_0_15 h114 hJ111.1) ?_
            refine w_ic dX5_readFact_107 zi_1 ?_
            refine w_iv dX5_readFact_108 rfl rfl (As := [.int 1]) rfl rfl hJ111.1.1 (zs_1_13 h114) (Nat.le_of_ble_eq_true rfl) ?_
            refine ZV.imp (k_515 (b112 + 13) (zLw_of h114) 1 hN hJ111.1) ?_
            rintro _ ⟨M116, rfl, hJ117, hq118⟩
            have hJ119 := zJ_trans hJ111 hJ117 (zSub_cons (fun _ _ h h' hk => ((zDm_or h114).elim (fun e => zIR_s (zIR_s (zIR_e (by omega) (by omega) hk))) (fun e => zIR_s (zIR_s (zIR_s (zIR_e (by omega) (by omega) hk)))))) (zSub_cons (fun _ _ h h' hk => ((zDm_or h114).elim (fun e => zIR_s (zIR_s (zIR_s (zIR_s (zIR_a (by omega) (by omega)))))) (fun e => zIR_s (zIR_s (zIR_s (zIR_s (zIR_s (zIR_a (by omega) (by omega))))))))) zSub_nil))
            show ZW _ _ _ _ _ _ _ (111, [some (.ref 2), some (.int 2), some (.int v28_2), o28_3], [], M116)
            refine w_gt dX5_readFact_111 (t := 203) rfl ?_
            refine w_lo dX5_readFact_203 rfl rfl rfl rfl ?_
            refine w_ic dX5_readFact_204 zi_2 ?_
            refine w_remP dX5_readFact_205 (by omega) (by have := zt_2; omega) ?_
            intro x120 h121 h122 h123
            have := zt_2
            refine w_ic dX5_readFact_206 zi_1 ?_
            rcases Int.decEq x120.toInt (1 : Int) with h124 | h124
            · skip
              refine w_cne_t dX5_readFact_207 (t := 222) rfl (by have := zt_1; omega) ?_
              refine w_ic dX5_readFact_222 zi_1 ?_
              refine w_en dX5_readFact_223 rfl ?_
              exact ⟨_, _, rfl, (by have := zt_1; omega), (by have := zt_1; omega), hJ119, trivial⟩
            · skip
              refine w_cne_f dX5_readFact_207 (t := 222) rfl (by have := zt_1; omega) ?_
              refine w_lo dX5_readFact_210 rfl rfl rfl rfl ?_
              have f125 := (hJ117.2 (2) 8 (zNI_k (by decide) (by decide) (zNI (by omega) zNI_nil))).trans (f113)
              refine w_gf dX5_readFact_211 rfl hJ119.1.1 zs_2 f125 ?_
              refine w_gf dX5_readFact_214 rfl hJ119.1.1 (zs_1_0 h114) (zr_1_0_15 h114 hJ119.1) ?_
              refine w_bi dX5_readFact_217 (c := (-8)) (by decide) ?_
              refine w_iv dX5_readFact_219 rfl rfl (As := [.int (-8)]) rfl rfl hJ119.1.1 (zs_1_13 h114) (Nat.le_of_ble_eq_true rfl) ?_
              refine ZV.imp (k_515 (b112 + 13) (zLw_of h114) (-8) hN hJ119.1) ?_
              rintro _ ⟨M126, rfl, hJ127, hq128⟩
              have hJ129 := zJ_trans hJ119 hJ127 (zSub_cons (fun _ _ h h' hk => ((zDm_or h114).elim (fun e => zIR_s (zIR_s (zIR_e (by omega) (by omega) hk))) (fun e => zIR_s (zIR_s (zIR_s (zIR_e (by omega) (by omega) hk)))))) (zSub_cons (fun _ _ h h' hk => ((zDm_or h114).elim (fun e => zIR_s (zIR_s (zIR_s (zIR_s (zIR_a (by omega) (by omega)))))) (fun e => zIR_s (zIR_s (zIR_s (zIR_s (zIR_s (zIR_a (by omega) (by omega))))))))) zSub_nil))
              show ZW _ _ _ _ _ _ _ (222, [some (.ref 2), some (.int 2), some (.int v28_2), o28_3], [], M126)
              refine w_ic dX5_readFact_222 zi_1 ?_
              refine w_en dX5_readFact_223 rfl ?_
              exact ⟨_, _, rfl, (by have := zt_1; omega), (by have := zt_1; omega), hJ129, trivial⟩
      · intro M v167_2 o167_3 s167_0 hJ v167_20 v167_21 s167_00 s167_01 hn
        refine w_lo (ml' := [some (.ref 2), some (.int 2), some (.int v167_2), some (.int s167_0)]) dX5_readFact_167 rfl rfl rfl rfl ?_
        refine w_lo dX5_readFact_168 rfl rfl rfl rfl ?_
        rcases Int.decEq s167_0.toInt (0 : Int) with h130 | h130
        · skip
          refine w_ine_t dX5_readFact_169 (t := 178) rfl (by omega) ?_
          refine w_lo dX5_readFact_178 rfl rfl rfl rfl ?_
          refine w_iv dX5_readFact_179 rfl rfl (As := []) rfl rfl hJ.1.1 zs_2 (Nat.le_of_ble_eq_true rfl) ?_
          refine ZV.imp (k_1289 hN hJ.1) ?_
          rintro _ ⟨M131, rfl, hJ132, hq133⟩
          have hJ134 := zJ_trans hJ hJ132 (zSub_cons (fun _ _ h h' hk => zIR_s (zIR_s (zIR_s (zIR_s (zIR_s (zIR_s (zIR_e (by omega) (by omega) hk))))))) zSub_nil)
          show ZW _ _ _ _ _ _ _ (182, [some (.ref 2), some (.int 2), some (.int v167_2), some (.int s167_0)], [], M131)
          refine w_lo dX5_readFact_182 rfl rfl rfl rfl ?_
          refine w_lo dX5_readFact_183 rfl rfl rfl rfl ?_
          refine w_iv dX5_readFact_184 rfl rfl (As := [.int 2]) rfl rfl hJ134.1.1 zs_2 (Nat.le_of_ble_eq_true rfl) ?_
          refine ZV.imp (k_1297_c2 hN hJ134.1) ?_
          rintro _ ⟨x138, M135, rfl, h139, h140, hJ136, hq137⟩
          have hJ141 := zJ_trans hJ134 hJ136 (zSub_cons (fun _ _ h h' hk => zIR_e (by omega) (by omega) hk) (zSub_cons (fun _ _ h h' hk => zIR_s (zIR_e (by omega) (by omega) hk)) (zSub_cons (fun _ _ h h' hk => zIR_s (zIR_s (zIR_e (by omega) (by omega) hk))) (zSub_cons (fun _ _ h h' hk => zIR_s (zIR_s (zIR_s (zIR_e (by omega) (by omega) hk)))) (zSub_cons (fun _ _ h h' hk => zIR_s (zIR_s (zIR_s (zIR_s (zIR_a (by omega) (by omega)))))) (zSub_cons (fun _ _ h h' hk => zIR_s (zIR_s (zIR_s (zIR_s (zIR_s (zIR_a (by omega) (by omega))))))) (zSub_cons (fun _ _ h h' hk => zIR_s (zIR_s (zIR_s (zIR_s (zIR_s (zIR_s (zIR_e (by omega) (by omega) hk))))))) zSub_nil)))))))
          show ZW _ _ _ _ _ _ _ (187, [some (.ref 2), some (.int 2), some (.int v167_2), some (.int s167_0)], [.int x138], M135)
          rcases Int.decEq x138.toInt (0 : Int) with h142 | h142
          · skip
            refine w_ine_t dX5_readFact_187 (t := 192) rfl (by omega) ?_
            refine w_lo dX5_readFact_192 rfl rfl rfl rfl ?_
            obtain ⟨b143, f144, h145⟩ := zd_2_8 hJ141.1
            have h146 := zDm_b h145
            refine w_gf dX5_readFact_193 rfl hJ141.1.1 zs_2 f144 ?_
            refine w_gf dX5_readFact_196 rfl hJ141.1.1 (zs_1_0 h145) (zr_1_0_15 h145 hJ141.1) ?_
            refine w_lo dX5_readFact_199 rfl rfl rfl rfl ?_
            refine w_iv dX5_readFact_200 rfl rfl (As := [.int s167_0]) rfl rfl hJ141.1.1 (zs_1_13 h145) (Nat.le_of_ble_eq_true rfl) ?_
            refine ZV.imp (k_515 (b143 + 13) (zLw_of h145) s167_0 hN hJ141.1) ?_
            rintro _ ⟨M147, rfl, hJ148, hq149⟩
            have hJ150 := zJ_trans hJ141 hJ148 (zSub_cons (fun _ _ h h' hk => ((zDm_or h145).elim (fun e => zIR_s (zIR_s (zIR_e (by omega) (by omega) hk))) (fun e => zIR_s (zIR_s (zIR_s (zIR_e (by omega) (by omega) hk)))))) (zSub_cons (fun _ _ h h' hk => ((zDm_or h145).elim (fun e => zIR_s (zIR_s (zIR_s (zIR_s (zIR_a (by omega) (by omega)))))) (fun e => zIR_s (zIR_s (zIR_s (zIR_s (zIR_s (zIR_a (by omega) (by omega))))))))) zSub_nil))
            show ZW _ _ _ _ _ _ _ (203, [some (.ref 2), some (.int 2), some (.int v167_2), some (.int s167_0)], [], M147)
            refine w_lo dX5_readFact_203 rfl rfl rfl rfl ?_
            refine w_ic dX5_readFact_204 zi_2 ?_
            refine w_remP dX5_readFact_205 (by omega) (by have := zt_2; omega) ?_
            intro x151 h152 h153 h154
            have := zt_2
            refine w_ic dX5_readFact_206 zi_1 ?_
            rcases Int.decEq x151.toInt (1 : Int) with h155 | h155
            · skip
              refine w_cne_t dX5_readFact_207 (t := 222) rfl (by have := zt_1; omega) ?_
              refine w_ic dX5_readFact_222 zi_1 ?_
              refine w_en dX5_readFact_223 rfl ?_
              exact ⟨_, _, rfl, (by have := zt_1; omega), (by have := zt_1; omega), hJ150, trivial⟩
            · skip
              refine w_cne_f dX5_readFact_207 (t := 222) rfl (by have := zt_1; omega) ?_
              refine w_lo dX5_readFact_210 rfl rfl rfl rfl ?_
              have f156 := (hJ148.2 (2) 8 (zNI_k (by decide) (by decide) (zNI (by omega) zNI_nil))).trans (f144)
              refine w_gf dX5_readFact_211 rfl hJ150.1.1 zs_2 f156 ?_
              refine w_gf dX5_readFact_214 rfl hJ150.1.1 (zs_1_0 h145) (zr_1_0_15 h145 hJ150.1) ?_
              refine w_bi dX5_readFact_217 (c := (-8)) (by decide) ?_
              refine w_iv dX5_readFact_219 rfl rfl (As := [.int (-8)]) rfl rfl hJ150.1.1 (zs_1_13 h145) (Nat.le_of_ble_eq_true rfl) ?_
              refine ZV.imp (k_515 (b143 + 13) (zLw_of h145) (-8) hN hJ150.1) ?_
              rintro _ ⟨M157, rfl, hJ158, hq159⟩
              have hJ160 := zJ_trans hJ150 hJ158 (zSub_cons (fun _ _ h h' hk => ((zDm_or h145).elim (fun e => zIR_s (zIR_s (zIR_e (by omega) (by omega) hk))) (fun e => zIR_s (zIR_s (zIR_s (zIR_e (by omega) (by omega) hk)))))) (zSub_cons (fun _ _ h h' hk => ((zDm_or h145).elim (fun e => zIR_s (zIR_s (zIR_s (zIR_s (zIR_a (by omega) (by omega)))))) (fun e => zIR_s (zIR_s (zIR_s (zIR_s (zIR_s (zIR_a (by omega) (by omega))))))))) zSub_nil))
              show ZW _ _ _ _ _ _ _ (222, [some (.ref 2), some (.int 2), some (.int v167_2), some (.int s167_0)], [], M157)
              refine w_ic dX5_readFact_222 zi_1 ?_
              refine w_en dX5_readFact_223 rfl ?_
              exact ⟨_, _, rfl, (by have := zt_1; omega), (by have := zt_1; omega), hJ160, trivial⟩
          · skip
            refine w_ine_f dX5_readFact_187 (t := 192) rfl (by omega) ?_
            refine w_ic dX5_readFact_190 zi_0 ?_
            refine w_en dX5_readFact_191 rfl ?_
            exact ⟨_, _, rfl, (by have := zt_0; omega), (by have := zt_0; omega), hJ141, trivial⟩
        · skip
          refine w_ine_f dX5_readFact_169 (t := 178) rfl (by omega) ?_
          refine w_lo dX5_readFact_172 rfl rfl rfl rfl ?_
          refine w_ic dX5_readFact_173 zi_1 ?_
          refine w_iv dX5_readFact_174 rfl rfl (As := [.int 1]) rfl rfl hJ.1.1 zs_2 (Nat.le_of_ble_eq_true rfl) ?_
          refine ZV.imp (k_1286 1 (by have := zt_1; omega) (by have := zt_1; omega) hN hJ.1) ?_
          rintro _ ⟨x164, M161, rfl, h165, h166, hJ162, hq163⟩
          have hJ167 := zJ_trans hJ hJ162 (zSub_cons (fun _ _ h h' hk => zIR_e (by omega) (by omega) hk) (zSub_cons (fun _ _ h h' hk => zIR_s (zIR_e (by omega) (by omega) hk)) zSub_nil))
          show ZW _ _ _ _ _ _ _ (177, [some (.ref 2), some (.int 2), some (.int v167_2), some (.int s167_0)], [.int x164], M161)
          refine w_eni dX5_readFact_177 rfl (znb (by omega) (by omega)) ?_
          exact ⟨_, _, rfl, (by omega), (by omega), hJ167, trivial⟩
  obtain ⟨ih2, ih28, ih167⟩ := main 8023
  show ZW _ _ _ _ _ _ _ (0, [some (.ref 2), some (.int 2), none, none], [], M0)
  refine w_ic dX5_readFact_0 zi_0 ?_
  refine w_lo (ml' := [some (.ref 2), some (.int 2), some (.int 0), none]) dX5_readFact_1 rfl rfl rfl rfl ?_
  exact ih2 M0 0 none hJ0 (by have := zt_0; omega) (by have := zt_0; omega) (by have := zt_2; have := zt_0; omega)
set_option maxRecDepth 100000 in
theorem k_1300_c2 {X : List Int32} {d N : Nat} {M0 : zM}  (hN : N ≤ 600) (hB0 : zB N M0) : ZV X (d + 17) 1300 [.ref 2, .int 2] M0 (zRI N [(2, 3, 0), (2, 3, 1), (20, 21, 1), (41, 42, 1), (21, 22, 1000), (42, 43, 1000), (2, 3, 7)] M0 (0) (1) (fun _ _ => True)) := by
  have hJ0 : zJ N [(2, 3, 0), (2, 3, 1), (20, 21, 1), (41, 42, 1), (21, 22, 1000), (42, 43, 1000), (2, 3, 7)] M0 M0 := zJ_refl hB0
  refine ZV.of (ini := false) rfl (Nat.le_of_ble_eq_true rfl) (by decide +kernel) ?_
  have main : ∀ n : Nat,
      (∀ (M : zM) (v2_2 : Int32) (o2_3 : Option Value), zJ N [(2, 3, 0), (2, 3, 1), (20, 21, 1), (41, 42, 1), (21, 22, 1000), (42, 43, 1000), (2, 3, 7)] M0 M → ((0 : Int) ≤ v2_2.toInt) → (v2_2.toInt ≤ 1601) → 9624 * (1601 - v2_2.toInt) + 9622 < (n : Int) → ZW X (d + 16) 5 false (some .boolean) cX5_readTest (zRI N [(2, 3, 0), (2, 3, 1), (20, 21, 1), (41, 42, 1), (21, 22, 1000), (42, 43, 1000), (2, 3, 7)] M0 (0) (1) (fun _ _ => True)) (2, [some (.ref 2), some (.int 2), some (.int v2_2), o2_3], [], M)) ∧
      (∀ (M : zM) (v11_2 : Int32) (v11_3 : Int32), zJ N [(2, 3, 0), (2, 3, 1), (20, 21, 1), (41, 42, 1), (21, 22, 1000), (42, 43, 1000), (2, 3, 7)] M0 M → ((0 : Int) ≤ v11_2.toInt) → (v11_2.toInt ≤ 1600) → ((0 : Int) ≤ v11_3.toInt) → (v11_3.toInt ≤ 1601) → 9624 * (1601 - v11_2.toInt) + 6 * (1601 - v11_3.toInt) + 3 < (n : Int) → ZW X (d + 16) 5 false (some .boolean) cX5_readTest (zRI N [(2, 3, 0), (2, 3, 1), (20, 21, 1), (41, 42, 1), (21, 22, 1000), (42, 43, 1000), (2, 3, 7)] M0 (0) (1) (fun _ _ => True)) (11, [some (.ref 2), some (.int 2), some (.int v11_2), some (.int v11_3)], [], M)) ∧
      (∀ (M : zM) (v44_2 : Int32) (v44_3 : Int32), zJ N [(2, 3, 0), (2, 3, 1), (20, 21, 1), (41, 42, 1), (21, 22, 1000), (42, 43, 1000), (2, 3, 7)] M0 M → ((0 : Int) ≤ v44_2.toInt) → (v44_2.toInt ≤ 1600) → ((0 : Int) ≤ v44_3.toInt) → (v44_3.toInt ≤ 1600) → 9624 * (1601 - v44_2.toInt) + 6 * (1601 - v44_3.toInt) + 2 < (n : Int) → ZW X (d + 16) 5 false (some .boolean) cX5_readTest (zRI N [(2, 3, 0), (2, 3, 1), (20, 21, 1), (41, 42, 1), (21, 22, 1000), (42, 43, 1000), (2, 3, 7)] M0 (0) (1) (fun _ _ => True)) (44, [some (.ref 2), some (.int 2), some (.int v44_2), some (.int v44_3)], [], M)) ∧
      (∀ (M : zM) (v66_2 : Int32) (u66_3 : Int32), zJ N [(2, 3, 0), (2, 3, 1), (20, 21, 1), (41, 42, 1), (21, 22, 1000), (42, 43, 1000), (2, 3, 7)] M0 M → ((0 : Int) ≤ v66_2.toInt) → (v66_2.toInt ≤ 1600) → 9624 * (1601 - v66_2.toInt) + 1 < (n : Int) → ZW X (d + 16) 5 false (some .boolean) cX5_readTest (zRI N [(2, 3, 0), (2, 3, 1), (20, 21, 1), (41, 42, 1), (21, 22, 1000), (42, 43, 1000), (2, 3, 7)] M0 (0) (1) (fun _ _ => True)) (66, [some (.ref 2), some (.int 2), some (.int v66_2), some (.int u66_3)], [], M)) := by
    intro n
    induction n with
    | zero =>
      exact ⟨(fun M v2_2 o2_3 hJ v2_20 v2_21 hn => absurd hn (by omega)), (fun M v11_2 v11_3 hJ v11_20 v11_21 v11_30 v11_31 hn => absurd hn (by omega)), (fun M v44_2 v44_3 hJ v44_20 v44_21 v44_30 v44_31 hn => absurd hn (by omega)), (fun M v66_2 u66_3 hJ v66_20 v66_21 hn => absurd hn (by omega))⟩
    | succ n ih =>
      obtain ⟨ih2, ih11, ih44, ih66⟩ := ih
      refine ⟨?_, ?_, ?_, ?_⟩
      · intro M v2_2 o2_3 hJ v2_20 v2_21 hn
        refine w_lo dX5_readTest_2 rfl rfl rfl rfl ?_
        refine w_si dX5_readTest_3 (c := 1600) (by decide) ?_
        rcases zcut (1600 : Int) v2_2.toInt with h1 | h1
        · skip
          refine w_cgt_t dX5_readTest_6 (t := 104) rfl (by have := zt_1600; omega) ?_
          refine w_ic dX5_readTest_104 zi_1 ?_
          refine w_en dX5_readTest_105 rfl ?_
          exact ⟨_, _, rfl, (by have := zt_1; omega), (by have := zt_1; omega), hJ, trivial⟩
        · skip
          refine w_cgt_f dX5_readTest_6 (t := 104) rfl (by have := zt_1600; omega) ?_
          refine w_ic dX5_readTest_9 zi_0 ?_
          refine w_lo (ml' := [some (.ref 2), some (.int 2), some (.int v2_2), some (.int 0)]) dX5_readTest_10 rfl rfl rfl rfl ?_
          exact ih11 M v2_2 0 hJ (by omega) (by omega) (by have := zt_0; omega) (by have := zt_0; omega) (by have := zt_2; have := zt_0; omega)
      · intro M v11_2 v11_3 hJ v11_20 v11_21 v11_30 v11_31 hn
        refine w_lo dX5_readTest_11 rfl rfl rfl rfl ?_
        refine w_si dX5_readTest_12 (c := 1600) (by decide) ?_
        rcases zcut (1600 : Int) v11_3.toInt with h2 | h2
        · skip
          refine w_cgt_t dX5_readTest_15 (t := 66) rfl (by have := zt_1600; omega) ?_
          exact ih66 M v11_2 v11_3 hJ (by omega) (by omega) (by have := zt_2; omega)
        · skip
          refine w_cgt_f dX5_readTest_15 (t := 66) rfl (by have := zt_1600; omega) ?_
          refine w_lo dX5_readTest_18 rfl rfl rfl rfl ?_
          refine w_lo dX5_readTest_19 rfl rfl rfl rfl ?_
          refine w_iv dX5_readTest_20 rfl rfl (As := [.int 2]) rfl rfl hJ.1.1 zs_2 (Nat.le_of_ble_eq_true rfl) ?_
          refine ZV.imp (k_1301_c2 hN hJ.1) ?_
          rintro _ ⟨x6, M3, rfl, h7, h8, hJ4, hq5⟩
          have hJ9 := zJ_trans hJ hJ4 (zSub_cons (fun _ _ h h' hk => zIR_e (by omega) (by omega) hk) (zSub_cons (fun _ _ h h' hk => zIR_s (zIR_e (by omega) (by omega) hk)) (zSub_cons (fun _ _ h h' hk => zIR_s (zIR_s (zIR_e (by omega) (by omega) hk))) (zSub_cons (fun _ _ h h' hk => zIR_s (zIR_s (zIR_s (zIR_e (by omega) (by omega) hk)))) (zSub_cons (fun _ _ h h' hk => zIR_s (zIR_s (zIR_s (zIR_s (zIR_a (by omega) (by omega)))))) (zSub_cons (fun _ _ h h' hk => zIR_s (zIR_s (zIR_s (zIR_s (zIR_s (zIR_a (by omega) (by omega))))))) (zSub_cons (fun _ _ h h' hk => zIR_s (zIR_s (zIR_s (zIR_s (zIR_s (zIR_s (zIR_e (by omega) (by omega) hk))))))) zSub_nil)))))))
          show ZW _ _ _ _ _ _ _ (23, [some (.ref 2), some (.int 2), some (.int v11_2), some (.int v11_3)], [.int x6], M3)
          rcases Int.decEq x6.toInt (0 : Int) with h10 | h10
          · skip
            refine w_ine_t dX5_readTest_23 (t := 28) rfl (by omega) ?_
            refine w_lo dX5_readTest_28 rfl rfl rfl rfl ?_
            rcases zcut (0 : Int) v11_3.toInt with h11 | h11
            · skip
              refine w_ile_f dX5_readTest_29 (t := 44) rfl (by omega) ?_
              refine w_lo dX5_readTest_32 rfl rfl rfl rfl ?_
              obtain ⟨b12, f13, h14⟩ := zd_2_8 hJ9.1
              have h15 := zDm_b h14
              refine w_gf dX5_readTest_33 rfl hJ9.1.1 zs_2 f13 ?_
              refine w_gf dX5_readTest_36 rfl hJ9.1.1 (zs_1_0 h14) (zr_1_0_15 h14 hJ9.1) ?_
              refine w_bi dX5_readTest_39 (c := (-17)) (by decide) ?_
              refine w_iv dX5_readTest_41 rfl rfl (As := [.int (-17)]) rfl rfl hJ9.1.1 (zs_1_13 h14) (Nat.le_of_ble_eq_true rfl) ?_
              refine ZV.imp (k_515 (b12 + 13) (zLw_of h14) (-17) hN hJ9.1) ?_
              rintro _ ⟨M16, rfl, hJ17, hq18⟩
              have hJ19 := zJ_trans hJ9 hJ17 (zSub_cons (fun _ _ h h' hk => ((zDm_or h14).elim (fun e => zIR_s (zIR_s (zIR_e (by omega) (by omega) hk))) (fun e => zIR_s (zIR_s (zIR_s (zIR_e (by omega) (by omega) hk)))))) (zSub_cons (fun _ _ h h' hk => ((zDm_or h14).elim (fun e => zIR_s (zIR_s (zIR_s (zIR_s (zIR_a (by omega) (by omega)))))) (fun e => zIR_s (zIR_s (zIR_s (zIR_s (zIR_s (zIR_a (by omega) (by omega))))))))) zSub_nil))
              show ZW _ _ _ _ _ _ _ (44, [some (.ref 2), some (.int 2), some (.int v11_2), some (.int v11_3)], [], M16)
              exact ih44 M16 v11_2 v11_3 hJ19 (by omega) (by omega) (by omega) (by omega) (by have := zt_2; omega)
            · skip
              refine w_ile_t dX5_readTest_29 (t := 44) rfl (by omega) ?_
              exact ih44 M3 v11_2 v11_3 hJ9 (by omega) (by omega) (by omega) (by omega) (by have := zt_2; omega)
          · skip
            refine w_ine_f dX5_readTest_23 (t := 28) rfl (by omega) ?_
            refine w_ic dX5_readTest_26 zi_0 ?_
            refine w_en dX5_readTest_27 rfl ?_
            exact ⟨_, _, rfl, (by have := zt_0; omega), (by have := zt_0; omega), hJ9, trivial⟩
      · intro M v44_2 v44_3 hJ v44_20 v44_21 v44_30 v44_31 hn
        refine w_lo dX5_readTest_44 rfl rfl rfl rfl ?_
        refine w_iv dX5_readTest_45 rfl rfl (As := []) rfl rfl hJ.1.1 zs_2 (Nat.le_of_ble_eq_true rfl) ?_
        refine ZV.imp (k_1287 hN hJ.1) ?_
        rintro _ ⟨x23, M20, rfl, h24, h25, hJ21, hq22⟩
        have hJ26 := zJ_trans hJ hJ21 zSub_nil
        show ZW _ _ _ _ _ _ _ (48, [some (.ref 2), some (.int 2), some (.int v44_2), some (.int v44_3)], [.int x23], M20)
        refine w_bi dX5_readTest_48 (c := 22) (by decide) ?_
        rcases Int.decEq x23.toInt (22 : Int) with h27 | h27
        · skip
          refine w_ceq_f dX5_readTest_50 (t := 56) rfl (by have := zt_22; omega) ?_
          refine w_gt dX5_readTest_53 (t := 66) rfl ?_
          exact ih66 M20 v44_2 v44_3 hJ26 (by omega) (by omega) (by have := zt_2; omega)
        · skip
          refine w_ceq_t dX5_readTest_50 (t := 56) rfl (by have := zt_22; omega) ?_
          refine w_lo dX5_readTest_56 rfl rfl rfl rfl ?_
          refine w_iv dX5_readTest_57 rfl rfl (As := []) rfl rfl hJ26.1.1 zs_2 (Nat.le_of_ble_eq_true rfl) ?_
          refine ZV.imp (k_1289 hN hJ26.1) ?_
          rintro _ ⟨M28, rfl, hJ29, hq30⟩
          have hJ31 := zJ_trans hJ26 hJ29 (zSub_cons (fun _ _ h h' hk => zIR_s (zIR_s (zIR_s (zIR_s (zIR_s (zIR_s (zIR_e (by omega) (by omega) hk))))))) zSub_nil)
          show ZW _ _ _ _ _ _ _ (60, [some (.ref 2), some (.int 2), some (.int v44_2), some (.int v44_3)], [], M28)
          refine w_inc (kk := 3) dX5_readTest_60 rfl (m := 1) (by decide) (by omega) ?_
          intro x32 h33
          refine ⟨_, rfl, ?_⟩
          show ZW _ _ _ _ _ _ _ (63, [some (.ref 2), some (.int 2), some (.int v44_2), some (.int x32)], [], M28)
          refine w_gt dX5_readTest_63 (t := 11) rfl ?_
          exact ih11 M28 v44_2 x32 hJ31 (by omega) (by omega) (by omega) (by omega) (by have := zt_2; omega)
      · intro M v66_2 u66_3 hJ v66_20 v66_21 hn
        refine w_lo dX5_readTest_66 rfl rfl rfl rfl ?_
        rcases zcut (0 : Int) v66_2.toInt with h34 | h34
        · skip
          refine w_ile_f dX5_readTest_67 (t := 82) rfl (by omega) ?_
          refine w_lo dX5_readTest_70 rfl rfl rfl rfl ?_
          obtain ⟨b35, f36, h37⟩ := zd_2_8 hJ.1
          have h38 := zDm_b h37
          refine w_gf dX5_readTest_71 rfl hJ.1.1 zs_2 f36 ?_
          refine w_gf dX5_readTest_74 rfl hJ.1.1 (zs_1_0 h37) (zr_1_0_15 h37 hJ.1) ?_
          refine w_bi dX5_readTest_77 (c := (-18)) (by decide) ?_
          refine w_iv dX5_readTest_79 rfl rfl (As := [.int (-18)]) rfl rfl hJ.1.1 (zs_1_13 h37) (Nat.le_of_ble_eq_true rfl) ?_
          refine ZV.imp (k_515 (b35 + 13) (zLw_of h37) (-18) hN hJ.1) ?_
          rintro _ ⟨M39, rfl, hJ40, hq41⟩
          have hJ42 := zJ_trans hJ hJ40 (zSub_cons (fun _ _ h h' hk => ((zDm_or h37).elim (fun e => zIR_s (zIR_s (zIR_e (by omega) (by omega) hk))) (fun e => zIR_s (zIR_s (zIR_s (zIR_e (by omega) (by omega) hk)))))) (zSub_cons (fun _ _ h h' hk => ((zDm_or h37).elim (fun e => zIR_s (zIR_s (zIR_s (zIR_s (zIR_a (by omega) (by omega)))))) (fun e => zIR_s (zIR_s (zIR_s (zIR_s (zIR_s (zIR_a (by omega) (by omega))))))))) zSub_nil))
          show ZW _ _ _ _ _ _ _ (82, [some (.ref 2), some (.int 2), some (.int v66_2), some (.int u66_3)], [], M39)
          refine w_lo dX5_readTest_82 rfl rfl rfl rfl ?_
          refine w_iv dX5_readTest_83 rfl rfl (As := []) rfl rfl hJ42.1.1 zs_2 (Nat.le_of_ble_eq_true rfl) ?_
          refine ZV.imp (k_1287 hN hJ42.1) ?_
          rintro _ ⟨x46, M43, rfl, h47, h48, hJ44, hq45⟩
          have hJ49 := zJ_trans hJ42 hJ44 zSub_nil
          show ZW _ _ _ _ _ _ _ (86, [some (.ref 2), some (.int 2), some (.int v66_2), some (.int u66_3)], [.int x46], M43)
          refine w_bi dX5_readTest_86 (c := 21) (by decide) ?_
          rcases Int.decEq x46.toInt (21 : Int) with h50 | h50
          · skip
            refine w_ceq_f dX5_readTest_88 (t := 94) rfl (by have := zt_21; omega) ?_
            refine w_gt dX5_readTest_91 (t := 104) rfl ?_
            refine w_ic dX5_readTest_104 zi_1 ?_
            refine w_en dX5_readTest_105 rfl ?_
            exact ⟨_, _, rfl, (by have := zt_1; omega), (by have := zt_1; omega), hJ49, trivial⟩
          · skip
            refine w_ceq_t dX5_readTest_88 (t := 94) rfl (by have := zt_21; omega) ?_
            refine w_lo dX5_readTest_94 rfl rfl rfl rfl ?_
            refine w_iv dX5_readTest_95 rfl rfl (As := []) rfl rfl hJ49.1.1 zs_2 (Nat.le_of_ble_eq_true rfl) ?_
            refine ZV.imp (k_1289 hN hJ49.1) ?_
            rintro _ ⟨M51, rfl, hJ52, hq53⟩
            have hJ54 := zJ_trans hJ49 hJ52 (zSub_cons (fun _ _ h h' hk => zIR_s (zIR_s (zIR_s (zIR_s (zIR_s (zIR_s (zIR_e (by omega) (by omega) hk))))))) zSub_nil)
            show ZW _ _ _ _ _ _ _ (98, [some (.ref 2), some (.int 2), some (.int v66_2), some (.int u66_3)], [], M51)
            refine w_inc (kk := 2) dX5_readTest_98 rfl (m := 1) (by decide) (by omega) ?_
            intro x55 h56
            refine ⟨_, rfl, ?_⟩
            show ZW _ _ _ _ _ _ _ (101, [some (.ref 2), some (.int 2), some (.int x55), some (.int u66_3)], [], M51)
            refine w_gt dX5_readTest_101 (t := 2) rfl ?_
            exact ih2 M51 x55 (some (.int u66_3)) hJ54 (by omega) (by omega) (by have := zt_2; omega)
        · skip
          refine w_ile_t dX5_readTest_67 (t := 82) rfl (by omega) ?_
          refine w_lo dX5_readTest_82 rfl rfl rfl rfl ?_
          refine w_iv dX5_readTest_83 rfl rfl (As := []) rfl rfl hJ.1.1 zs_2 (Nat.le_of_ble_eq_true rfl) ?_
          refine ZV.imp (k_1287 hN hJ.1) ?_
          rintro _ ⟨x60, M57, rfl, h61, h62, hJ58, hq59⟩
          have hJ63 := zJ_trans hJ hJ58 zSub_nil
          show ZW _ _ _ _ _ _ _ (86, [some (.ref 2), some (.int 2), some (.int v66_2), some (.int u66_3)], [.int x60], M57)
          refine w_bi dX5_readTest_86 (c := 21) (by decide) ?_
          rcases Int.decEq x60.toInt (21 : Int) with h64 | h64
          · skip
            refine w_ceq_f dX5_readTest_88 (t := 94) rfl (by have := zt_21; omega) ?_
            refine w_gt dX5_readTest_91 (t := 104) rfl ?_
            refine w_ic dX5_readTest_104 zi_1 ?_
            refine w_en dX5_readTest_105 rfl ?_
            exact ⟨_, _, rfl, (by have := zt_1; omega), (by have := zt_1; omega), hJ63, trivial⟩
          · skip
            refine w_ceq_t dX5_readTest_88 (t := 94) rfl (by have := zt_21; omega) ?_
            refine w_lo dX5_readTest_94 rfl rfl rfl rfl ?_
            refine w_iv dX5_readTest_95 rfl rfl (As := []) rfl rfl hJ63.1.1 zs_2 (Nat.le_of_ble_eq_true rfl) ?_
            refine ZV.imp (k_1289 hN hJ63.1) ?_
            rintro _ ⟨M65, rfl, hJ66, hq67⟩
            have hJ68 := zJ_trans hJ63 hJ66 (zSub_cons (fun _ _ h h' hk => zIR_s (zIR_s (zIR_s (zIR_s (zIR_s (zIR_s (zIR_e (by omega) (by omega) hk))))))) zSub_nil)
            show ZW _ _ _ _ _ _ _ (98, [some (.ref 2), some (.int 2), some (.int v66_2), some (.int u66_3)], [], M65)
            refine w_inc (kk := 2) dX5_readTest_98 rfl (m := 1) (by decide) (by omega) ?_
            intro x69 h70
            refine ⟨_, rfl, ?_⟩
            show ZW _ _ _ _ _ _ _ (101, [some (.ref 2), some (.int 2), some (.int x69), some (.int u66_3)], [], M65)
            refine w_gt dX5_readTest_101 (t := 2) rfl ?_
            exact ih2 M65 x69 (some (.int u66_3)) hJ68 (by omega) (by omega) (by have := zt_2; omega)
  obtain ⟨ih2, ih11, ih44, ih66⟩ := main 15436899
  show ZW _ _ _ _ _ _ _ (0, [some (.ref 2), some (.int 2), none, none], [], M0)
  refine w_ic dX5_readTest_0 zi_0 ?_
  refine w_lo (ml' := [some (.ref 2), some (.int 2), some (.int 0), none]) dX5_readTest_1 rfl rfl rfl rfl ?_
  exact ih2 M0 0 none hJ0 (by have := zt_0; omega) (by have := zt_0; omega) (by have := zt_2; have := zt_0; omega)
set_option maxRecDepth 100000 in
theorem k_1301_c1 {X : List Int32} {d N : Nat} {M0 : zM}  (hN : N ≤ 600) (hB0 : zB N M0) : ZV X (d + 18) 1301 [.ref 2, .int 1] M0 (zRI N [(2, 3, 0), (2, 3, 1), (20, 21, 1), (41, 42, 1), (21, 22, 1000), (42, 43, 1000), (2, 3, 7)] M0 (0) (1) (fun _ _ => True)) := by
  have hJ0 : zJ N [(2, 3, 0), (2, 3, 1), (20, 21, 1), (41, 42, 1), (21, 22, 1000), (42, 43, 1000), (2, 3, 7)] M0 M0 := zJ_refl hB0
  refine ZV.of (ini := false) rfl (Nat.le_of_ble_eq_true rfl) (by decide +kernel) ?_
  have main : ∀ n : Nat,
      (∀ (M : zM) (v2_2 : Int32) (o2_3 : Option Value), zJ N [(2, 3, 0), (2, 3, 1), (20, 21, 1), (41, 42, 1), (21, 22, 1000), (42, 43, 1000), (2, 3, 7)] M0 M → ((0 : Int) ≤ v2_2.toInt) → (v2_2.toInt ≤ 1601) → 5 * (1601 - v2_2.toInt) + 3 < (n : Int) → ZW X (d + 17) 5 false (some .boolean) cX5_readFact (zRI N [(2, 3, 0), (2, 3, 1), (20, 21, 1), (41, 42, 1), (21, 22, 1000), (42, 43, 1000), (2, 3, 7)] M0 (0) (1) (fun _ _ => True)) (2, [some (.ref 2), some (.int 1), some (.int v2_2), o2_3], [], M)) ∧
      (∀ (M : zM) (v28_2 : Int32) (o28_3 : Option Value), zJ N [(2, 3, 0), (2, 3, 1), (20, 21, 1), (41, 42, 1), (21, 22, 1000), (42, 43, 1000), (2, 3, 7)] M0 M → ((0 : Int) ≤ v28_2.toInt) → (v28_2.toInt ≤ 1601) → 2 < (n : Int) → ZW X (d + 17) 5 false (some .boolean) cX5_readFact (zRI N [(2, 3, 0), (2, 3, 1), (20, 21, 1), (41, 42, 1), (21, 22, 1000), (42, 43, 1000), (2, 3, 7)] M0 (0) (1) (fun _ _ => True)) (28, [some (.ref 2), some (.int 1), some (.int v28_2), o28_3], [], M)) ∧
      (∀ (M : zM) (v167_2 : Int32) (o167_3 : Option Value) (s167_0 : Int32), zJ N [(2, 3, 0), (2, 3, 1), (20, 21, 1), (41, 42, 1), (21, 22, 1000), (42, 43, 1000), (2, 3, 7)] M0 M → ((0 : Int) ≤ v167_2.toInt) → (v167_2.toInt ≤ 1601) → ((-16 : Int) ≤ s167_0.toInt) → (s167_0.toInt ≤ 0) → 1 < (n : Int) → ZW X (d + 17) 5 false (some .boolean) cX5_readFact (zRI N [(2, 3, 0), (2, 3, 1), (20, 21, 1), (41, 42, 1), (21, 22, 1000), (42, 43, 1000), (2, 3, 7)] M0 (0) (1) (fun _ _ => True)) (167, [some (.ref 2), some (.int 1), some (.int v167_2), o167_3], [.int s167_0], M)) := by
    intro n
    induction n with
    | zero =>
      exact ⟨(fun M v2_2 o2_3 hJ v2_20 v2_21 hn => absurd hn (by omega)), (fun M v28_2 o28_3 hJ v28_20 v28_21 hn => absurd hn (by omega)), (fun M v167_2 o167_3 s167_0 hJ v167_20 v167_21 s167_00 s167_01 hn => absurd hn (by omega))⟩
    | succ n ih =>
      obtain ⟨ih2, ih28, ih167⟩ := ih
      refine ⟨?_, ?_, ?_⟩
      · intro M v2_2 o2_3 hJ v2_20 v2_21 hn
        refine w_lo dX5_readFact_2 rfl rfl rfl rfl ?_
        refine w_si dX5_readFact_3 (c := 1600) (by decide) ?_
        rcases zcut (1600 : Int) v2_2.toInt with h1 | h1
        · skip
          refine w_cgt_t dX5_readFact_6 (t := 28) rfl (by have := zt_1600; omega) ?_
          exact ih28 M v2_2 o2_3 hJ (by omega) (by omega) (by have := zt_1; omega)
        · skip
          refine w_cgt_f dX5_readFact_6 (t := 28) rfl (by have := zt_1600; omega) ?_
          refine w_lo dX5_readFact_9 rfl rfl rfl rfl ?_
          refine w_iv dX5_readFact_10 rfl rfl (As := []) rfl rfl hJ.1.1 zs_2 (Nat.le_of_ble_eq_true rfl) ?_
          refine ZV.imp (k_1287 hN hJ.1) ?_
          rintro _ ⟨x5, M2, rfl, h6, h7, hJ3, hq4⟩
          have hJ8 := zJ_trans hJ hJ3 zSub_nil
          show ZW _ _ _ _ _ _ _ (13, [some (.ref 2), some (.int 1), some (.int v2_2), o2_3], [.int x5], M2)
          refine w_bi dX5_readFact_13 (c := 23) (by decide) ?_
          rcases Int.decEq x5.toInt (23 : Int) with h9 | h9
          · skip
            refine w_cne_t dX5_readFact_15 (t := 28) rfl (by have := zt_23; omega) ?_
            exact ih28 M2 v2_2 o2_3 hJ8 (by omega) (by omega) (by have := zt_1; omega)
          · skip
            refine w_cne_f dX5_readFact_15 (t := 28) rfl (by have := zt_23; omega) ?_
            refine w_lo dX5_readFact_18 rfl rfl rfl rfl ?_
            refine w_iv dX5_readFact_19 rfl rfl (As := []) rfl rfl hJ8.1.1 zs_2 (Nat.le_of_ble_eq_true rfl) ?_
            refine ZV.imp (k_1289 hN hJ8.1) ?_
            rintro _ ⟨M10, rfl, hJ11, hq12⟩
            have hJ13 := zJ_trans hJ8 hJ11 (zSub_cons (fun _ _ h h' hk => zIR_s (zIR_s (zIR_s (zIR_s (zIR_s (zIR_s (zIR_e (by omega) (by omega) hk))))))) zSub_nil)
            show ZW _ _ _ _ _ _ _ (22, [some (.ref 2), some (.int 1), some (.int v2_2), o2_3], [], M10)
            refine w_inc (kk := 2) dX5_readFact_22 rfl (m := 1) (by decide) (by omega) ?_
            intro x14 h15
            refine ⟨_, rfl, ?_⟩
            show ZW _ _ _ _ _ _ _ (25, [some (.ref 2), some (.int 1), some (.int x14), o2_3], [], M10)
            refine w_gt dX5_readFact_25 (t := 2) rfl ?_
            exact ih2 M10 x14 o2_3 hJ13 (by omega) (by omega) (by have := zt_1; omega)
      · intro M v28_2 o28_3 hJ v28_20 v28_21 hn
        refine w_lo dX5_readFact_28 rfl rfl rfl rfl ?_
        refine w_bi dX5_readFact_29 (c := 91) (by decide) ?_
        refine w_iv dX5_readFact_31 rfl rfl (As := [.int 91]) rfl rfl hJ.1.1 zs_2 (Nat.le_of_ble_eq_true rfl) ?_
        refine ZV.imp (k_1299 91 (by have := zt_91; omega) (by have := zt_91; omega) hN hJ.1) ?_
        rintro _ ⟨x19, M16, rfl, h20, h21, hJ17, hq18⟩
        have hJ22 := zJ_trans hJ hJ17 zSub_nil
        show ZW _ _ _ _ _ _ _ (34, [some (.ref 2), some (.int 1), some (.int v28_2), o28_3], [.int x19], M16)
        rcases Int.decEq x19.toInt (0 : Int) with h23 | h23
        · skip
          refine w_ieq_f dX5_readFact_34 (t := 87) rfl (by omega) ?_
          refine w_lo dX5_readFact_37 rfl rfl rfl rfl ?_
          refine w_bi dX5_readFact_38 (c := 8) (by decide) ?_
          refine w_clt_t dX5_readFact_40 (t := 49) rfl (by have := zt_1; have := zt_8; omega) ?_
          refine w_lo dX5_readFact_49 rfl rfl rfl rfl ?_
          refine w_iv dX5_readFact_50 rfl rfl (As := []) rfl rfl hJ22.1.1 zs_2 (Nat.le_of_ble_eq_true rfl) ?_
          refine ZV.imp (k_1289 hN hJ22.1) ?_
          rintro _ ⟨M24, rfl, hJ25, hq26⟩
          have hJ27 := zJ_trans hJ22 hJ25 (zSub_cons (fun _ _ h h' hk => zIR_s (zIR_s (zIR_s (zIR_s (zIR_s (zIR_s (zIR_e (by omega) (by omega) hk))))))) zSub_nil)
          show ZW _ _ _ _ _ _ _ (53, [some (.ref 2), some (.int 1), some (.int v28_2), o28_3], [], M24)
          refine w_lo dX5_readFact_53 rfl rfl rfl rfl ?_
          refine w_lo dX5_readFact_54 rfl rfl rfl rfl ?_
          refine w_ic dX5_readFact_55 zi_1 ?_
          refine w_pu (st' := [.int 2, .ref 2]) dX5_readFact_56 rfl rfl ?_
          refine w_iv dX5_readFact_57 rfl rfl (As := [.int 2]) rfl rfl hJ27.1.1 zs_2 (Nat.le_of_ble_eq_true rfl) ?_
          refine ZV.imp (k_1300_c2 hN hJ27.1) ?_
          rintro _ ⟨x31, M28, rfl, h32, h33, hJ29, hq30⟩
          have hJ34 := zJ_trans hJ27 hJ29 (zSub_cons (fun _ _ h h' hk => zIR_e (by omega) (by omega) hk) (zSub_cons (fun _ _ h h' hk => zIR_s (zIR_e (by omega) (by omega) hk)) (zSub_cons (fun _ _ h h' hk => zIR_s (zIR_s (zIR_e (by omega) (by omega) hk))) (zSub_cons (fun _ _ h h' hk => zIR_s (zIR_s (zIR_s (zIR_e (by omega) (by omega) hk)))) (zSub_cons (fun _ _ h h' hk => zIR_s (zIR_s (zIR_s (zIR_s (zIR_a (by omega) (by omega)))))) (zSub_cons (fun _ _ h h' hk => zIR_s (zIR_s (zIR_s (zIR_s (zIR_s (zIR_a (by omega) (by omega))))))) (zSub_cons (fun _ _ h h' hk => zIR_s (zIR_s (zIR_s (zIR_s (zIR_s (zIR_s (zIR_e (by omega) (by omega) hk))))))) zSub_nil)))))))
          show ZW _ _ _ _ _ _ _ (60, [some (.ref 2), some (.int 1), some (.int v28_2), o28_3], [.int x31], M28)
          rcases Int.decEq x31.toInt (0 : Int) with h35 | h35
          · skip
            refine w_ine_t dX5_readFact_60 (t := 65) rfl (by omega) ?_
            refine w_lo dX5_readFact_65 rfl rfl rfl rfl ?_
            refine w_bi dX5_readFact_66 (c := 93) (by decide) ?_
            refine w_iv dX5_readFact_68 rfl rfl (As := [.int 93]) rfl rfl hJ34.1.1 zs_2 (Nat.le_of_ble_eq_true rfl) ?_
            refine ZV.imp (k_1299 93 (by have := zt_93; omega) (by have := zt_93; omega) hN hJ34.1) ?_
            rintro _ ⟨x39, M36, rfl, h40, h41, hJ37, hq38⟩
            have hJ42 := zJ_trans hJ34 hJ37 zSub_nil
            show ZW _ _ _ _ _ _ _ (71, [some (.ref 2), some (.int 1), some (.int v28_2), o28_3], [.int x39], M36)
            rcases Int.decEq x39.toInt (0 : Int) with h43 | h43
            · skip
              refine w_ine_t dX5_readFact_71 (t := 80) rfl (by omega) ?_
              refine w_lo dX5_readFact_80 rfl rfl rfl rfl ?_
              refine w_iv dX5_readFact_81 rfl rfl (As := []) rfl rfl hJ42.1.1 zs_2 (Nat.le_of_ble_eq_true rfl) ?_
              refine ZV.imp (k_1289 hN hJ42.1) ?_
              rintro _ ⟨M44, rfl, hJ45, hq46⟩
              have hJ47 := zJ_trans hJ42 hJ45 (zSub_cons (fun _ _ h h' hk => zIR_s (zIR_s (zIR_s (zIR_s (zIR_s (zIR_s (zIR_e (by omega) (by omega) hk))))))) zSub_nil)
              show ZW _ _ _ _ _ _ _ (84, [some (.ref 2), some (.int 1), some (.int v28_2), o28_3], [], M44)
              refine w_gt dX5_readFact_84 (t := 203) rfl ?_
              refine w_lo dX5_readFact_203 rfl rfl rfl rfl ?_
              refine w_ic dX5_readFact_204 zi_2 ?_
              refine w_remP dX5_readFact_205 (by omega) (by have := zt_2; omega) ?_
              intro x48 h49 h50 h51
              have := zt_2
              refine w_ic dX5_readFact_206 zi_1 ?_
              rcases Int.decEq x48.toInt (1 : Int) with h52 | h52
              · skip
                refine w_cne_t dX5_readFact_207 (t := 222) rfl (by have := zt_1; omega) ?_
                refine w_ic dX5_readFact_222 zi_1 ?_
                refine w_en dX5_readFact_223 rfl ?_
                exact ⟨_, _, rfl, (by have := zt_1; omega), (by have := zt_1; omega), hJ47, trivial⟩
              · skip
                refine w_cne_f dX5_readFact_207 (t := 222) rfl (by have := zt_1; omega) ?_
                refine w_lo dX5_readFact_210 rfl rfl rfl rfl ?_
                obtain ⟨b53, f54, h55⟩ := zd_2_8 hJ47.1
                have h56 := zDm_b h55
                refine w_gf dX5_readFact_211 rfl hJ47.1.1 zs_2 f54 ?_
                refine w_gf dX5_readFact_214 rfl hJ47.1.1 (zs_1_0 h55) (zr_1_0_15 h55 hJ47.1) ?_
                refine w_bi dX5_readFact_217 (c := (-8)) (by decide) ?_
                refine w_iv dX5_readFact_219 rfl rfl (As := [.int (-8)]) rfl rfl hJ47.1.1 (zs_1_13 h55) (Nat.le_of_ble_eq_true rfl) ?_
                refine ZV.imp (k_515 (b53 + 13) (zLw_of h55) (-8) hN hJ47.1) ?_
                rintro _ ⟨M57, rfl, hJ58, hq59⟩
                have hJ60 := zJ_trans hJ47 hJ58 (zSub_cons (fun _ _ h h' hk => ((zDm_or h55).elim (fun e => zIR_s (zIR_s (zIR_e (by omega) (by omega) hk))) (fun e => zIR_s (zIR_s (zIR_s (zIR_e (by omega) (by omega) hk)))))) (zSub_cons (fun _ _ h h' hk => ((zDm_or h55).elim (fun e => zIR_s (zIR_s (zIR_s (zIR_s (zIR_a (by omega) (by omega)))))) (fun e => zIR_s (zIR_s (zIR_s (zIR_s (zIR_s (zIR_a (by omega) (by omega))))))))) zSub_nil))
                show ZW _ _ _ _ _ _ _ (222, [some (.ref 2), some (.int 1), some (.int v28_2), o28_3], [], M57)
                refine w_ic dX5_readFact_222 zi_1 ?_
                refine w_en dX5_readFact_223 rfl ?_
                exact ⟨_, _, rfl, (by have := zt_1; omega), (by have := zt_1; omega), hJ60, trivial⟩
            · skip
              refine w_ine_f dX5_readFact_71 (t := 80) rfl (by omega) ?_
              refine w_lo dX5_readFact_74 rfl rfl rfl rfl ?_
              refine w_ic dX5_readFact_75 zi_1 ?_
              refine w_iv dX5_readFact_76 rfl rfl (As := [.int 1]) rfl rfl hJ42.1.1 zs_2 (Nat.le_of_ble_eq_true rfl) ?_
              refine ZV.imp (k_1286 1 (by have := zt_1; omega) (by have := zt_1; omega) hN hJ42.1) ?_
              rintro _ ⟨x64, M61, rfl, h65, h66, hJ62, hq63⟩
              have hJ67 := zJ_trans hJ42 hJ62 (zSub_cons (fun _ _ h h' hk => zIR_e (by omega) (by omega) hk) (zSub_cons (fun _ _ h h' hk => zIR_s (zIR_e (by omega) (by omega) hk)) zSub_nil))
              show ZW _ _ _ _ _ _ _ (79, [some (.ref 2), some (.int 1), some (.int v28_2), o28_3], [.int x64], M61)
              refine w_eni dX5_readFact_79 rfl (znb (by omega) (by omega)) ?_
              exact ⟨_, _, rfl, (by omega), (by omega), hJ67, trivial⟩
          · skip
            refine w_ine_f dX5_readFact_60 (t := 65) rfl (by omega) ?_
            refine w_ic dX5_readFact_63 zi_0 ?_
            refine w_en dX5_readFact_64 rfl ?_
            exact ⟨_, _, rfl, (by have := zt_0; omega), (by have := zt_0; omega), hJ34, trivial⟩
        · skip
          refine w_ieq_t dX5_readFact_34 (t := 87) rfl (by omega) ?_
          refine w_lo dX5_readFact_87 rfl rfl rfl rfl ?_
          refine w_iv dX5_readFact_88 rfl rfl (As := []) rfl rfl hJ22.1.1 zs_2 (Nat.le_of_ble_eq_true rfl) ?_
          refine ZV.imp (k_1287 hN hJ22.1) ?_
          rintro _ ⟨x71, M68, rfl, h72, h73, hJ69, hq70⟩
          have hJ74 := zJ_trans hJ22 hJ69 zSub_nil
          show ZW _ _ _ _ _ _ _ (91, [some (.ref 2), some (.int 1), some (.int v28_2), o28_3], [.int x71], M68)
          refine w_bi dX5_readFact_91 (c := 24) (by decide) ?_
          rcases Int.decEq x71.toInt (24 : Int) with h75 | h75
          · skip
            refine w_cne_t dX5_readFact_93 (t := 114) rfl (by have := zt_24; omega) ?_
            refine w_lo dX5_readFact_114 rfl rfl rfl rfl ?_
            refine w_lo dX5_readFact_115 rfl rfl rfl rfl ?_
            refine w_iv dX5_readFact_116 rfl rfl (As := [.int 1]) rfl rfl hJ74.1.1 zs_2 (Nat.le_of_ble_eq_true rfl) ?_
            refine ZV.imp (k_1297_c1 hN hJ74.1) ?_
            rintro _ ⟨x79, M76, rfl, h80, h81, hJ77, hq78⟩
            have hJ82 := zJ_trans hJ74 hJ77 (zSub_cons (fun _ _ h h' hk => zIR_e (by omega) (by omega) hk) (zSub_cons (fun _ _ h h' hk => zIR_s (zIR_e (by omega) (by omega) hk)) (zSub_cons (fun _ _ h h' hk => zIR_s (zIR_s (zIR_e (by omega) (by omega) hk))) (zSub_cons (fun _ _ h h' hk => zIR_s (zIR_s (zIR_s (zIR_e (by omega) (by omega) hk)))) (zSub_cons (fun _ _ h h' hk => zIR_s (zIR_s (zIR_s (zIR_s (zIR_a (by omega) (by omega)))))) (zSub_cons (fun _ _ h h' hk => zIR_s (zIR_s (zIR_s (zIR_s (zIR_s (zIR_a (by omega) (by omega))))))) (zSub_cons (fun _ _ h h' hk => zIR_s (zIR_s (zIR_s (zIR_s (zIR_s (zIR_s (zIR_e (by omega) (by omega) hk))))))) zSub_nil)))))))
            show ZW _ _ _ _ _ _ _ (119, [some (.ref 2), some (.int 1), some (.int v28_2), o28_3], [.int x79], M76)
            rcases Int.decEq x79.toInt (0 : Int) with h83 | h83
            · skip
              refine w_ine_t dX5_readFact_119 (t := 124) rfl (by omega) ?_
              refine w_lo dX5_readFact_124 rfl rfl rfl rfl ?_
              refine w_bi dX5_readFact_125 (c := 60) (by decide) ?_
              refine w_iv dX5_readFact_127 rfl rfl (As := [.int 60]) rfl rfl hJ82.1.1 zs_2 (Nat.le_of_ble_eq_true rfl) ?_
              refine ZV.imp (k_1299 60 (by have := zt_60; omega) (by have := zt_60; omega) hN hJ82.1) ?_
              rintro _ ⟨x87, M84, rfl, h88, h89, hJ85, hq86⟩
              have hJ90 := zJ_trans hJ82 hJ85 zSub_nil
              show ZW _ _ _ _ _ _ _ (130, [some (.ref 2), some (.int 1), some (.int v28_2), o28_3], [.int x87], M84)
              rcases Int.decEq x87.toInt (0 : Int) with h91 | h91
              · skip
                refine w_ieq_f dX5_readFact_130 (t := 138) rfl (by omega) ?_
                refine w_bi dX5_readFact_133 (c := (-14)) (by decide) ?_
                refine w_gt dX5_readFact_135 (t := 167) rfl ?_
                exact ih167 M84 v28_2 o28_3 (-14) hJ90 (by omega) (by omega) (by have := zt_m14; omega) (by have := zt_m14; omega) (by have := zt_1; have := zt_m14; omega)
              · skip
                refine w_ieq_t dX5_readFact_130 (t := 138) rfl (by omega) ?_
                refine w_lo dX5_readFact_138 rfl rfl rfl rfl ?_
                refine w_bi dX5_readFact_139 (c := 62) (by decide) ?_
                refine w_iv dX5_readFact_141 rfl rfl (As := [.int 62]) rfl rfl hJ90.1.1 zs_2 (Nat.le_of_ble_eq_true rfl) ?_
                refine ZV.imp (k_1299 62 (by have := zt_62; omega) (by have := zt_62; omega) hN hJ90.1) ?_
                rintro _ ⟨x95, M92, rfl, h96, h97, hJ93, hq94⟩
                have hJ98 := zJ_trans hJ90 hJ93 zSub_nil
                show ZW _ _ _ _ _ _ _ (144, [some (.ref 2), some (.int 1), some (.int v28_2), o28_3], [.int x95], M92)
                rcases Int.decEq x95.toInt (0 : Int) with h99 | h99
                · skip
                  refine w_ieq_f dX5_readFact_144 (t := 152) rfl (by omega) ?_
                  refine w_bi dX5_readFact_147 (c := (-15)) (by decide) ?_
                  refine w_gt dX5_readFact_149 (t := 167) rfl ?_
                  exact ih167 M92 v28_2 o28_3 (-15) hJ98 (by omega) (by omega) (by have := zt_m15; omega) (by have := zt_m15; omega) (by have := zt_1; have := zt_m15; omega)
                · skip
                  refine w_ieq_t dX5_readFact_144 (t := 152) rfl (by omega) ?_
                  refine w_lo dX5_readFact_152 rfl rfl rfl rfl ?_
                  refine w_bi dX5_readFact_153 (c := 61) (by decide) ?_
                  refine w_iv dX5_readFact_155 rfl rfl (As := [.int 61]) rfl rfl hJ98.1.1 zs_2 (Nat.le_of_ble_eq_true rfl) ?_
                  refine ZV.imp (k_1299 61 (by have := zt_61; omega) (by have := zt_61; omega) hN hJ98.1) ?_
                  rintro _ ⟨x103, M100, rfl, h104, h105, hJ101, hq102⟩
                  have hJ106 := zJ_trans hJ98 hJ101 zSub_nil
                  show ZW _ _ _ _ _ _ _ (158, [some (.ref 2), some (.int 1), some (.int v28_2), o28_3], [.int x103], M100)
                  rcases Int.decEq x103.toInt (0 : Int) with h107 | h107
                  · skip
                    refine w_ieq_f dX5_readFact_158 (t := 166) rfl (by omega) ?_
                    refine w_bi dX5_readFact_161 (c := (-16)) (by decide) ?_
                    refine w_gt dX5_readFact_163 (t := 167) rfl ?_
                    exact ih167 M100 v28_2 o28_3 (-16) hJ106 (by omega) (by omega) (by have := zt_m16; omega) (by have := zt_m16; omega) (by have := zt_1; have := zt_m16; omega)
                  · skip
                    refine w_ieq_t dX5_readFact_158 (t := 166) rfl (by omega) ?_
                    refine w_ic dX5_readFact_166 zi_0 ?_
                    exact ih167 M100 v28_2 o28_3 0 hJ106 (by omega) (by omega) (by have := zt_0; omega) (by have := zt_0; omega) (by have := zt_1; have := zt_0; omega)
            · skip
              refine w_ine_f dX5_readFact_119 (t := 124) rfl (by omega) ?_
              refine w_ic dX5_readFact_122 zi_0 ?_
              refine w_en dX5_readFact_123 rfl ?_
              exact ⟨_, _, rfl, (by have := zt_0; omega), (by have := zt_0; omega), hJ82, trivial⟩
          · skip
            refine w_cne_f dX5_readFact_93 (t := 114) rfl (by have := zt_24; omega) ?_
            refine w_lo dX5_readFact_96 rfl rfl rfl rfl ?_
            refine w_iv dX5_readFact_97 rfl rfl (As := []) rfl rfl hJ74.1.1 zs_2 (Nat.le_of_ble_eq_true rfl) ?_
            refine ZV.imp (k_1289 hN hJ74.1) ?_
            rintro _ ⟨M108, rfl, hJ109, hq110⟩
            have hJ111 := zJ_trans hJ74 hJ109 (zSub_cons (fun _ _ h h' hk => zIR_s (zIR_s (zIR_s (zIR_s (zIR_s (zIR_s (zIR_e (by omega) (by omega) hk))))))) zSub_nil)
            show ZW _ _ _ _ _ _ _ (100, [some (.ref 2), some (.int 1), some (.int v28_2), o28_3], [], M108)
            refine w_lo dX5_readFact_100 rfl rfl rfl rfl ?_
            obtain ⟨b112, f113, h114⟩ := zd_2_8 hJ111.1
            have h115 := zDm_b h114
            refine w_gf dX5_readFact_101 rfl hJ111.1.1 zs_2 f113 ?_
            refine w_gf dX5_readFact_104 rfl hJ111.1.1 (zs_1_0 h114) (zr_1_0_15 h114 hJ111.1) ?_
            refine w_ic dX5_readFact_107 zi_1 ?_
            refine w_iv dX5_readFact_108 rfl rfl (As := [.int 1]) rfl rfl hJ111.1.1 (zs_1_13 h114) (Nat.le_of_ble_eq_true rfl) ?_
            refine ZV.imp (k_515 (b112 + 13) (zLw_of h114) 1 hN hJ111.1) ?_
            rintro _ ⟨M116, rfl, hJ117, hq118⟩
            have hJ119 := zJ_trans hJ111 hJ117 (zSub_cons (fun _ _ h h' hk => ((zDm_or h114).elim (fun e => zIR_s (zIR_s (zIR_e (by omega) (by omega) hk))) (fun e => zIR_s (zIR_s (zIR_s (zIR_e (by omega) (by omega) hk)))))) (zSub_cons (fun _ _ h h' hk => ((zDm_or h114).elim (fun e => zIR_s (zIR_s (zIR_s (zIR_s (zIR_a (by omega) (by omega)))))) (fun e => zIR_s (zIR_s (zIR_s (zIR_s (zIR_s (zIR_a (by omega) (by omega))))))))) zSub_nil))
            show ZW _ _ _ _ _ _ _ (111, [some (.ref 2), some (.int 1), some (.int v28_2), o28_3], [], M116)
            refine w_gt dX5_readFact_111 (t := 203) rfl ?_
            refine w_lo dX5_readFact_203 rfl rfl rfl rfl ?_
            refine w_ic dX5_readFact_204 zi_2 ?_
            refine w_remP dX5_readFact_205 (by omega) (by have := zt_2; omega) ?_
            intro x120 h121 h122 h123
            have := zt_2
            refine w_ic dX5_readFact_206 zi_1 ?_
            rcases Int.decEq x120.toInt (1 : Int) with h124 | h124
            · skip
              refine w_cne_t dX5_readFact_207 (t := 222) rfl (by have := zt_1; omega) ?_
              refine w_ic dX5_readFact_222 zi_1 ?_
              refine w_en dX5_readFact_223 rfl ?_
              exact ⟨_, _, rfl, (by have := zt_1; omega), (by have := zt_1; omega), hJ119, trivial⟩
            · skip
              refine w_cne_f dX5_readFact_207 (t := 222) rfl (by have := zt_1; omega) ?_
              refine w_lo dX5_readFact_210 rfl rfl rfl rfl ?_
              have f125 := (hJ117.2 (2) 8 (zNI_k (by decide) (by decide) (zNI (by omega) zNI_nil))).trans (f113)
              refine w_gf dX5_readFact_211 rfl hJ119.1.1 zs_2 f125 ?_
              refine w_gf dX5_readFact_214 rfl hJ119.1.1 (zs_1_0 h114) (zr_1_0_15 h114 hJ119.1) ?_
              refine w_bi dX5_readFact_217 (c := (-8)) (by decide) ?_
              refine w_iv dX5_readFact_219 rfl rfl (As := [.int (-8)]) rfl rfl hJ119.1.1 (zs_1_13 h114) (Nat.le_of_ble_eq_true rfl) ?_
              refine ZV.imp (k_515 (b112 + 13) (zLw_of h114) (-8) hN hJ119.1) ?_
              rintro _ ⟨M126, rfl, hJ127, hq128⟩
              have hJ129 := zJ_trans hJ119 hJ127 (zSub_cons (fun _ _ h h' hk => ((zDm_or h114).elim (fun e => zIR_s (zIR_s (zIR_e (by omega) (by omega) hk))) (fun e => zIR_s (zIR_s (zIR_s (zIR_e (by omega) (by omega) hk)))))) (zSub_cons (fun _ _ h h' hk => ((zDm_or h114).elim (fun e => zIR_s (zIR_s (zIR_s (zIR_s (zIR_a (by omega) (by omega)))))) (fun e => zIR_s (zIR_s (zIR_s (zIR_s (zIR_s (zIR_a (by omega) (by omega))))))))) zSub_nil))
              show ZW _ _ _ _ _ _ _ (222, [some (.ref 2), some (.int 1), some (.int v28_2), o28_3], [], M126)
              refine w_ic dX5_readFact_222 zi_1 ?_
              refine w_en dX5_readFact_223 rfl ?_
              exact ⟨_, _, rfl, (by have := zt_1; omega), (by have := zt_1; omega), hJ129, trivial⟩
      · intro M v167_2 o167_3 s167_0 hJ v167_20 v167_21 s167_00 s167_01 hn
        refine w_lo (ml' := [some (.ref 2), some (.int 1), some (.int v167_2), some (.int s167_0)]) dX5_readFact_167 rfl rfl rfl rfl ?_
        refine w_lo dX5_readFact_168 rfl rfl rfl rfl ?_
        rcases Int.decEq s167_0.toInt (0 : Int) with h130 | h130
        · skip
          refine w_ine_t dX5_readFact_169 (t := 178) rfl (by omega) ?_
          refine w_lo dX5_readFact_178 rfl rfl rfl rfl ?_
          refine w_iv dX5_readFact_179 rfl rfl (As := []) rfl rfl hJ.1.1 zs_2 (Nat.le_of_ble_eq_true rfl) ?_
          refine ZV.imp (k_1289 hN hJ.1) ?_
          rintro _ ⟨M131, rfl, hJ132, hq133⟩
          have hJ134 := zJ_trans hJ hJ132 (zSub_cons (fun _ _ h h' hk => zIR_s (zIR_s (zIR_s (zIR_s (zIR_s (zIR_s (zIR_e (by omega) (by omega) hk))))))) zSub_nil)
          show ZW _ _ _ _ _ _ _ (182, [some (.ref 2), some (.int 1), some (.int v167_2), some (.int s167_0)], [], M131)
          refine w_lo dX5_readFact_182 rfl rfl rfl rfl ?_
          refine w_lo dX5_readFact_183 rfl rfl rfl rfl ?_
          refine w_iv dX5_readFact_184 rfl rfl (As := [.int 1]) rfl rfl hJ134.1.1 zs_2 (Nat.le_of_ble_eq_true rfl) ?_
          refine ZV.imp (k_1297_c1 hN hJ134.1) ?_
          rintro _ ⟨x138, M135, rfl, h139, h140, hJ136, hq137⟩
          have hJ141 := zJ_trans hJ134 hJ136 (zSub_cons (fun _ _ h h' hk => zIR_e (by omega) (by omega) hk) (zSub_cons (fun _ _ h h' hk => zIR_s (zIR_e (by omega) (by omega) hk)) (zSub_cons (fun _ _ h h' hk => zIR_s (zIR_s (zIR_e (by omega) (by omega) hk))) (zSub_cons (fun _ _ h h' hk => zIR_s (zIR_s (zIR_s (zIR_e (by omega) (by omega) hk)))) (zSub_cons (fun _ _ h h' hk => zIR_s (zIR_s (zIR_s (zIR_s (zIR_a (by omega) (by omega)))))) (zSub_cons (fun _ _ h h' hk => zIR_s (zIR_s (zIR_s (zIR_s (zIR_s (zIR_a (by omega) (by omega))))))) (zSub_cons (fun _ _ h h' hk => zIR_s (zIR_s (zIR_s (zIR_s (zIR_s (zIR_s (zIR_e (by omega) (by omega) hk))))))) zSub_nil)))))))
          show ZW _ _ _ _ _ _ _ (187, [some (.ref 2), some (.int 1), some (.int v167_2), some (.int s167_0)], [.int x138], M135)
          rcases Int.decEq x138.toInt (0 : Int) with h142 | h142
          · skip
            refine w_ine_t dX5_readFact_187 (t := 192) rfl (by omega) ?_
            refine w_lo dX5_readFact_192 rfl rfl rfl rfl ?_
            obtain ⟨b143, f144, h145⟩ := zd_2_8 hJ141.1
            have h146 := zDm_b h145
            refine w_gf dX5_readFact_193 rfl hJ141.1.1 zs_2 f144 ?_
            refine w_gf dX5_readFact_196 rfl hJ141.1.1 (zs_1_0 h145) (zr_1_0_15 h145 hJ141.1) ?_
            refine w_lo dX5_readFact_199 rfl rfl rfl rfl ?_
            refine w_iv dX5_readFact_200 rfl rfl (As := [.int s167_0]) rfl rfl hJ141.1.1 (zs_1_13 h145) (Nat.le_of_ble_eq_true rfl) ?_
            refine ZV.imp (k_515 (b143 + 13) (zLw_of h145) s167_0 hN hJ141.1) ?_
            rintro _ ⟨M147, rfl, hJ148, hq149⟩
            have hJ150 := zJ_trans hJ141 hJ148 (zSub_cons (fun _ _ h h' hk => ((zDm_or h145).elim (fun e => zIR_s (zIR_s (zIR_e (by omega) (by omega) hk))) (fun e => zIR_s (zIR_s (zIR_s (zIR_e (by omega) (by omega) hk)))))) (zSub_cons (fun _ _ h h' hk => ((zDm_or h145).elim (fun e => zIR_s (zIR_s (zIR_s (zIR_s (zIR_a (by omega) (by omega)))))) (fun e => zIR_s (zIR_s (zIR_s (zIR_s (zIR_s (zIR_a (by omega) (by omega))))))))) zSub_nil))
            show ZW _ _ _ _ _ _ _ (203, [some (.ref 2), some (.int 1), some (.int v167_2), some (.int s167_0)], [], M147)
            refine w_lo dX5_readFact_203 rfl rfl rfl rfl ?_
            refine w_ic dX5_readFact_204 zi_2 ?_
            refine w_remP dX5_readFact_205 (by omega) (by have := zt_2; omega) ?_
            intro x151 h152 h153 h154
            have := zt_2
            refine w_ic dX5_readFact_206 zi_1 ?_
            rcases Int.decEq x151.toInt (1 : Int) with h155 | h155
            · skip
              refine w_cne_t dX5_readFact_207 (t := 222) rfl (by have := zt_1; omega) ?_
              refine w_ic dX5_readFact_222 zi_1 ?_
              refine w_en dX5_readFact_223 rfl ?_
              exact ⟨_, _, rfl, (by have := zt_1; omega), (by have := zt_1; omega), hJ150, trivial⟩
            · skip
              refine w_cne_f dX5_readFact_207 (t := 222) rfl (by have := zt_1; omega) ?_
              refine w_lo dX5_readFact_210 rfl rfl rfl rfl ?_
              have f156 := (hJ148.2 (2) 8 (zNI_k (by decide) (by decide) (zNI (by omega) zNI_nil))).trans (f144)
              refine w_gf dX5_readFact_211 rfl hJ150.1.1 zs_2 f156 ?_
              refine w_gf dX5_readFact_214 rfl hJ150.1.1 (zs_1_0 h145) (zr_1_0_15 h145 hJ150.1) ?_
              refine w_bi dX5_readFact_217 (c := (-8)) (by decide) ?_
              refine w_iv dX5_readFact_219 rfl rfl (As := [.int (-8)]) rfl rfl hJ150.1.1 (zs_1_13 h145) (Nat.le_of_ble_eq_true rfl) ?_
              refine ZV.imp (k_515 (b143 + 13) (zLw_of h145) (-8) hN hJ150.1) ?_
              rintro _ ⟨M157, rfl, hJ158, hq159⟩
              have hJ160 := zJ_trans hJ150 hJ158 (zSub_cons (fun _ _ h h' hk => ((zDm_or h145).elim (fun e => zIR_s (zIR_s (zIR_e (by omega) (by omega) hk))) (fun e => zIR_s (zIR_s (zIR_s (zIR_e (by omega) (by omega) hk)))))) (zSub_cons (fun _ _ h h' hk => ((zDm_or h145).elim (fun e => zIR_s (zIR_s (zIR_s (zIR_s (zIR_a (by omega) (by omega)))))) (fun e => zIR_s (zIR_s (zIR_s (zIR_s (zIR_s (zIR_a (by omega) (by omega))))))))) zSub_nil))
              show ZW _ _ _ _ _ _ _ (222, [some (.ref 2), some (.int 1), some (.int v167_2), some (.int s167_0)], [], M157)
              refine w_ic dX5_readFact_222 zi_1 ?_
              refine w_en dX5_readFact_223 rfl ?_
              exact ⟨_, _, rfl, (by have := zt_1; omega), (by have := zt_1; omega), hJ160, trivial⟩
          · skip
            refine w_ine_f dX5_readFact_187 (t := 192) rfl (by omega) ?_
            refine w_ic dX5_readFact_190 zi_0 ?_
            refine w_en dX5_readFact_191 rfl ?_
            exact ⟨_, _, rfl, (by have := zt_0; omega), (by have := zt_0; omega), hJ141, trivial⟩
        · skip
          refine w_ine_f dX5_readFact_169 (t := 178) rfl (by omega) ?_
          refine w_lo dX5_readFact_172 rfl rfl rfl rfl ?_
          refine w_ic dX5_readFact_173 zi_1 ?_
          refine w_iv dX5_readFact_174 rfl rfl (As := [.int 1]) rfl rfl hJ.1.1 zs_2 (Nat.le_of_ble_eq_true rfl) ?_
          refine ZV.imp (k_1286 1 (by have := zt_1; omega) (by have := zt_1; omega) hN hJ.1) ?_
          rintro _ ⟨x164, M161, rfl, h165, h166, hJ162, hq163⟩
          have hJ167 := zJ_trans hJ hJ162 (zSub_cons (fun _ _ h h' hk => zIR_e (by omega) (by omega) hk) (zSub_cons (fun _ _ h h' hk => zIR_s (zIR_e (by omega) (by omega) hk)) zSub_nil))
          show ZW _ _ _ _ _ _ _ (177, [some (.ref 2), some (.int 1), some (.int v167_2), some (.int s167_0)], [.int x164], M161)
          refine w_eni dX5_readFact_177 rfl (znb (by omega) (by omega)) ?_
          exact ⟨_, _, rfl, (by omega), (by omega), hJ167, trivial⟩
  obtain ⟨ih2, ih28, ih167⟩ := main 8023
  show ZW _ _ _ _ _ _ _ (0, [some (.ref 2), some (.int 1), none, none], [], M0)
  refine w_ic dX5_readFact_0 zi_0 ?_
  refine w_lo (ml' := [some (.ref 2), some (.int 1), some (.int 0), none]) dX5_readFact_1 rfl rfl rfl rfl ?_
  exact ih2 M0 0 none hJ0 (by have := zt_0; omega) (by have := zt_0; omega) (by have := zt_1; have := zt_0; omega)
