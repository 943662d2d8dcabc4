/-! the class's methods come to an end, within the box (wip/safe/mks.py) -/
set_option maxRecDepth 100000 in
theorem k_2093 {X : List Int32} {d N : Nat} {M0 : zM} (a0 : Int32) (a1 : Int32) (hN : N ≤ 600) (hB0 : zB N M0) : ZV X (d + 7) 2093 [.ref 0, .int a0, .int a1] M0 (zRI N [(362, 363, 1), (26, 28, 1000), (47, 49, 1000), (363, 364, 1000)] M0 (-2147483648) (2147483647) (fun _ _ => True)) := by
  have hJ0 : zJ N [(362, 363, 1), (26, 28, 1000), (47, 49, 1000), (363, 364, 1000)] M0 M0 := zJ_refl hB0
  refine ZV.of (ini := false) rfl (Nat.le_of_ble_eq_true rfl) (by decide +kernel) ?_
  have main : ∀ n : Nat,
      (∀ (M : zM) (v35_1 : Int32) (v35_2 : Int32) (v35_3 : Int32) (v35_4 : Int32) (o35_5 : Option Value), zJ N [(362, 363, 1), (26, 28, 1000), (47, 49, 1000), (363, 364, 1000)] M0 M → ((0 : Int) ≤ v35_1.toInt) → (v35_1.toInt ≤ 11) → ((-1 : Int) ≤ v35_2.toInt) → (v35_2.toInt ≤ 5) → ((-2147483648 : Int) ≤ v35_3.toInt) → (v35_3.toInt ≤ 2147483647) → ((0 : Int) ≤ v35_4.toInt) → (v35_4.toInt ≤ 12) → 45 * (12 - v35_4.toInt) + 83 < (n : Int) → ZW X (d + 6) 8 false (some .int) cX8_pulled (zRI N [(362, 363, 1), (26, 28, 1000), (47, 49, 1000), (363, 364, 1000)] M0 (-2147483648) (2147483647) (fun _ _ => True)) (35, [some (.ref 0), some (.int v35_1), some (.int v35_2), some (.int v35_3), some (.int v35_4), o35_5], [], M)) ∧
      (∀ (M : zM) (v50_1 : Int32) (v50_2 : Int32) (v50_3 : Int32) (v50_4 : Int32) (v50_5 : Int32), zJ N [(362, 363, 1), (26, 28, 1000), (47, 49, 1000), (363, 364, 1000)] M0 M → ((0 : Int) ≤ v50_1.toInt) → (v50_1.toInt ≤ 11) → ((-1 : Int) ≤ v50_2.toInt) → (v50_2.toInt ≤ 5) → ((-2147483648 : Int) ≤ v50_3.toInt) → (v50_3.toInt ≤ 2147483647) → ((0 : Int) ≤ v50_4.toInt) → (v50_4.toInt ≤ 11) → ((0 : Int) ≤ v50_5.toInt) → (v50_5.toInt ≤ 6) → 45 * (12 - v50_4.toInt) + 5 * (6 - v50_5.toInt) + 42 < (n : Int) → ZW X (d + 6) 8 false (some .int) cX8_pulled (zRI N [(362, 363, 1), (26, 28, 1000), (47, 49, 1000), (363, 364, 1000)] M0 (-2147483648) (2147483647) (fun _ _ => True)) (50, [some (.ref 0), some (.int v50_1), some (.int v50_2), some (.int v50_3), some (.int v50_4), some (.int v50_5)], [], M)) ∧
      (∀ (M : zM) (v97_1 : Int32) (v97_2 : Int32) (v97_3 : Int32) (v97_4 : Int32) (v97_5 : Int32), zJ N [(362, 363, 1), (26, 28, 1000), (47, 49, 1000), (363, 364, 1000)] M0 M → ((0 : Int) ≤ v97_1.toInt) → (v97_1.toInt ≤ 11) → ((-1 : Int) ≤ v97_2.toInt) → (v97_2.toInt ≤ 5) → ((1 : Int) ≤ v97_3.toInt) → (v97_3.toInt ≤ 2147483647) → ((-2147483648 : Int) ≤ v97_4.toInt) → (v97_4.toInt ≤ 2147483647) → ((0 : Int) ≤ v97_5.toInt) → (v97_5.toInt ≤ 6) → 5 * (6 - v97_5.toInt) + 1 < (n : Int) → ZW X (d + 6) 8 false (some .int) cX8_pulled (zRI N [(362, 363, 1), (26, 28, 1000), (47, 49, 1000), (363, 364, 1000)] M0 (-2147483648) (2147483647) (fun _ _ => True)) (97, [some (.ref 0), some (.int v97_1), some (.int v97_2), some (.int v97_3), some (.int v97_4), some (.int v97_5)], [], M)) := by
    intro n
    induction n with
    | zero =>
      exact ⟨(fun M v35_1 v35_2 v35_3 v35_4 o35_5 hJ v35_10 v35_11 v35_20 v35_21 v35_30 v35_31 v35_40 v35_41 hn => absurd hn (by omega)), (fun M v50_1 v50_2 v50_3 v50_4 v50_5 hJ v50_10 v50_11 v50_20 v50_21 v50_30 v50_31 v50_40 v50_41 v50_50 v50_51 hn => absurd hn (by omega)), (fun M v97_1 v97_2 v97_3 v97_4 v97_5 hJ v97_10 v97_11 v97_20 v97_21 v97_30 v97_31 v97_40 v97_41 v97_50 v97_51 hn => absurd hn (by omega))⟩
    | succ n ih =>
      obtain ⟨ih35, ih50, ih97⟩ := ih
      refine ⟨?_, ?_, ?_⟩
      · intro M v35_1 v35_2 v35_3 v35_4 o35_5 hJ v35_10 v35_11 v35_20 v35_21 v35_30 v35_31 v35_40 v35_41 hn
        refine w_lo dX8_pulled_35 rfl rfl rfl rfl ?_
        refine w_lo dX8_pulled_37 rfl rfl rfl rfl ?_
        obtain ⟨b1, f2, h3⟩ := zd_0_3 hJ.1
        have h4 := zDm_b h3
        refine w_gf dX8_pulled_38 rfl hJ.1.1 zs_0 f2 ?_
        refine w_gfi dX8_pulled_41 rfl hJ.1 (zs_1_0 h3) (Nat.le_of_ble_eq_true rfl) (zo_1_0_1 h3) ?_
        intro x5 f6 h7 h8
        rcases zcut v35_4.toInt x5.toInt with h9 | h9
        · skip
          refine w_cge_f dX8_pulled_44 (t := 85) rfl (by omega) ?_
          refine w_ic dX8_pulled_47 zi_0 ?_
          refine w_lo (ml' := [some (.ref 0), some (.int v35_1), some (.int v35_2), some (.int v35_3), some (.int v35_4), some (.int 0)]) dX8_pulled_48 rfl rfl rfl rfl ?_
          exact ih50 M v35_1 v35_2 v35_3 v35_4 0 hJ (by omega) (by omega) (by omega) (by omega) (zbot _) (ztop _) (by omega) (by omega) (by have := zt_0; omega) (by have := zt_0; omega) (by have := zt_0; omega)
        · skip
          refine w_cge_t dX8_pulled_44 (t := 85) rfl (by omega) ?_
          refine w_lo dX8_pulled_85 rfl rfl rfl rfl ?_
          rcases zcut (0 : Int) v35_3.toInt with h10 | h10
          · skip
            refine w_igt_t dX8_pulled_86 (t := 91) rfl (by omega) ?_
            refine w_ic dX8_pulled_91 zi_0 ?_
            refine w_lo (ml' := [some (.ref 0), some (.int v35_1), some (.int v35_2), some (.int v35_3), some (.int 0), o35_5]) dX8_pulled_92 rfl rfl rfl rfl ?_
            refine w_ic dX8_pulled_94 zi_0 ?_
            refine w_lo (ml' := [some (.ref 0), some (.int v35_1), some (.int v35_2), some (.int v35_3), some (.int 0), some (.int 0)]) dX8_pulled_95 rfl rfl rfl rfl ?_
            exact ih97 M v35_1 v35_2 v35_3 0 0 hJ (by omega) (by omega) (by omega) (by omega) (by omega) (ztop _) (zbot _) (ztop _) (by have := zt_0; omega) (by have := zt_0; omega) (by have := zt_0; omega)
          · skip
            refine w_igt_f dX8_pulled_86 (t := 91) rfl (by omega) ?_
            refine w_ic dX8_pulled_89 zi_m1 ?_
            refine w_en dX8_pulled_90 rfl ?_
            exact ⟨_, _, rfl, (zbot _), (ztop _), hJ, trivial⟩
      · intro M v50_1 v50_2 v50_3 v50_4 v50_5 hJ v50_10 v50_11 v50_20 v50_21 v50_30 v50_31 v50_40 v50_41 v50_50 v50_51 hn
        refine w_lo dX8_pulled_50 rfl rfl rfl rfl ?_
        refine w_lo dX8_pulled_52 rfl rfl rfl rfl ?_
        obtain ⟨b11, f12, h13⟩ := zd_0_3 hJ.1
        have h14 := zDm_b h13
        refine w_gf dX8_pulled_53 rfl hJ.1.1 zs_0 f12 ?_
        refine w_gfi dX8_pulled_56 rfl hJ.1 (zs_1_0 h13) (Nat.le_of_ble_eq_true rfl) (zo_1_0_2 h13) ?_
        intro x15 f16 h17 h18
        rcases zcut v50_5.toInt x15.toInt with h19 | h19
        · skip
          refine w_cge_f dX8_pulled_59 (t := 79) rfl (by omega) ?_
          refine w_lo dX8_pulled_62 rfl rfl rfl rfl ?_
          refine w_lo dX8_pulled_63 rfl rfl rfl rfl ?_
          refine w_lo dX8_pulled_64 rfl rfl rfl rfl ?_
          refine w_lo dX8_pulled_66 rfl rfl rfl rfl ?_
          refine w_iv dX8_pulled_68 rfl rfl (As := [.int v50_4, .int v50_5]) rfl rfl hJ.1.1 zs_0 (Nat.le_of_ble_eq_true rfl) ?_
          refine ZV.imp (k_2094 v50_4 (by omega) (by omega) v50_5 (by omega) (by omega) hN hJ.1) ?_
          rintro _ ⟨x23, M20, rfl, h24, h25, hJ21, hq22⟩
          have hJ26 := zJ_trans hJ hJ21 (zSub_cons (fun _ _ h h' hk => zIR_e (by omega) (by omega) hk) (zSub_cons (fun _ _ h h' hk => zIR_s (zIR_a (by omega) (by omega))) (zSub_cons (fun _ _ h h' hk => zIR_s (zIR_s (zIR_a (by omega) (by omega)))) (zSub_cons (fun _ _ h h' hk => zIR_s (zIR_s (zIR_s (zIR_a (by omega) (by omega))))) zSub_nil))))
          show ZW _ _ _ _ _ _ _ (71, [some (.ref 0), some (.int v50_1), some (.int v50_2), some (.int v50_3), some (.int v50_4), some (.int v50_5)], [.int x23, .int v50_3], M20)
          refine w_puI dX8_pulled_71 rfl rfl ?_
          intro x27
          refine w_lo (ml' := [some (.ref 0), some (.int v50_1), some (.int v50_2), some (.int x27), some (.int v50_4), some (.int v50_5)]) dX8_pulled_72 rfl rfl rfl rfl ?_
          refine w_inc (kk := 5) dX8_pulled_73 rfl (m := 1) (by decide) (by omega) ?_
          intro x28 h29
          refine ⟨_, rfl, ?_⟩
          show ZW _ _ _ _ _ _ _ (76, [some (.ref 0), some (.int v50_1), some (.int v50_2), some (.int x27), some (.int v50_4), some (.int x28)], [], M20)
          refine w_gt dX8_pulled_76 (t := 50) rfl ?_
          exact ih50 M20 v50_1 v50_2 x27 v50_4 x28 hJ26 (by omega) (by omega) (by omega) (by omega) (zbot _) (ztop _) (by omega) (by omega) (by omega) (by omega) (by omega)
        · skip
          refine w_cge_t dX8_pulled_59 (t := 79) rfl (by omega) ?_
          refine w_inc (kk := 4) dX8_pulled_79 rfl (m := 1) (by decide) (by omega) ?_
          intro x30 h31
          refine ⟨_, rfl, ?_⟩
          show ZW _ _ _ _ _ _ _ (82, [some (.ref 0), some (.int v50_1), some (.int v50_2), some (.int v50_3), some (.int x30), some (.int v50_5)], [], M)
          refine w_gt dX8_pulled_82 (t := 35) rfl ?_
          exact ih35 M v50_1 v50_2 v50_3 x30 (some (.int v50_5)) hJ (by omega) (by omega) (by omega) (by omega) (zbot _) (ztop _) (by omega) (by omega) (by omega)
      · intro M v97_1 v97_2 v97_3 v97_4 v97_5 hJ v97_10 v97_11 v97_20 v97_21 v97_30 v97_31 v97_40 v97_41 v97_50 v97_51 hn
        refine w_lo dX8_pulled_97 rfl rfl rfl rfl ?_
        refine w_lo dX8_pulled_99 rfl rfl rfl rfl ?_
        obtain ⟨b32, f33, h34⟩ := zd_0_3 hJ.1
        have h35 := zDm_b h34
        refine w_gf dX8_pulled_100 rfl hJ.1.1 zs_0 f33 ?_
        refine w_gfi dX8_pulled_103 rfl hJ.1 (zs_1_0 h34) (Nat.le_of_ble_eq_true rfl) (zo_1_0_2 h34) ?_
        intro x36 f37 h38 h39
        rcases zcut v97_5.toInt x36.toInt with h40 | h40
        · skip
          refine w_cge_f dX8_pulled_106 (t := 144) rfl (by omega) ?_
          refine w_lo dX8_pulled_109 rfl rfl rfl rfl ?_
          refine w_ic dX8_pulled_110 zi_m1 ?_
          rcases Int.decEq v97_2.toInt (-1 : Int) with h41 | h41
          · skip
            refine w_ceq_f dX8_pulled_111 (t := 120) rfl (by have := zt_m1; omega) ?_
            refine w_lo dX8_pulled_114 rfl rfl rfl rfl ?_
            refine w_lo dX8_pulled_115 rfl rfl rfl rfl ?_
            rcases Int.decEq v97_2.toInt v97_5.toInt with h42 | h42
            · skip
              refine w_cne_t dX8_pulled_117 (t := 138) rfl (by omega) ?_
              refine w_inc (kk := 5) dX8_pulled_138 rfl (m := 1) (by decide) (by omega) ?_
              intro x43 h44
              refine ⟨_, rfl, ?_⟩
              show ZW _ _ _ _ _ _ _ (141, [some (.ref 0), some (.int v97_1), some (.int v97_2), some (.int v97_3), some (.int v97_4), some (.int x43)], [], M)
              refine w_gt dX8_pulled_141 (t := 97) rfl ?_
              exact ih97 M v97_1 v97_2 v97_3 v97_4 x43 hJ (by omega) (by omega) (by omega) (by omega) (by omega) (ztop _) (zbot _) (ztop _) (by omega) (by omega) (by omega)
            · skip
              refine w_cne_f dX8_pulled_117 (t := 138) rfl (by omega) ?_
              refine w_lo dX8_pulled_120 rfl rfl rfl rfl ?_
              refine w_si dX8_pulled_122 (c := 1000) (by decide) ?_
              refine w_lo dX8_pulled_125 rfl rfl rfl rfl ?_
              refine w_lo dX8_pulled_126 rfl rfl rfl rfl ?_
              refine w_lo dX8_pulled_127 rfl rfl rfl rfl ?_
              refine w_iv dX8_pulled_129 rfl rfl (As := [.int v97_1, .int v97_5]) rfl rfl hJ.1.1 zs_0 (Nat.le_of_ble_eq_true rfl) ?_
              refine ZV.imp (k_2094 v97_1 (by omega) (by omega) v97_5 (by omega) (by omega) hN hJ.1) ?_
              rintro _ ⟨x48, M45, rfl, h49, h50, hJ46, hq47⟩
              have hJ51 := zJ_trans hJ hJ46 (zSub_cons (fun _ _ h h' hk => zIR_e (by omega) (by omega) hk) (zSub_cons (fun _ _ h h' hk => zIR_s (zIR_a (by omega) (by omega))) (zSub_cons (fun _ _ h h' hk => zIR_s (zIR_s (zIR_a (by omega) (by omega)))) (zSub_cons (fun _ _ h h' hk => zIR_s (zIR_s (zIR_s (zIR_a (by omega) (by omega))))) zSub_nil))))
              show ZW _ _ _ _ _ _ _ (132, [some (.ref 0), some (.int v97_1), some (.int v97_2), some (.int v97_3), some (.int v97_4), some (.int v97_5)], [.int x48, .int 1000, .int v97_4], M45)
              refine w_puI dX8_pulled_132 rfl rfl ?_
              intro x52
              refine w_lo dX8_pulled_133 rfl rfl rfl rfl ?_
              refine w_divT dX8_pulled_134 (by omega) ?_
              intro x53
              refine w_puI dX8_pulled_135 rfl rfl ?_
              intro x54
              refine w_lo (ml' := [some (.ref 0), some (.int v97_1), some (.int v97_2), some (.int v97_3), some (.int x54), some (.int v97_5)]) dX8_pulled_136 rfl rfl rfl rfl ?_
              refine w_inc (kk := 5) dX8_pulled_138 rfl (m := 1) (by decide) (by omega) ?_
              intro x55 h56
              refine ⟨_, rfl, ?_⟩
              show ZW _ _ _ _ _ _ _ (141, [some (.ref 0), some (.int v97_1), some (.int v97_2), some (.int v97_3), some (.int x54), some (.int x55)], [], M45)
              refine w_gt dX8_pulled_141 (t := 97) rfl ?_
              exact ih97 M45 v97_1 v97_2 v97_3 x54 x55 hJ51 (by omega) (by omega) (by omega) (by omega) (by omega) (ztop _) (zbot _) (ztop _) (by omega) (by omega) (by omega)
          · skip
            refine w_ceq_t dX8_pulled_111 (t := 120) rfl (by have := zt_m1; omega) ?_
            refine w_lo dX8_pulled_120 rfl rfl rfl rfl ?_
            refine w_si dX8_pulled_122 (c := 1000) (by decide) ?_
            refine w_lo dX8_pulled_125 rfl rfl rfl rfl ?_
            refine w_lo dX8_pulled_126 rfl rfl rfl rfl ?_
            refine w_lo dX8_pulled_127 rfl rfl rfl rfl ?_
            refine w_iv dX8_pulled_129 rfl rfl (As := [.int v97_1, .int v97_5]) rfl rfl hJ.1.1 zs_0 (Nat.le_of_ble_eq_true rfl) ?_
            refine ZV.imp (k_2094 v97_1 (by omega) (by omega) v97_5 (by omega) (by omega) hN hJ.1) ?_
            rintro _ ⟨x60, M57, rfl, h61, h62, hJ58, hq59⟩
            have hJ63 := zJ_trans hJ hJ58 (zSub_cons (fun _ _ h h' hk => zIR_e (by omega) (by omega) hk) (zSub_cons (fun _ _ h h' hk => zIR_s (zIR_a (by omega) (by omega))) (zSub_cons (fun _ _ h h' hk => zIR_s (zIR_s (zIR_a (by omega) (by omega)))) (zSub_cons (fun _ _ h h' hk => zIR_s (zIR_s (zIR_s (zIR_a (by omega) (by omega))))) zSub_nil))))
            show ZW _ _ _ _ _ _ _ (132, [some (.ref 0), some (.int v97_1), some (.int v97_2), some (.int v97_3), some (.int v97_4), some (.int v97_5)], [.int x60, .int 1000, .int v97_4], M57)
            refine w_puI dX8_pulled_132 rfl rfl ?_
            intro x64
            refine w_lo dX8_pulled_133 rfl rfl rfl rfl ?_
            refine w_divT dX8_pulled_134 (by omega) ?_
            intro x65
            refine w_puI dX8_pulled_135 rfl rfl ?_
            intro x66
            refine w_lo (ml' := [some (.ref 0), some (.int v97_1), some (.int v97_2), some (.int v97_3), some (.int x66), some (.int v97_5)]) dX8_pulled_136 rfl rfl rfl rfl ?_
            refine w_inc (kk := 5) dX8_pulled_138 rfl (m := 1) (by decide) (by omega) ?_
            intro x67 h68
            refine ⟨_, rfl, ?_⟩
            show ZW _ _ _ _ _ _ _ (141, [some (.ref 0), some (.int v97_1), some (.int v97_2), some (.int v97_3), some (.int x66), some (.int x67)], [], M57)
            refine w_gt dX8_pulled_141 (t := 97) rfl ?_
            exact ih97 M57 v97_1 v97_2 v97_3 x66 x67 hJ63 (by omega) (by omega) (by omega) (by omega) (by omega) (ztop _) (zbot _) (ztop _) (by omega) (by omega) (by omega)
        · skip
          refine w_cge_t dX8_pulled_106 (t := 144) rfl (by omega) ?_
          refine w_lo dX8_pulled_144 rfl rfl rfl rfl ?_
          refine w_eni dX8_pulled_146 rfl rfl ?_
          exact ⟨_, _, rfl, (zbot _), (ztop _), hJ, trivial⟩
  obtain ⟨ih35, ih50, ih97⟩ := main 718
  show ZW _ _ _ _ _ _ _ (0, [some (.ref 0), some (.int a0), some (.int a1), none, none, none], [], M0)
  refine w_lo dX8_pulled_0 rfl rfl rfl rfl ?_
  refine w_lo dX8_pulled_1 rfl rfl rfl rfl ?_
  refine w_iv dX8_pulled_2 rfl rfl (As := [.int a0]) rfl rfl hJ0.1.1 zs_0 (Nat.le_of_ble_eq_true rfl) ?_
  refine ZV.of (ini := false) rfl (Nat.le_of_ble_eq_true rfl) (by decide +kernel) ?_
  show ZW _ _ _ _ _ _ _ (0, [some (.ref 0), some (.int a0)], [], M0)
  refine w_lo dX8_isBoy_0 rfl rfl rfl rfl ?_
  rcases zcut a0.toInt (0 : Int) with h69 | h69
  · skip
    refine w_ilt_t dX8_isBoy_1 (t := 19) rfl (by omega) ?_
    refine w_ic dX8_isBoy_19 zi_0 ?_
    refine w_en dX8_isBoy_20 rfl ?_
    show ZW _ _ _ _ _ _ _ (5, [some (.ref 0), some (.int a0), some (.int a1), none, none, none], [.int 0], M0)
    refine w_ieq_t dX8_pulled_5 (t := 28) rfl (by have := zt_0; omega) ?_
    refine w_ic dX8_pulled_28 zi_m1 ?_
    refine w_en dX8_pulled_29 rfl ?_
    exact ⟨_, _, rfl, (zbot _), (ztop _), hJ0, trivial⟩
  · skip
    refine w_ilt_f dX8_isBoy_1 (t := 19) rfl (by omega) ?_
    refine w_lo dX8_isBoy_4 rfl rfl rfl rfl ?_
    refine w_lo dX8_isBoy_5 rfl rfl rfl rfl ?_
    obtain ⟨b70, f71, h72⟩ := zd_0_3 hJ0.1
    have h73 := zDm_b h72
    refine w_gf dX8_isBoy_6 rfl hJ0.1.1 zs_0 f71 ?_
    refine w_gfi dX8_isBoy_9 rfl hJ0.1 (zs_1_0 h72) (Nat.le_of_ble_eq_true rfl) (zo_1_0_1 h72) ?_
    intro x74 f75 h76 h77
    rcases zcut a0.toInt x74.toInt with h78 | h78
    · skip
      refine w_cge_f dX8_isBoy_12 (t := 19) rfl (by omega) ?_
      refine w_ic dX8_isBoy_15 zi_1 ?_
      refine w_gt dX8_isBoy_16 (t := 20) rfl ?_
      refine w_en dX8_isBoy_20 rfl ?_
      show ZW _ _ _ _ _ _ _ (5, [some (.ref 0), some (.int a0), some (.int a1), none, none, none], [.int 1], M0)
      refine w_ieq_f dX8_pulled_5 (t := 28) rfl (by have := zt_1; omega) ?_
      refine w_lo dX8_pulled_8 rfl rfl rfl rfl ?_
      refine w_ic dX8_pulled_9 zi_m1 ?_
      rcases Int.decEq a1.toInt (-1 : Int) with h79 | h79
      · skip
        refine w_ceq_f dX8_pulled_10 (t := 21) rfl (by have := zt_m1; omega) ?_
        refine w_lo dX8_pulled_13 rfl rfl rfl rfl ?_
        refine w_lo dX8_pulled_14 rfl rfl rfl rfl ?_
        refine w_iv dX8_pulled_15 rfl rfl (As := [.int a1]) rfl rfl hJ0.1.1 zs_0 (Nat.le_of_ble_eq_true rfl) ?_
        refine ZV.of (ini := false) rfl (Nat.le_of_ble_eq_true rfl) (by decide +kernel) ?_
        show ZW _ _ _ _ _ _ _ (0, [some (.ref 0), some (.int a1)], [], M0)
        refine w_lo dX8_isDream_0 rfl rfl rfl rfl ?_
        rcases zcut a1.toInt (0 : Int) with h80 | h80
        · skip
          refine w_ilt_t dX8_isDream_1 (t := 19) rfl (by omega) ?_
          refine w_ic dX8_isDream_19 zi_0 ?_
          refine w_en dX8_isDream_20 rfl ?_
          show ZW _ _ _ _ _ _ _ (18, [some (.ref 0), some (.int a0), some (.int a1), none, none, none], [.int 0], M0)
          refine w_ieq_t dX8_pulled_18 (t := 28) rfl (by have := zt_0; omega) ?_
          refine w_ic dX8_pulled_28 zi_m1 ?_
          refine w_en dX8_pulled_29 rfl ?_
          exact ⟨_, _, rfl, (zbot _), (ztop _), hJ0, trivial⟩
        · skip
          refine w_ilt_f dX8_isDream_1 (t := 19) rfl (by omega) ?_
          refine w_lo dX8_isDream_4 rfl rfl rfl rfl ?_
          refine w_lo dX8_isDream_5 rfl rfl rfl rfl ?_
          refine w_gf dX8_isDream_6 rfl hJ0.1.1 zs_0 f71 ?_
          refine w_gfi dX8_isDream_9 rfl hJ0.1 (zs_1_0 h72) (Nat.le_of_ble_eq_true rfl) (zo_1_0_2 h72) ?_
          intro x81 f82 h83 h84
          rcases zcut a1.toInt x81.toInt with h85 | h85
          · skip
            refine w_cge_f dX8_isDream_12 (t := 19) rfl (by omega) ?_
            refine w_ic dX8_isDream_15 zi_1 ?_
            refine w_gt dX8_isDream_16 (t := 20) rfl ?_
            refine w_en dX8_isDream_20 rfl ?_
            show ZW _ _ _ _ _ _ _ (18, [some (.ref 0), some (.int a0), some (.int a1), none, none, none], [.int 1], M0)
            refine w_ieq_f dX8_pulled_18 (t := 28) rfl (by have := zt_1; omega) ?_
            refine w_lo dX8_pulled_21 rfl rfl rfl rfl ?_
            refine w_gfi dX8_pulled_22 rfl hJ0.1 zs_0 (Nat.le_of_ble_eq_true rfl) zo_0_11 ?_
            intro x86 f87 h88 h89
            rcases Int.decEq x86.toInt (0 : Int) with h90 | h90
            · skip
              refine w_ine_t dX8_pulled_25 (t := 30) rfl (by omega) ?_
              refine w_ic dX8_pulled_30 zi_0 ?_
              refine w_lo (ml' := [some (.ref 0), some (.int a0), some (.int a1), some (.int 0), none, none]) dX8_pulled_31 rfl rfl rfl rfl ?_
              refine w_ic dX8_pulled_32 zi_0 ?_
              refine w_lo (ml' := [some (.ref 0), some (.int a0), some (.int a1), some (.int 0), some (.int 0), none]) dX8_pulled_33 rfl rfl rfl rfl ?_
              exact ih35 M0 a0 a1 0 0 none hJ0 (by omega) (by omega) (by omega) (by omega) (zbot _) (ztop _) (by have := zt_0; omega) (by have := zt_0; omega) (by have := zt_0; omega)
            · skip
              refine w_ine_f dX8_pulled_25 (t := 30) rfl (by omega) ?_
              refine w_ic dX8_pulled_28 zi_m1 ?_
              refine w_en dX8_pulled_29 rfl ?_
              exact ⟨_, _, rfl, (zbot _), (ztop _), hJ0, trivial⟩
          · skip
            refine w_cge_t dX8_isDream_12 (t := 19) rfl (by omega) ?_
            refine w_ic dX8_isDream_19 zi_0 ?_
            refine w_en dX8_isDream_20 rfl ?_
            show ZW _ _ _ _ _ _ _ (18, [some (.ref 0), some (.int a0), some (.int a1), none, none, none], [.int 0], M0)
            refine w_ieq_t dX8_pulled_18 (t := 28) rfl (by have := zt_0; omega) ?_
            refine w_ic dX8_pulled_28 zi_m1 ?_
            refine w_en dX8_pulled_29 rfl ?_
            exact ⟨_, _, rfl, (zbot _), (ztop _), hJ0, trivial⟩
      · skip
        refine w_ceq_t dX8_pulled_10 (t := 21) rfl (by have := zt_m1; omega) ?_
        refine w_lo dX8_pulled_21 rfl rfl rfl rfl ?_
        refine w_gfi dX8_pulled_22 rfl hJ0.1 zs_0 (Nat.le_of_ble_eq_true rfl) zo_0_11 ?_
        intro x91 f92 h93 h94
        rcases Int.decEq x91.toInt (0 : Int) with h95 | h95
        · skip
          refine w_ine_t dX8_pulled_25 (t := 30) rfl (by omega) ?_
          refine w_ic dX8_pulled_30 zi_0 ?_
          refine w_lo (ml' := [some (.ref 0), some (.int a0), some (.int a1), some (.int 0), none, none]) dX8_pulled_31 rfl rfl rfl rfl ?_
          refine w_ic dX8_pulled_32 zi_0 ?_
          refine w_lo (ml' := [some (.ref 0), some (.int a0), some (.int a1), some (.int 0), some (.int 0), none]) dX8_pulled_33 rfl rfl rfl rfl ?_
          exact ih35 M0 a0 a1 0 0 none hJ0 (by omega) (by omega) (by omega) (by omega) (zbot _) (ztop _) (by have := zt_0; omega) (by have := zt_0; omega) (by have := zt_0; omega)
        · skip
          refine w_ine_f dX8_pulled_25 (t := 30) rfl (by omega) ?_
          refine w_ic dX8_pulled_28 zi_m1 ?_
          refine w_en dX8_pulled_29 rfl ?_
          exact ⟨_, _, rfl, (zbot _), (ztop _), hJ0, trivial⟩
    · skip
      refine w_cge_t dX8_isBoy_12 (t := 19) rfl (by omega) ?_
      refine w_ic dX8_isBoy_19 zi_0 ?_
      refine w_en dX8_isBoy_20 rfl ?_
      show ZW _ _ _ _ _ _ _ (5, [some (.ref 0), some (.int a0), some (.int a1), none, none, none], [.int 0], M0)
      refine w_ieq_t dX8_pulled_5 (t := 28) rfl (by have := zt_0; omega) ?_
      refine w_ic dX8_pulled_28 zi_m1 ?_
      refine w_en dX8_pulled_29 rfl ?_
      exact ⟨_, _, rfl, (zbot _), (ztop _), hJ0, trivial⟩
set_option maxRecDepth 100000 in
theorem k_2097 {X : List Int32} {d N : Nat} {M0 : zM} (a0 : Int32) (ha00 : (0 : Int) ≤ a0.toInt) (ha01 : a0.toInt ≤ 2047) (a1 : Int32) (ha10 : (0 : Int) ≤ a1.toInt) (ha11 : a1.toInt ≤ 10) (hN : N ≤ 600) (hB0 : zB N M0) : ZV X (d + 1) 2097 [.int a0, .int a1] M0 (zRI N [] M0 (0) (1) (fun _ _ => True)) := by
  have hJ0 : zJ N [] M0 M0 := zJ_refl hB0
  refine ZV.of (ini := false) rfl (Nat.le_of_ble_eq_true rfl) (by decide +kernel) ?_
  show ZW _ _ _ _ _ _ _ (0, [some (.int a0), some (.int a1)], [], M0)
  refine w_lo dX8_inSet_0 rfl rfl rfl rfl ?_
  refine w_bi dX8_inSet_1 (c := 10) (by decide) ?_
  refine w_lo dX8_inSet_3 rfl rfl rfl rfl ?_
  refine w_sub dX8_inSet_4 (by have := zt_10; omega) ?_
  intro x1 h2
  have := zt_10
  refine w_puI dX8_inSet_5 rfl rfl ?_
  intro x3
  refine w_ic dX8_inSet_6 zi_1 ?_
  refine w_and dX8_inSet_7 (m := 1) zt_1 (by omega) ?_
  intro x4 h5 h6
  refine w_ic dX8_inSet_8 zi_1 ?_
  rcases Int.decEq x4.toInt (1 : Int) with h7 | h7
  · skip
    refine w_cne_t dX8_inSet_9 (t := 16) rfl (by have := zt_1; omega) ?_
    refine w_ic dX8_inSet_16 zi_0 ?_
    refine w_en dX8_inSet_17 rfl ?_
    exact ⟨_, _, rfl, (by have := zt_0; omega), (by have := zt_0; omega), hJ0, trivial⟩
  · skip
    refine w_cne_f dX8_inSet_9 (t := 16) rfl (by have := zt_1; omega) ?_
    refine w_ic dX8_inSet_12 zi_1 ?_
    refine w_gt dX8_inSet_13 (t := 17) rfl ?_
    refine w_en dX8_inSet_17 rfl ?_
    exact ⟨_, _, rfl, (by have := zt_1; omega), (by have := zt_1; omega), hJ0, trivial⟩
set_option maxRecDepth 100000 in
theorem k_2096 {X : List Int32} {d N : Nat} {M0 : zM} (a0 : Int32) (ha00 : (0 : Int) ≤ a0.toInt) (ha01 : a0.toInt ≤ 2047) (hN : N ≤ 600) (hB0 : zB N M0) : ZV X (d + 2) 2096 [.ref 0, .int a0] M0 (zRI N [] M0 (0) (1) (fun _ _ => True)) := by
  have hJ0 : zJ N [] M0 M0 := zJ_refl hB0
  refine ZV.of (ini := false) rfl (Nat.le_of_ble_eq_true rfl) (by decide +kernel) ?_
  have main : ∀ n : Nat,
      (∀ (M : zM) (v2_1 : Int32) (v2_2 : Int32), zJ N [] M0 M → ((0 : Int) ≤ v2_1.toInt) → (v2_1.toInt ≤ 2047) → ((0 : Int) ≤ v2_2.toInt) → (v2_2.toInt ≤ 11) → 3 * (11 - v2_2.toInt) + 1 < (n : Int) → ZW X (d + 1) 8 false (some .boolean) cX8_areTied (zRI N [] M0 (0) (1) (fun _ _ => True)) (2, [some (.ref 0), some (.int v2_1), some (.int v2_2)], [], M)) := by
    intro n
    induction n with
    | zero =>
      exact (fun M v2_1 v2_2 hJ v2_10 v2_11 v2_20 v2_21 hn => absurd hn (by omega))
    | succ n ih =>
      have ih2 := ih
      · intro M v2_1 v2_2 hJ v2_10 v2_11 v2_20 v2_21 hn
        refine w_lo dX8_areTied_2 rfl rfl rfl rfl ?_
        refine w_bi dX8_areTied_3 (c := 11) (by decide) ?_
        rcases zcut v2_2.toInt (11 : Int) with h1 | h1
        · skip
          refine w_cge_f dX8_areTied_5 (t := 49) rfl (by have := zt_11; omega) ?_
          refine w_lo dX8_areTied_8 rfl rfl rfl rfl ?_
          refine w_lo dX8_areTied_9 rfl rfl rfl rfl ?_
          refine w_ss dX8_areTied_10 rfl rfl (As := [.int v2_1, .int v2_2]) rfl rfl (Nat.le_of_ble_eq_true rfl) ?_
          refine ZV.imp (k_2097 v2_1 (by omega) (by omega) v2_2 (by omega) (by omega) hN hJ.1) ?_
          rintro _ ⟨x5, M2, rfl, h6, h7, hJ3, hq4⟩
          have hJ8 := zJ_trans hJ hJ3 zSub_nil
          show ZW _ _ _ _ _ _ _ (13, [some (.ref 0), some (.int v2_1), some (.int v2_2)], [.int x5], M2)
          rcases Int.decEq x5.toInt (0 : Int) with h9 | h9
          · skip
            refine w_ieq_f dX8_areTied_13 (t := 43) rfl (by omega) ?_
            refine w_lo dX8_areTied_16 rfl rfl rfl rfl ?_
            refine w_lo dX8_areTied_17 rfl rfl rfl rfl ?_
            refine w_gf dX8_areTied_18 rfl hJ8.1.1 zs_0 (zr_0_4 hJ8.1) ?_
            refine w_gfi dX8_areTied_21 rfl hJ8.1 zs_49 (Nat.le_of_ble_eq_true rfl) zo_49_0 ?_
            intro x10 f11 h12 h13
            refine w_ic dX8_areTied_24 zi_1 ?_
            refine w_sub dX8_areTied_25 (by have := zt_1; omega) ?_
            intro x14 h15
            have := zt_1
            rcases zcut v2_2.toInt x14.toInt with h16 | h16
            · skip
              refine w_cge_f dX8_areTied_26 (t := 41) rfl (by omega) ?_
              refine w_lo dX8_areTied_29 rfl rfl rfl rfl ?_
              refine w_gf dX8_areTied_30 rfl hJ8.1.1 zs_0 (zr_0_4 hJ8.1) ?_
              refine w_gf dX8_areTied_33 rfl hJ8.1.1 zs_49 (zr_49_12 hJ8.1) ?_
              refine w_lo dX8_areTied_36 rfl rfl rfl rfl ?_
              refine w_bai dX8_areTied_37 hJ8.1 zs_60 (by omega) (by omega) zu_60 ?_
              intro x20 f17 h18 h19
              rcases Int.decEq x20.toInt (0 : Int) with h21 | h21
              · skip
                refine w_ine_t dX8_areTied_38 (t := 43) rfl (by omega) ?_
                refine w_inc (kk := 2) dX8_areTied_43 rfl (m := 1) (by decide) (by omega) ?_
                intro x22 h23
                refine ⟨_, rfl, ?_⟩
                show ZW _ _ _ _ _ _ _ (46, [some (.ref 0), some (.int v2_1), some (.int x22)], [], M2)
                refine w_gt dX8_areTied_46 (t := 2) rfl ?_
                exact ih2 M2 v2_1 x22 hJ8 (by omega) (by omega) (by omega) (by omega) (by omega)
              · skip
                refine w_ine_f dX8_areTied_38 (t := 43) rfl (by omega) ?_
                refine w_ic dX8_areTied_41 zi_0 ?_
                refine w_en dX8_areTied_42 rfl ?_
                exact ⟨_, _, rfl, (by have := zt_0; omega), (by have := zt_0; omega), hJ8, trivial⟩
            · skip
              refine w_cge_t dX8_areTied_26 (t := 41) rfl (by omega) ?_
              refine w_ic dX8_areTied_41 zi_0 ?_
              refine w_en dX8_areTied_42 rfl ?_
              exact ⟨_, _, rfl, (by have := zt_0; omega), (by have := zt_0; omega), hJ8, trivial⟩
          · skip
            refine w_ieq_t dX8_areTied_13 (t := 43) rfl (by omega) ?_
            refine w_inc (kk := 2) dX8_areTied_43 rfl (m := 1) (by decide) (by omega) ?_
            intro x24 h25
            refine ⟨_, rfl, ?_⟩
            show ZW _ _ _ _ _ _ _ (46, [some (.ref 0), some (.int v2_1), some (.int x24)], [], M2)
            refine w_gt dX8_areTied_46 (t := 2) rfl ?_
            exact ih2 M2 v2_1 x24 hJ8 (by omega) (by omega) (by omega) (by omega) (by omega)
        · skip
          refine w_cge_t dX8_areTied_5 (t := 49) rfl (by have := zt_11; omega) ?_
          refine w_ic dX8_areTied_49 zi_1 ?_
          refine w_en dX8_areTied_50 rfl ?_
          exact ⟨_, _, rfl, (by have := zt_1; omega), (by have := zt_1; omega), hJ, trivial⟩
  have ih2 := main 45
  show ZW _ _ _ _ _ _ _ (0, [some (.ref 0), some (.int a0), none], [], M0)
  refine w_ic dX8_areTied_0 zi_0 ?_
  refine w_lo (ml' := [some (.ref 0), some (.int a0), some (.int 0)]) dX8_areTied_1 rfl rfl rfl rfl ?_
  exact ih2 M0 a0 0 hJ0 (by omega) (by omega) (by have := zt_0; omega) (by have := zt_0; omega) (by have := zt_0; omega)
set_option maxRecDepth 100000 in
theorem k_2098 {X : List Int32} {d N : Nat} {M0 : zM} (a0 : Int32) (ha00 : (0 : Int) ≤ a0.toInt) (ha01 : a0.toInt ≤ 2047) (hN : N ≤ 600) (hB0 : zB N M0) : ZV X (d + 2) 2098 [.ref 0, .int a0] M0 (zRI N [] M0 (0) (2147483647) (fun _ _ => True)) := by
  have hJ0 : zJ N [] M0 M0 := zJ_refl hB0
  refine ZV.of (ini := false) rfl (Nat.le_of_ble_eq_true rfl) (by decide +kernel) ?_
  have main : ∀ n : Nat,
      (∀ (M : zM) (v7_1 : Int32) (v7_2 : Int32) (v7_3 : Int32) (v7_4 : Int32) (o7_5 : Option Value), zJ N [] M0 M → ((0 : Int) ≤ v7_1.toInt) → (v7_1.toInt ≤ 2047) → ((0 : Int) ≤ v7_2.toInt) → (v7_2.toInt ≤ 2147483647) → ((-2147483648 : Int) ≤ v7_3.toInt) → (v7_3.toInt ≤ 2147483647) → ((0 : Int) ≤ v7_4.toInt) → (v7_4.toInt ≤ 12) → 4 * (12 - v7_4.toInt) + 2 < (n : Int) → ZW X (d + 1) 8 false (some .int) cX8_heaviestPiece (zRI N [] M0 (0) (2147483647) (fun _ _ => True)) (7, [some (.ref 0), some (.int v7_1), some (.int v7_2), some (.int v7_3), some (.int v7_4), o7_5], [], M)) ∧
      (∀ (M : zM) (v54_1 : Int32) (v54_2 : Int32) (v54_3 : Int32) (v54_4 : Int32) (o54_5 : Option Value), zJ N [] M0 M → ((0 : Int) ≤ v54_1.toInt) → (v54_1.toInt ≤ 2047) → ((0 : Int) ≤ v54_2.toInt) → (v54_2.toInt ≤ 2147483647) → ((-2147483648 : Int) ≤ v54_3.toInt) → (v54_3.toInt ≤ 2147483647) → ((0 : Int) ≤ v54_4.toInt) → (v54_4.toInt ≤ 11) → 4 * (12 - v54_4.toInt) + 1 < (n : Int) → ZW X (d + 1) 8 false (some .int) cX8_heaviestPiece (zRI N [] M0 (0) (2147483647) (fun _ _ => True)) (54, [some (.ref 0), some (.int v54_1), some (.int v54_2), some (.int v54_3), some (.int v54_4), o54_5], [], M)) := by
    intro n
    induction n with
    | zero =>
      exact ⟨(fun M v7_1 v7_2 v7_3 v7_4 o7_5 hJ v7_10 v7_11 v7_20 v7_21 v7_30 v7_31 v7_40 v7_41 hn => absurd hn (by omega)), (fun M v54_1 v54_2 v54_3 v54_4 o54_5 hJ v54_10 v54_11 v54_20 v54_21 v54_30 v54_31 v54_40 v54_41 hn => absurd hn (by omega))⟩
    | succ n ih =>
      obtain ⟨ih7, ih54⟩ := ih
      refine ⟨?_, ?_⟩
      · intro M v7_1 v7_2 v7_3 v7_4 o7_5 hJ v7_10 v7_11 v7_20 v7_21 v7_30 v7_31 v7_40 v7_41 hn
        refine w_lo dX8_heaviestPiece_7 rfl rfl rfl rfl ?_
        refine w_lo dX8_heaviestPiece_9 rfl rfl rfl rfl ?_
        refine w_gf dX8_heaviestPiece_10 rfl hJ.1.1 zs_0 (zr_0_4 hJ.1) ?_
        refine w_gfi dX8_heaviestPiece_13 rfl hJ.1 zs_49 (Nat.le_of_ble_eq_true rfl) zo_49_0 ?_
        intro x1 f2 h3 h4
        rcases zcut v7_4.toInt x1.toInt with h5 | h5
        · skip
          refine w_cge_f dX8_heaviestPiece_16 (t := 99) rfl (by omega) ?_
          refine w_lo dX8_heaviestPiece_19 rfl rfl rfl rfl ?_
          rcases zcut (0 : Int) v7_4.toInt with h6 | h6
          · skip
            refine w_ile_f dX8_heaviestPiece_21 (t := 54) rfl (by omega) ?_
            refine w_lo dX8_heaviestPiece_24 rfl rfl rfl rfl ?_
            refine w_gf dX8_heaviestPiece_25 rfl hJ.1.1 zs_0 (zr_0_4 hJ.1) ?_
            refine w_gf dX8_heaviestPiece_28 rfl hJ.1.1 zs_49 (zr_49_12 hJ.1) ?_
            refine w_lo dX8_heaviestPiece_31 rfl rfl rfl rfl ?_
            refine w_ic dX8_heaviestPiece_33 zi_1 ?_
            refine w_sub dX8_heaviestPiece_34 (by have := zt_1; omega) ?_
            intro x7 h8
            have := zt_1
            refine w_bai dX8_heaviestPiece_35 hJ.1 zs_60 (by omega) (by omega) zu_60 ?_
            intro x12 f9 h10 h11
            rcases Int.decEq x12.toInt (0 : Int) with h13 | h13
            · skip
              refine w_ieq_f dX8_heaviestPiece_36 (t := 54) rfl (by omega) ?_
              refine w_lo dX8_heaviestPiece_39 rfl rfl rfl rfl ?_
              refine w_lo dX8_heaviestPiece_40 rfl rfl rfl rfl ?_
              refine w_ic dX8_heaviestPiece_42 zi_1 ?_
              refine w_sub dX8_heaviestPiece_43 (by have := zt_1; omega) ?_
              intro x14 h15
              have := zt_1
              refine w_ss dX8_heaviestPiece_44 rfl rfl (As := [.int v7_1, .int x14]) rfl rfl (Nat.le_of_ble_eq_true rfl) ?_
              refine ZV.imp (k_2097 v7_1 (by omega) (by omega) x14 (by omega) (by omega) hN hJ.1) ?_
              rintro _ ⟨x19, M16, rfl, h20, h21, hJ17, hq18⟩
              have hJ22 := zJ_trans hJ hJ17 zSub_nil
              show ZW _ _ _ _ _ _ _ (47, [some (.ref 0), some (.int v7_1), some (.int v7_2), some (.int v7_3), some (.int v7_4), o7_5], [.int x19], M16)
              rcases Int.decEq x19.toInt (0 : Int) with h23 | h23
              · skip
                refine w_ine_t dX8_heaviestPiece_47 (t := 54) rfl (by omega) ?_
                exact ih54 M16 v7_1 v7_2 v7_3 v7_4 o7_5 hJ22 (by omega) (by omega) (by omega) (ztop _) (zbot _) (ztop _) (by omega) (by omega) (by omega)
              · skip
                refine w_ine_f dX8_heaviestPiece_47 (t := 54) rfl (by omega) ?_
                refine w_ic dX8_heaviestPiece_50 zi_1 ?_
                refine w_gt dX8_heaviestPiece_51 (t := 55) rfl ?_
                refine w_lo (ml' := [some (.ref 0), some (.int v7_1), some (.int v7_2), some (.int v7_3), some (.int v7_4), some (.int 1)]) dX8_heaviestPiece_55 rfl rfl rfl rfl ?_
                refine w_lo dX8_heaviestPiece_57 rfl rfl rfl rfl ?_
                obtain ⟨b24, f25, h26⟩ := zd_0_3 hJ22.1
                have h27 := zDm_b h26
                refine w_gf dX8_heaviestPiece_58 rfl hJ22.1.1 zs_0 f25 ?_
                refine w_gf dX8_heaviestPiece_61 rfl hJ22.1.1 (zs_1_0 h26) (zr_1_0_4 h26 hJ22.1) ?_
                refine w_lo dX8_heaviestPiece_64 rfl rfl rfl rfl ?_
                refine w_gf dX8_heaviestPiece_65 rfl hJ22.1.1 zs_0 (zr_0_4 hJ22.1) ?_
                refine w_gf dX8_heaviestPiece_68 rfl hJ22.1.1 zs_49 (zr_49_2 hJ22.1) ?_
                refine w_lo dX8_heaviestPiece_71 rfl rfl rfl rfl ?_
                refine w_iai dX8_heaviestPiece_73 hJ22.1 zs_50 (by omega) (by omega) zu_50 ?_
                intro x31 f28 h29 h30
                refine w_iai dX8_heaviestPiece_74 hJ22.1 (zs_1_2 h26) (by omega) (by omega) (zu_1_2 h26) ?_
                intro x35 f32 h33 h34
                refine w_lo dX8_heaviestPiece_75 rfl rfl rfl rfl ?_
                refine w_ieq_f dX8_heaviestPiece_77 (t := 84) rfl (by have := zt_1; omega) ?_
                refine w_lo dX8_heaviestPiece_80 rfl rfl rfl rfl ?_
                refine w_gt dX8_heaviestPiece_81 (t := 85) rfl ?_
                refine w_puI dX8_heaviestPiece_85 rfl rfl ?_
                intro x36
                refine w_lo (ml' := [some (.ref 0), some (.int v7_1), some (.int v7_2), some (.int x36), some (.int v7_4), some (.int 1)]) dX8_heaviestPiece_86 rfl rfl rfl rfl ?_
                refine w_lo dX8_heaviestPiece_87 rfl rfl rfl rfl ?_
                refine w_lo dX8_heaviestPiece_88 rfl rfl rfl rfl ?_
                refine w_mxI dX8_heaviestPiece_89 rfl (Nat.le_of_ble_eq_true rfl) ?_
                intro x37 h38 h39 h40
                skip
                show ZW _ _ _ _ _ _ _ (92, [some (.ref 0), some (.int v7_1), some (.int v7_2), some (.int x36), some (.int v7_4), some (.int 1)], [.int x37], M16)
                refine w_lo (ml' := [some (.ref 0), some (.int v7_1), some (.int x37), some (.int x36), some (.int v7_4), some (.int 1)]) dX8_heaviestPiece_92 rfl rfl rfl rfl ?_
                refine w_inc (kk := 4) dX8_heaviestPiece_93 rfl (m := 1) (by decide) (by omega) ?_
                intro x41 h42
                refine ⟨_, rfl, ?_⟩
                show ZW _ _ _ _ _ _ _ (96, [some (.ref 0), some (.int v7_1), some (.int x37), some (.int x36), some (.int x41), some (.int 1)], [], M16)
                refine w_gt dX8_heaviestPiece_96 (t := 7) rfl ?_
                exact ih7 M16 v7_1 x37 x36 x41 (some (.int 1)) hJ22 (by omega) (by omega) (by omega) (ztop _) (zbot _) (ztop _) (by omega) (by omega) (by have := zt_1; omega)
            · skip
              refine w_ieq_t dX8_heaviestPiece_36 (t := 54) rfl (by omega) ?_
              exact ih54 M v7_1 v7_2 v7_3 v7_4 o7_5 hJ (by omega) (by omega) (by omega) (ztop _) (zbot _) (ztop _) (by omega) (by omega) (by omega)
          · skip
            refine w_ile_t dX8_heaviestPiece_21 (t := 54) rfl (by omega) ?_
            exact ih54 M v7_1 v7_2 v7_3 v7_4 o7_5 hJ (by omega) (by omega) (by omega) (ztop _) (zbot _) (ztop _) (by omega) (by omega) (by omega)
        · skip
          refine w_cge_t dX8_heaviestPiece_16 (t := 99) rfl (by omega) ?_
          refine w_lo dX8_heaviestPiece_99 rfl rfl rfl rfl ?_
          refine w_eni dX8_heaviestPiece_100 rfl rfl ?_
          exact ⟨_, _, rfl, (by omega), (ztop _), hJ, trivial⟩
      · intro M v54_1 v54_2 v54_3 v54_4 o54_5 hJ v54_10 v54_11 v54_20 v54_21 v54_30 v54_31 v54_40 v54_41 hn
        refine w_ic dX8_heaviestPiece_54 zi_0 ?_
        refine w_lo (ml' := [some (.ref 0), some (.int v54_1), some (.int v54_2), some (.int v54_3), some (.int v54_4), some (.int 0)]) dX8_heaviestPiece_55 rfl rfl rfl rfl ?_
        refine w_lo dX8_heaviestPiece_57 rfl rfl rfl rfl ?_
        obtain ⟨b43, f44, h45⟩ := zd_0_3 hJ.1
        have h46 := zDm_b h45
        refine w_gf dX8_heaviestPiece_58 rfl hJ.1.1 zs_0 f44 ?_
        refine w_gf dX8_heaviestPiece_61 rfl hJ.1.1 (zs_1_0 h45) (zr_1_0_4 h45 hJ.1) ?_
        refine w_lo dX8_heaviestPiece_64 rfl rfl rfl rfl ?_
        refine w_gf dX8_heaviestPiece_65 rfl hJ.1.1 zs_0 (zr_0_4 hJ.1) ?_
        refine w_gf dX8_heaviestPiece_68 rfl hJ.1.1 zs_49 (zr_49_2 hJ.1) ?_
        refine w_lo dX8_heaviestPiece_71 rfl rfl rfl rfl ?_
        refine w_iai dX8_heaviestPiece_73 hJ.1 zs_50 (by omega) (by omega) zu_50 ?_
        intro x50 f47 h48 h49
        refine w_iai dX8_heaviestPiece_74 hJ.1 (zs_1_2 h45) (by omega) (by omega) (zu_1_2 h45) ?_
        intro x54 f51 h52 h53
        refine w_lo dX8_heaviestPiece_75 rfl rfl rfl rfl ?_
        refine w_ieq_t dX8_heaviestPiece_77 (t := 84) rfl (by have := zt_0; omega) ?_
        refine w_ic dX8_heaviestPiece_84 zi_0 ?_
        refine w_add dX8_heaviestPiece_85 (by have := zt_0; omega) ?_
        intro x55 h56
        have := zt_0
        refine w_lo (ml' := [some (.ref 0), some (.int v54_1), some (.int v54_2), some (.int x55), some (.int v54_4), some (.int 0)]) dX8_heaviestPiece_86 rfl rfl rfl rfl ?_
        refine w_lo dX8_heaviestPiece_87 rfl rfl rfl rfl ?_
        refine w_lo dX8_heaviestPiece_88 rfl rfl rfl rfl ?_
        refine w_mxI dX8_heaviestPiece_89 rfl (Nat.le_of_ble_eq_true rfl) ?_
        intro x57 h58 h59 h60
        skip
        show ZW _ _ _ _ _ _ _ (92, [some (.ref 0), some (.int v54_1), some (.int v54_2), some (.int x55), some (.int v54_4), some (.int 0)], [.int x57], M)
        refine w_lo (ml' := [some (.ref 0), some (.int v54_1), some (.int x57), some (.int x55), some (.int v54_4), some (.int 0)]) dX8_heaviestPiece_92 rfl rfl rfl rfl ?_
        refine w_inc (kk := 4) dX8_heaviestPiece_93 rfl (m := 1) (by decide) (by omega) ?_
        intro x61 h62
        refine ⟨_, rfl, ?_⟩
        show ZW _ _ _ _ _ _ _ (96, [some (.ref 0), some (.int v54_1), some (.int x57), some (.int x55), some (.int x61), some (.int 0)], [], M)
        refine w_gt dX8_heaviestPiece_96 (t := 7) rfl ?_
        exact ih7 M v54_1 x57 x55 x61 (some (.int 0)) hJ (by omega) (by omega) (by omega) (ztop _) (zbot _) (ztop _) (by omega) (by omega) (by have := zt_0; omega)
  obtain ⟨ih7, ih54⟩ := main 63
  show ZW _ _ _ _ _ _ _ (0, [some (.ref 0), some (.int a0), none, none, none, none], [], M0)
  refine w_ic dX8_heaviestPiece_0 zi_0 ?_
  refine w_lo (ml' := [some (.ref 0), some (.int a0), some (.int 0), none, none, none]) dX8_heaviestPiece_1 rfl rfl rfl rfl ?_
  refine w_ic dX8_heaviestPiece_2 zi_0 ?_
  refine w_lo (ml' := [some (.ref 0), some (.int a0), some (.int 0), some (.int 0), none, none]) dX8_heaviestPiece_3 rfl rfl rfl rfl ?_
  refine w_ic dX8_heaviestPiece_4 zi_0 ?_
  refine w_lo (ml' := [some (.ref 0), some (.int a0), some (.int 0), some (.int 0), some (.int 0), none]) dX8_heaviestPiece_5 rfl rfl rfl rfl ?_
  exact ih7 M0 a0 0 0 0 none hJ0 (by omega) (by omega) (by have := zt_0; omega) (ztop _) (zbot _) (ztop _) (by have := zt_0; omega) (by have := zt_0; omega) (by have := zt_0; omega)
set_option maxRecDepth 100000 in
theorem k_2099 {X : List Int32} {d N : Nat} {M0 : zM} (a0 : Int32) (ha00 : (0 : Int) ≤ a0.toInt) (ha01 : a0.toInt ≤ 2047) (a1 : Int32) (ha10 : (0 : Int) ≤ a1.toInt) (ha11 : a1.toInt ≤ 3) (hN : N ≤ 600) (hB0 : zB N M0) : ZV X (d + 2) 2099 [.int a0, .int a1] M0 (zRI N [] M0 (-1) (10) (fun _ _ => True)) := by
  have hJ0 : zJ N [] M0 M0 := zJ_refl hB0
  refine ZV.of (ini := false) rfl (Nat.le_of_ble_eq_true rfl) (by decide +kernel) ?_
  have main : ∀ n : Nat,
      (∀ (M : zM) (v4_0 : Int32) (v4_1 : Int32) (v4_2 : Int32) (v4_3 : Int32), zJ N [] M0 M → ((0 : Int) ≤ v4_0.toInt) → (v4_0.toInt ≤ 2047) → ((0 : Int) ≤ v4_1.toInt) → (v4_1.toInt ≤ 3) → ((-2147483648 : Int) ≤ v4_2.toInt) → (v4_2.toInt ≤ 2147483647) → ((0 : Int) ≤ v4_3.toInt) → (v4_3.toInt ≤ 11) → 3 * (11 - v4_3.toInt) + 1 < (n : Int) → ZW X (d + 1) 8 false (some .int) cX8_knotOfSet (zRI N [] M0 (-1) (10) (fun _ _ => True)) (4, [some (.int v4_0), some (.int v4_1), some (.int v4_2), some (.int v4_3)], [], M)) := by
    intro n
    induction n with
    | zero =>
      exact (fun M v4_0 v4_1 v4_2 v4_3 hJ v4_00 v4_01 v4_10 v4_11 v4_20 v4_21 v4_30 v4_31 hn => absurd hn (by omega))
    | succ n ih =>
      have ih4 := ih
      · intro M v4_0 v4_1 v4_2 v4_3 hJ v4_00 v4_01 v4_10 v4_11 v4_20 v4_21 v4_30 v4_31 hn
        refine w_lo dX8_knotOfSet_4 rfl rfl rfl rfl ?_
        refine w_bi dX8_knotOfSet_5 (c := 11) (by decide) ?_
        rcases zcut v4_3.toInt (11 : Int) with h1 | h1
        · skip
          refine w_cge_f dX8_knotOfSet_7 (t := 34) rfl (by have := zt_11; omega) ?_
          refine w_lo dX8_knotOfSet_10 rfl rfl rfl rfl ?_
          refine w_lo dX8_knotOfSet_11 rfl rfl rfl rfl ?_
          refine w_ss dX8_knotOfSet_12 rfl rfl (As := [.int v4_0, .int v4_3]) rfl rfl (Nat.le_of_ble_eq_true rfl) ?_
          refine ZV.imp (k_2097 v4_0 (by omega) (by omega) v4_3 (by omega) (by omega) hN hJ.1) ?_
          rintro _ ⟨x5, M2, rfl, h6, h7, hJ3, hq4⟩
          have hJ8 := zJ_trans hJ hJ3 zSub_nil
          show ZW _ _ _ _ _ _ _ (15, [some (.int v4_0), some (.int v4_1), some (.int v4_2), some (.int v4_3)], [.int x5], M2)
          rcases Int.decEq x5.toInt (0 : Int) with h9 | h9
          · skip
            refine w_ieq_f dX8_knotOfSet_15 (t := 28) rfl (by omega) ?_
            refine w_lo dX8_knotOfSet_18 rfl rfl rfl rfl ?_
            refine w_lo dX8_knotOfSet_19 rfl rfl rfl rfl ?_
            rcases Int.decEq v4_2.toInt v4_1.toInt with h10 | h10
            · skip
              refine w_cne_t dX8_knotOfSet_20 (t := 25) rfl (by omega) ?_
              refine w_incT (kk := 2) dX8_knotOfSet_25 rfl ?_
              intro x11
              refine ⟨_, rfl, ?_⟩
              show ZW _ _ _ _ _ _ _ (28, [some (.int v4_0), some (.int v4_1), some (.int x11), some (.int v4_3)], [], M2)
              refine w_inc (kk := 3) dX8_knotOfSet_28 rfl (m := 1) (by decide) (by omega) ?_
              intro x13 h14
              refine ⟨_, rfl, ?_⟩
              show ZW _ _ _ _ _ _ _ (31, [some (.int v4_0), some (.int v4_1), some (.int x11), some (.int x13)], [], M2)
              refine w_gt dX8_knotOfSet_31 (t := 4) rfl ?_
              exact ih4 M2 v4_0 v4_1 x11 x13 hJ8 (by omega) (by omega) (by omega) (by omega) (zbot _) (ztop _) (by omega) (by omega) (by omega)
            · skip
              refine w_cne_f dX8_knotOfSet_20 (t := 25) rfl (by omega) ?_
              refine w_lo dX8_knotOfSet_23 rfl rfl rfl rfl ?_
              refine w_eni dX8_knotOfSet_24 rfl rfl ?_
              exact ⟨_, _, rfl, (by omega), (by omega), hJ8, trivial⟩
          · skip
            refine w_ieq_t dX8_knotOfSet_15 (t := 28) rfl (by omega) ?_
            refine w_inc (kk := 3) dX8_knotOfSet_28 rfl (m := 1) (by decide) (by omega) ?_
            intro x15 h16
            refine ⟨_, rfl, ?_⟩
            show ZW _ _ _ _ _ _ _ (31, [some (.int v4_0), some (.int v4_1), some (.int v4_2), some (.int x15)], [], M2)
            refine w_gt dX8_knotOfSet_31 (t := 4) rfl ?_
            exact ih4 M2 v4_0 v4_1 v4_2 x15 hJ8 (by omega) (by omega) (by omega) (by omega) (zbot _) (ztop _) (by omega) (by omega) (by omega)
        · skip
          refine w_cge_t dX8_knotOfSet_7 (t := 34) rfl (by have := zt_11; omega) ?_
          refine w_ic dX8_knotOfSet_34 zi_m1 ?_
          refine w_en dX8_knotOfSet_35 rfl ?_
          exact ⟨_, _, rfl, (by have := zt_m1; omega), (by have := zt_m1; omega), hJ, trivial⟩
  have ih4 := main 45
  show ZW _ _ _ _ _ _ _ (0, [some (.int a0), some (.int a1), none, none], [], M0)
  refine w_ic dX8_knotOfSet_0 zi_0 ?_
  refine w_lo (ml' := [some (.int a0), some (.int a1), some (.int 0), none]) dX8_knotOfSet_1 rfl rfl rfl rfl ?_
  refine w_ic dX8_knotOfSet_2 zi_0 ?_
  refine w_lo (ml' := [some (.int a0), some (.int a1), some (.int 0), some (.int 0)]) dX8_knotOfSet_3 rfl rfl rfl rfl ?_
  exact ih4 M0 a0 a1 0 0 hJ0 (by omega) (by omega) (by omega) (by omega) (zbot _) (ztop _) (by have := zt_0; omega) (by have := zt_0; omega) (by have := zt_0; omega)
set_option maxRecDepth 100000 in
theorem k_2095 {X : List Int32} {d N : Nat} {M0 : zM} (a0 : Int32) (a1 : Int32) (hN : N ≤ 600) (hB0 : zB N M0) : ZV X (d + 3) 2095 [.ref 0, .int a0, .int a1] M0 (zRI N [] M0 (-1) (2147483647) (fun _ _ => True)) := by
  have hJ0 : zJ N [] M0 M0 := zJ_refl hB0
  refine ZV.of (ini := false) rfl (Nat.le_of_ble_eq_true rfl) (by decide +kernel) ?_
  have main : ∀ n : Nat,
      (∀ (M : zM) (v50_1 : Int32) (v50_2 : Int32) (v50_3 : Int32) (v50_4 : Int32) (v50_5 : Int32) (o50_6 : Option Value), zJ N [] M0 M → ((0 : Int) ≤ v50_1.toInt) → (v50_1.toInt ≤ 4) → ((-1 : Int) ≤ v50_2.toInt) → (v50_2.toInt ≤ 3) → ((-1 : Int) ≤ v50_3.toInt) → (v50_3.toInt ≤ 2147483647) → ((0 : Int) ≤ v50_4.toInt) → (v50_4.toInt ≤ 2047) → ((-1 : Int) ≤ v50_5.toInt) → (v50_5.toInt ≤ 2047) → 3 * (v50_5.toInt - (-1)) + 1 < (n : Int) → ZW X (d + 2) 8 false (some .int) cX8_cut (zRI N [] M0 (-1) (2147483647) (fun _ _ => True)) (50, [some (.ref 0), some (.int v50_1), some (.int v50_2), some (.int v50_3), some (.int v50_4), some (.int v50_5), o50_6], [], M)) := by
    intro n
    induction n with
    | zero =>
      exact (fun M v50_1 v50_2 v50_3 v50_4 v50_5 o50_6 hJ v50_10 v50_11 v50_20 v50_21 v50_30 v50_31 v50_40 v50_41 v50_50 v50_51 hn => absurd hn (by omega))
    | succ n ih =>
      have ih50 := ih
      · intro M v50_1 v50_2 v50_3 v50_4 v50_5 o50_6 hJ v50_10 v50_11 v50_20 v50_21 v50_30 v50_31 v50_40 v50_41 v50_50 v50_51 hn
        refine w_lo dX8_cut_50 rfl rfl rfl rfl ?_
        rcases zcut v50_5.toInt (0 : Int) with h1 | h1
        · skip
          refine w_ilt_t dX8_cut_52 (t := 105) rfl (by omega) ?_
          refine w_lo dX8_cut_105 rfl rfl rfl rfl ?_
          refine w_ic dX8_cut_106 zi_m1 ?_
          rcases Int.decEq v50_2.toInt (-1 : Int) with h2 | h2
          · skip
            refine w_cne_t dX8_cut_107 (t := 114) rfl (by have := zt_m1; omega) ?_
            refine w_lo dX8_cut_114 rfl rfl rfl rfl ?_
            refine w_lo dX8_cut_116 rfl rfl rfl rfl ?_
            refine w_ss dX8_cut_117 rfl rfl (As := [.int v50_4, .int v50_2]) rfl rfl (Nat.le_of_ble_eq_true rfl) ?_
            refine ZV.imp (k_2099 v50_4 (by omega) (by omega) v50_2 (by omega) (by omega) hN hJ.1) ?_
            rintro _ ⟨x6, M3, rfl, h7, h8, hJ4, hq5⟩
            have hJ9 := zJ_trans hJ hJ4 zSub_nil
            show ZW _ _ _ _ _ _ _ (120, [some (.ref 0), some (.int v50_1), some (.int v50_2), some (.int v50_3), some (.int v50_4), some (.int v50_5), o50_6], [.int x6], M3)
            refine w_eni dX8_cut_120 rfl rfl ?_
            exact ⟨_, _, rfl, (by omega), (ztop _), hJ9, trivial⟩
          · skip
            refine w_cne_f dX8_cut_107 (t := 114) rfl (by have := zt_m1; omega) ?_
            refine w_lo dX8_cut_110 rfl rfl rfl rfl ?_
            refine w_gt dX8_cut_111 (t := 120) rfl ?_
            refine w_eni dX8_cut_120 rfl rfl ?_
            exact ⟨_, _, rfl, (by omega), (ztop _), hJ, trivial⟩
        · skip
          refine w_ilt_f dX8_cut_52 (t := 105) rfl (by omega) ?_
          refine w_lo dX8_cut_55 rfl rfl rfl rfl ?_
          refine w_ss dX8_cut_57 rfl rfl (As := [.int v50_5]) rfl rfl (Nat.le_of_ble_eq_true rfl) ?_
          refine ZV.imp (k_2816 v50_5 (by omega) (by omega) hN hJ.1) ?_
          rintro _ ⟨x13, M10, rfl, h14, h15, hJ11, hq12⟩
          have hJ16 := zJ_trans hJ hJ11 zSub_nil
          show ZW _ _ _ _ _ _ _ (60, [some (.ref 0), some (.int v50_1), some (.int v50_2), some (.int v50_3), some (.int v50_4), some (.int v50_5), o50_6], [.int x13], M10)
          refine w_lo dX8_cut_60 rfl rfl rfl rfl ?_
          rcases Int.decEq x13.toInt v50_1.toInt with h17 | h17
          · skip
            refine w_cne_t dX8_cut_61 (t := 99) rfl (by omega) ?_
            refine w_inc (kk := 5) dX8_cut_99 rfl (m := -1) (by decide) (by omega) ?_
            intro x18 h19
            refine ⟨_, rfl, ?_⟩
            show ZW _ _ _ _ _ _ _ (102, [some (.ref 0), some (.int v50_1), some (.int v50_2), some (.int v50_3), some (.int v50_4), some (.int x18), o50_6], [], M10)
            refine w_gt dX8_cut_102 (t := 50) rfl ?_
            exact ih50 M10 v50_1 v50_2 v50_3 v50_4 x18 o50_6 hJ16 (by omega) (by omega) (by omega) (by omega) (by omega) (ztop _) (by omega) (by omega) (by omega) (by omega) (by omega)
          · skip
            refine w_cne_f dX8_cut_61 (t := 99) rfl (by omega) ?_
            refine w_lo dX8_cut_64 rfl rfl rfl rfl ?_
            refine w_lo dX8_cut_65 rfl rfl rfl rfl ?_
            refine w_iv dX8_cut_67 rfl rfl (As := [.int v50_5]) rfl rfl hJ16.1.1 zs_0 (Nat.le_of_ble_eq_true rfl) ?_
            refine ZV.imp (k_2096 v50_5 (by omega) (by omega) hN hJ16.1) ?_
            rintro _ ⟨x23, M20, rfl, h24, h25, hJ21, hq22⟩
            have hJ26 := zJ_trans hJ16 hJ21 zSub_nil
            show ZW _ _ _ _ _ _ _ (70, [some (.ref 0), some (.int v50_1), some (.int v50_2), some (.int v50_3), some (.int v50_4), some (.int v50_5), o50_6], [.int x23], M20)
            rcases Int.decEq x23.toInt (0 : Int) with h27 | h27
            · skip
              refine w_ieq_f dX8_cut_70 (t := 99) rfl (by omega) ?_
              refine w_lo dX8_cut_73 rfl rfl rfl rfl ?_
              refine w_lo dX8_cut_74 rfl rfl rfl rfl ?_
              refine w_iv dX8_cut_76 rfl rfl (As := [.int v50_5]) rfl rfl hJ26.1.1 zs_0 (Nat.le_of_ble_eq_true rfl) ?_
              refine ZV.imp (k_2098 v50_5 (by omega) (by omega) hN hJ26.1) ?_
              rintro _ ⟨x31, M28, rfl, h32, h33, hJ29, hq30⟩
              have hJ34 := zJ_trans hJ26 hJ29 zSub_nil
              show ZW _ _ _ _ _ _ _ (79, [some (.ref 0), some (.int v50_1), some (.int v50_2), some (.int v50_3), some (.int v50_4), some (.int v50_5), o50_6], [.int x31], M28)
              refine w_lo (ml' := [some (.ref 0), some (.int v50_1), some (.int v50_2), some (.int v50_3), some (.int v50_4), some (.int v50_5), some (.int x31)]) dX8_cut_79 rfl rfl rfl rfl ?_
              refine w_lo dX8_cut_81 rfl rfl rfl rfl ?_
              refine w_ic dX8_cut_82 zi_m1 ?_
              rcases Int.decEq v50_3.toInt (-1 : Int) with h35 | h35
              · skip
                refine w_ceq_f dX8_cut_83 (t := 92) rfl (by have := zt_m1; omega) ?_
                refine w_lo dX8_cut_86 rfl rfl rfl rfl ?_
                refine w_lo dX8_cut_88 rfl rfl rfl rfl ?_
                rcases zcut x31.toInt v50_3.toInt with h36 | h36
                · skip
                  refine w_cge_f dX8_cut_89 (t := 99) rfl (by omega) ?_
                  refine w_lo dX8_cut_92 rfl rfl rfl rfl ?_
                  refine w_lo (ml' := [some (.ref 0), some (.int v50_1), some (.int v50_2), some (.int x31), some (.int v50_4), some (.int v50_5), some (.int x31)]) dX8_cut_94 rfl rfl rfl rfl ?_
                  refine w_lo dX8_cut_95 rfl rfl rfl rfl ?_
                  refine w_lo (ml' := [some (.ref 0), some (.int v50_1), some (.int v50_2), some (.int x31), some (.int v50_5), some (.int v50_5), some (.int x31)]) dX8_cut_97 rfl rfl rfl rfl ?_
                  refine w_inc (kk := 5) dX8_cut_99 rfl (m := -1) (by decide) (by omega) ?_
                  intro x37 h38
                  refine ⟨_, rfl, ?_⟩
                  show ZW _ _ _ _ _ _ _ (102, [some (.ref 0), some (.int v50_1), some (.int v50_2), some (.int x31), some (.int v50_5), some (.int x37), some (.int x31)], [], M28)
                  refine w_gt dX8_cut_102 (t := 50) rfl ?_
                  exact ih50 M28 v50_1 v50_2 x31 v50_5 x37 (some (.int x31)) hJ34 (by omega) (by omega) (by omega) (by omega) (by omega) (ztop _) (by omega) (by omega) (by omega) (by omega) (by omega)
                · skip
                  refine w_cge_t dX8_cut_89 (t := 99) rfl (by omega) ?_
                  refine w_inc (kk := 5) dX8_cut_99 rfl (m := -1) (by decide) (by omega) ?_
                  intro x39 h40
                  refine ⟨_, rfl, ?_⟩
                  show ZW _ _ _ _ _ _ _ (102, [some (.ref 0), some (.int v50_1), some (.int v50_2), some (.int v50_3), some (.int v50_4), some (.int x39), some (.int x31)], [], M28)
                  refine w_gt dX8_cut_102 (t := 50) rfl ?_
                  exact ih50 M28 v50_1 v50_2 v50_3 v50_4 x39 (some (.int x31)) hJ34 (by omega) (by omega) (by omega) (by omega) (by omega) (ztop _) (by omega) (by omega) (by omega) (by omega) (by omega)
              · skip
                refine w_ceq_t dX8_cut_83 (t := 92) rfl (by have := zt_m1; omega) ?_
                refine w_lo dX8_cut_92 rfl rfl rfl rfl ?_
                refine w_lo (ml' := [some (.ref 0), some (.int v50_1), some (.int v50_2), some (.int x31), some (.int v50_4), some (.int v50_5), some (.int x31)]) dX8_cut_94 rfl rfl rfl rfl ?_
                refine w_lo dX8_cut_95 rfl rfl rfl rfl ?_
                refine w_lo (ml' := [some (.ref 0), some (.int v50_1), some (.int v50_2), some (.int x31), some (.int v50_5), some (.int v50_5), some (.int x31)]) dX8_cut_97 rfl rfl rfl rfl ?_
                refine w_inc (kk := 5) dX8_cut_99 rfl (m := -1) (by decide) (by omega) ?_
                intro x41 h42
                refine ⟨_, rfl, ?_⟩
                show ZW _ _ _ _ _ _ _ (102, [some (.ref 0), some (.int v50_1), some (.int v50_2), some (.int x31), some (.int v50_5), some (.int x41), some (.int x31)], [], M28)
                refine w_gt dX8_cut_102 (t := 50) rfl ?_
                exact ih50 M28 v50_1 v50_2 x31 v50_5 x41 (some (.int x31)) hJ34 (by omega) (by omega) (by omega) (by omega) (by omega) (ztop _) (by omega) (by omega) (by omega) (by omega) (by omega)
            · skip
              refine w_ieq_t dX8_cut_70 (t := 99) rfl (by omega) ?_
              refine w_inc (kk := 5) dX8_cut_99 rfl (m := -1) (by decide) (by omega) ?_
              intro x43 h44
              refine ⟨_, rfl, ?_⟩
              show ZW _ _ _ _ _ _ _ (102, [some (.ref 0), some (.int v50_1), some (.int v50_2), some (.int v50_3), some (.int v50_4), some (.int x43), o50_6], [], M20)
              refine w_gt dX8_cut_102 (t := 50) rfl ?_
              exact ih50 M20 v50_1 v50_2 v50_3 v50_4 x43 o50_6 hJ26 (by omega) (by omega) (by omega) (by omega) (by omega) (ztop _) (by omega) (by omega) (by omega) (by omega) (by omega)
  have ih50 := main 6156
  show ZW _ _ _ _ _ _ _ (0, [some (.ref 0), some (.int a0), some (.int a1), none, none, none, none], [], M0)
  refine w_lo dX8_cut_0 rfl rfl rfl rfl ?_
  rcases zcut a0.toInt (0 : Int) with h45 | h45
  · skip
    refine w_ilt_t dX8_cut_1 (t := 38) rfl (by omega) ?_
    refine w_ic dX8_cut_38 zi_m1 ?_
    refine w_en dX8_cut_39 rfl ?_
    exact ⟨_, _, rfl, (by have := zt_m1; omega), (ztop _), hJ0, trivial⟩
  · skip
    refine w_ilt_f dX8_cut_1 (t := 38) rfl (by omega) ?_
    refine w_lo dX8_cut_4 rfl rfl rfl rfl ?_
    refine w_ic dX8_cut_5 zi_4 ?_
    rcases zcut (4 : Int) a0.toInt with h46 | h46
    · skip
      refine w_cgt_t dX8_cut_6 (t := 38) rfl (by have := zt_4; omega) ?_
      refine w_ic dX8_cut_38 zi_m1 ?_
      refine w_en dX8_cut_39 rfl ?_
      exact ⟨_, _, rfl, (by have := zt_m1; omega), (ztop _), hJ0, trivial⟩
    · skip
      refine w_cgt_f dX8_cut_6 (t := 38) rfl (by have := zt_4; omega) ?_
      refine w_lo dX8_cut_9 rfl rfl rfl rfl ?_
      refine w_gf dX8_cut_10 rfl hJ0.1.1 zs_0 (zr_0_4 hJ0.1) ?_
      refine w_gfi dX8_cut_13 rfl hJ0.1 zs_49 (Nat.le_of_ble_eq_true rfl) zo_49_0 ?_
      intro x47 f48 h49 h50
      refine w_ic dX8_cut_16 zi_1 ?_
      rcases zcut x47.toInt (1 : Int) with h51 | h51
      · skip
        refine w_clt_t dX8_cut_17 (t := 38) rfl (by have := zt_1; omega) ?_
        refine w_ic dX8_cut_38 zi_m1 ?_
        refine w_en dX8_cut_39 rfl ?_
        exact ⟨_, _, rfl, (by have := zt_m1; omega), (ztop _), hJ0, trivial⟩
      · skip
        refine w_clt_f dX8_cut_17 (t := 38) rfl (by have := zt_1; omega) ?_
        refine w_lo dX8_cut_20 rfl rfl rfl rfl ?_
        refine w_iv dX8_cut_21 rfl rfl (As := []) rfl rfl hJ0.1.1 zs_0 (Nat.le_of_ble_eq_true rfl) ?_
        refine ZV.imp (k_2056 hN hJ0.1) ?_
        rintro _ ⟨x55, M52, rfl, h56, h57, hJ53, hq54⟩
        have hJ58 := zJ_trans hJ0 hJ53 zSub_nil
        show ZW _ _ _ _ _ _ _ (24, [some (.ref 0), some (.int a0), some (.int a1), none, none, none, none], [.int x55], M52)
        refine w_lo dX8_cut_24 rfl rfl rfl rfl ?_
        rcases zcut x55.toInt a0.toInt with h59 | h59
        · skip
          refine w_clt_t dX8_cut_25 (t := 38) rfl (by omega) ?_
          refine w_ic dX8_cut_38 zi_m1 ?_
          refine w_en dX8_cut_39 rfl ?_
          exact ⟨_, _, rfl, (by have := zt_m1; omega), (ztop _), hJ58, trivial⟩
        · skip
          refine w_clt_f dX8_cut_25 (t := 38) rfl (by omega) ?_
          refine w_lo dX8_cut_28 rfl rfl rfl rfl ?_
          refine w_ic dX8_cut_29 zi_m1 ?_
          rcases zcut a1.toInt (-1 : Int) with h60 | h60
          · skip
            refine w_clt_t dX8_cut_30 (t := 38) rfl (by have := zt_m1; omega) ?_
            refine w_ic dX8_cut_38 zi_m1 ?_
            refine w_en dX8_cut_39 rfl ?_
            exact ⟨_, _, rfl, (by have := zt_m1; omega), (ztop _), hJ58, trivial⟩
          · skip
            refine w_clt_f dX8_cut_30 (t := 38) rfl (by have := zt_m1; omega) ?_
            refine w_lo dX8_cut_33 rfl rfl rfl rfl ?_
            refine w_lo dX8_cut_34 rfl rfl rfl rfl ?_
            rcases zcut a1.toInt a0.toInt with h61 | h61
            · skip
              refine w_clt_t dX8_cut_35 (t := 40) rfl (by omega) ?_
              refine w_ic dX8_cut_40 zi_m1 ?_
              refine w_lo (ml' := [some (.ref 0), some (.int a0), some (.int a1), some (.int (-1)), none, none, none]) dX8_cut_41 rfl rfl rfl rfl ?_
              refine w_ic dX8_cut_42 zi_0 ?_
              refine w_lo (ml' := [some (.ref 0), some (.int a0), some (.int a1), some (.int (-1)), some (.int 0), none, none]) dX8_cut_43 rfl rfl rfl rfl ?_
              refine w_si dX8_cut_45 (c := 2047) (by decide) ?_
              refine w_lo (ml' := [some (.ref 0), some (.int a0), some (.int a1), some (.int (-1)), some (.int 0), some (.int 2047), none]) dX8_cut_48 rfl rfl rfl rfl ?_
              exact ih50 M52 a0 a1 (-1) 0 2047 none hJ58 (by omega) (by omega) (by omega) (by omega) (by have := zt_m1; omega) (ztop _) (by have := zt_0; omega) (by have := zt_0; omega) (by have := zt_2047; omega) (by have := zt_2047; omega) (by have := zt_m1; have := zt_0; have := zt_2047; omega)
            · skip
              refine w_clt_f dX8_cut_35 (t := 40) rfl (by omega) ?_
              refine w_ic dX8_cut_38 zi_m1 ?_
              refine w_en dX8_cut_39 rfl ?_
              exact ⟨_, _, rfl, (by have := zt_m1; omega), (ztop _), hJ58, trivial⟩
set_option maxRecDepth 100000 in
theorem k_2101_c1 {X : List Int32} {d N : Nat} {M0 : zM} (a0 : Int32) (ha00 : (0 : Int) ≤ a0.toInt) (ha01 : a0.toInt ≤ 11) (hN : N ≤ 600) (hB0 : zB N M0) : ZV X (d + 1) 2101 [.ref 0, .int a0, .int 1] M0 (zRI N [] M0 (0) (4095) (fun _ _ => True)) := by
  have hJ0 : zJ N [] M0 M0 := zJ_refl hB0
  refine ZV.of (ini := false) rfl (Nat.le_of_ble_eq_true rfl) (by decide +kernel) ?_
  have main : ∀ n : Nat,
      (∀ (M : zM) (u28_1 : Int32) (v28_3 : Int32) (v28_4 : Int32) (v28_5 : Int32) (o28_6 : Option Value) (o28_7 : Option Value), zJ N [] M0 M → ((-2147483648 : Int) ≤ v28_3.toInt) → (v28_3.toInt ≤ 2147483647) → ((0 : Int) ≤ v28_4.toInt) → (v28_4.toInt ≤ 4095) → ((1 : Int) ≤ v28_5.toInt) → (v28_5.toInt ≤ 12) → 4 * (12 - v28_5.toInt) + 2 < (n : Int) → ZW X (d + 0) 8 false (some .int) cX8_takenBy (zRI N [] M0 (0) (4095) (fun _ _ => True)) (28, [some (.ref 0), some (.int u28_1), some (.int 1), some (.int v28_3), some (.int v28_4), some (.int v28_5), o28_6, o28_7], [], M)) ∧
      (∀ (M : zM) (u58_1 : Int32) (v58_3 : Int32) (v58_4 : Int32) (v58_5 : Int32) (o58_6 : Option Value) (o58_7 : Option Value) (s58_0 : Int32), zJ N [] M0 M → ((-2147483648 : Int) ≤ v58_3.toInt) → (v58_3.toInt ≤ 2147483647) → ((0 : Int) ≤ v58_4.toInt) → (v58_4.toInt ≤ 4095) → ((1 : Int) ≤ v58_5.toInt) → (v58_5.toInt ≤ 11) → ((0 : Int) ≤ s58_0.toInt) → (s58_0.toInt ≤ 10) → 4 * (12 - v58_5.toInt) + 1 < (n : Int) → ZW X (d + 0) 8 false (some .int) cX8_takenBy (zRI N [] M0 (0) (4095) (fun _ _ => True)) (58, [some (.ref 0), some (.int u58_1), some (.int 1), some (.int v58_3), some (.int v58_4), some (.int v58_5), o58_6, o58_7], [.int s58_0], M)) := by
    intro n
    induction n with
    | zero =>
      exact ⟨(fun M u28_1 v28_3 v28_4 v28_5 o28_6 o28_7 hJ v28_30 v28_31 v28_40 v28_41 v28_50 v28_51 hn => absurd hn (by omega)), (fun M u58_1 v58_3 v58_4 v58_5 o58_6 o58_7 s58_0 hJ v58_30 v58_31 v58_40 v58_41 v58_50 v58_51 s58_00 s58_01 hn => absurd hn (by omega))⟩
    | succ n ih =>
      obtain ⟨ih28, ih58⟩ := ih
      refine ⟨?_, ?_⟩
      · intro M u28_1 v28_3 v28_4 v28_5 o28_6 o28_7 hJ v28_30 v28_31 v28_40 v28_41 v28_50 v28_51 hn
        refine w_lo dX8_takenBy_28 rfl rfl rfl rfl ?_
        refine w_ilt_f dX8_takenBy_30 (t := 138) rfl (by omega) ?_
        refine w_lo dX8_takenBy_33 rfl rfl rfl rfl ?_
        refine w_lo dX8_takenBy_35 rfl rfl rfl rfl ?_
        refine w_gf dX8_takenBy_36 rfl hJ.1.1 zs_0 (zr_0_4 hJ.1) ?_
        refine w_gfi dX8_takenBy_39 rfl hJ.1 zs_49 (Nat.le_of_ble_eq_true rfl) zo_49_0 ?_
        intro x1 f2 h3 h4
        rcases zcut v28_5.toInt x1.toInt with h5 | h5
        · skip
          refine w_cge_f dX8_takenBy_42 (t := 138) rfl (by omega) ?_
          refine w_lo dX8_takenBy_45 rfl rfl rfl rfl ?_
          refine w_ile_f dX8_takenBy_46 (t := 56) rfl (by have := zt_1; omega) ?_
          refine w_lo dX8_takenBy_49 rfl rfl rfl rfl ?_
          refine w_ic dX8_takenBy_51 zi_1 ?_
          refine w_sub dX8_takenBy_52 (by have := zt_1; omega) ?_
          intro x6 h7
          have := zt_1
          refine w_gt dX8_takenBy_53 (t := 58) rfl ?_
          exact ih58 M u28_1 v28_3 v28_4 v28_5 o28_6 o28_7 x6 hJ (zbot _) (ztop _) (by omega) (by omega) (by omega) (by omega) (by omega) (by omega) (by have := zt_1; omega)
        · skip
          refine w_cge_t dX8_takenBy_42 (t := 138) rfl (by omega) ?_
          refine w_lo dX8_takenBy_138 rfl rfl rfl rfl ?_
          refine w_eni dX8_takenBy_140 rfl rfl ?_
          exact ⟨_, _, rfl, (by omega), (by omega), hJ, trivial⟩
      · intro M u58_1 v58_3 v58_4 v58_5 o58_6 o58_7 s58_0 hJ v58_30 v58_31 v58_40 v58_41 v58_50 v58_51 s58_00 s58_01 hn
        refine w_lo (ml' := [some (.ref 0), some (.int u58_1), some (.int 1), some (.int v58_3), some (.int v58_4), some (.int v58_5), some (.int s58_0), o58_7]) dX8_takenBy_58 rfl rfl rfl rfl ?_
        refine w_lo dX8_takenBy_60 rfl rfl rfl rfl ?_
        obtain ⟨b8, f9, h10⟩ := zd_0_3 hJ.1
        have h11 := zDm_b h10
        refine w_gf dX8_takenBy_61 rfl hJ.1.1 zs_0 f9 ?_
        refine w_gf dX8_takenBy_64 rfl hJ.1.1 (zs_1_0 h10) (zr_1_0_4 h10 hJ.1) ?_
        refine w_lo dX8_takenBy_67 rfl rfl rfl rfl ?_
        refine w_gf dX8_takenBy_68 rfl hJ.1.1 zs_0 (zr_0_4 hJ.1) ?_
        refine w_gf dX8_takenBy_71 rfl hJ.1.1 zs_49 (zr_49_2 hJ.1) ?_
        refine w_lo dX8_takenBy_74 rfl rfl rfl rfl ?_
        refine w_iai dX8_takenBy_76 hJ.1 zs_50 (by omega) (by omega) zu_50 ?_
        intro x15 f12 h13 h14
        refine w_iai dX8_takenBy_77 hJ.1 (zs_1_2 h10) (by omega) (by omega) (zu_1_2 h10) ?_
        intro x19 f16 h17 h18
        refine w_lo (ml' := [some (.ref 0), some (.int u58_1), some (.int 1), some (.int v58_3), some (.int v58_4), some (.int v58_5), some (.int s58_0), some (.int x19)]) dX8_takenBy_78 rfl rfl rfl rfl ?_
        refine w_lo dX8_takenBy_80 rfl rfl rfl rfl ?_
        refine w_lo dX8_takenBy_81 rfl rfl rfl rfl ?_
        refine w_gf dX8_takenBy_82 rfl hJ.1.1 zs_0 (zr_0_4 hJ.1) ?_
        refine w_gf dX8_takenBy_85 rfl hJ.1.1 zs_49 (zr_49_13 hJ.1) ?_
        refine w_lo dX8_takenBy_88 rfl rfl rfl rfl ?_
        refine w_iai dX8_takenBy_90 hJ.1 zs_61 (by omega) (by omega) zu_61 ?_
        intro x23 f20 h21 h22
        refine w_puI dX8_takenBy_91 rfl rfl ?_
        intro x24
        refine w_lo (ml' := [some (.ref 0), some (.int u58_1), some (.int 1), some (.int x24), some (.int v58_4), some (.int v58_5), some (.int s58_0), some (.int x19)]) dX8_takenBy_92 rfl rfl rfl rfl ?_
        refine w_lo dX8_takenBy_93 rfl rfl rfl rfl ?_
        refine w_gf dX8_takenBy_94 rfl hJ.1.1 zs_0 (zr_0_4 hJ.1) ?_
        refine w_gf dX8_takenBy_97 rfl hJ.1.1 zs_49 (zr_49_12 hJ.1) ?_
        refine w_lo dX8_takenBy_100 rfl rfl rfl rfl ?_
        refine w_bai dX8_takenBy_102 hJ.1 zs_60 (by omega) (by omega) zu_60 ?_
        intro x28 f25 h26 h27
        rcases Int.decEq x28.toInt (0 : Int) with h29 | h29
        · skip
          refine w_ieq_f dX8_takenBy_103 (t := 112) rfl (by omega) ?_
          refine w_lo dX8_takenBy_106 rfl rfl rfl rfl ?_
          refine w_lo dX8_takenBy_107 rfl rfl rfl rfl ?_
          rcases zcut x24.toInt x19.toInt with h30 | h30
          · skip
            refine w_cge_f dX8_takenBy_109 (t := 115) rfl (by omega) ?_
            refine w_lo dX8_takenBy_112 rfl rfl rfl rfl ?_
            refine w_eni dX8_takenBy_114 rfl rfl ?_
            exact ⟨_, _, rfl, (by omega), (by omega), hJ, trivial⟩
          · skip
            refine w_cge_t dX8_takenBy_109 (t := 115) rfl (by omega) ?_
            refine w_lo dX8_takenBy_115 rfl rfl rfl rfl ?_
            refine w_lo dX8_takenBy_116 rfl rfl rfl rfl ?_
            refine w_puI dX8_takenBy_118 rfl rfl ?_
            intro x31
            refine w_lo (ml' := [some (.ref 0), some (.int u58_1), some (.int 1), some (.int x31), some (.int v58_4), some (.int v58_5), some (.int s58_0), some (.int x19)]) dX8_takenBy_119 rfl rfl rfl rfl ?_
            refine w_lo dX8_takenBy_120 rfl rfl rfl rfl ?_
            refine w_ic dX8_takenBy_122 zi_1 ?_
            refine w_lo dX8_takenBy_123 rfl rfl rfl rfl ?_
            refine w_shl dX8_takenBy_125 (by omega) (by omega) (m := 11) (by omega) ?_
            intro x32 h33 h34
            have : (2 : Int) ^ 11 = 2048 := by decide
            refine w_or dX8_takenBy_126 (m := 12) (by decide) (by omega) (by omega) (by omega) (by omega) ?_
            intro x35 h36 h37
            have : (2 : Int) ^ 12 = 4096 := by decide
            refine w_lo (ml' := [some (.ref 0), some (.int u58_1), some (.int 1), some (.int x31), some (.int x35), some (.int v58_5), some (.int s58_0), some (.int x19)]) dX8_takenBy_127 rfl rfl rfl rfl ?_
            refine w_lo dX8_takenBy_129 rfl rfl rfl rfl ?_
            refine w_lo dX8_takenBy_131 rfl rfl rfl rfl ?_
            refine w_add dX8_takenBy_132 (by have := zt_1; omega) ?_
            intro x38 h39
            have := zt_1
            refine w_lo (ml' := [some (.ref 0), some (.int u58_1), some (.int 1), some (.int x31), some (.int x35), some (.int x38), some (.int s58_0), some (.int x19)]) dX8_takenBy_133 rfl rfl rfl rfl ?_
            refine w_gt dX8_takenBy_135 (t := 28) rfl ?_
            exact ih28 M u58_1 x31 x35 x38 (some (.int s58_0)) (some (.int x19)) hJ (zbot _) (ztop _) (by omega) (by omega) (by omega) (by omega) (by have := zt_1; omega)
        · skip
          refine w_ieq_t dX8_takenBy_103 (t := 112) rfl (by omega) ?_
          refine w_lo dX8_takenBy_112 rfl rfl rfl rfl ?_
          refine w_eni dX8_takenBy_114 rfl rfl ?_
          exact ⟨_, _, rfl, (by omega), (by omega), hJ, trivial⟩
  obtain ⟨ih28, ih58⟩ := main 59
  show ZW _ _ _ _ _ _ _ (0, [some (.ref 0), some (.int a0), some (.int 1), none, none, none, none, none], [], M0)
  refine w_ic dX8_takenBy_0 zi_3 ?_
  refine w_lo dX8_takenBy_1 rfl rfl rfl rfl ?_
  obtain ⟨b40, f41, h42⟩ := zd_0_3 hJ0.1
  have h43 := zDm_b h42
  refine w_gf dX8_takenBy_2 rfl hJ0.1.1 zs_0 f41 ?_
  refine w_gf dX8_takenBy_5 rfl hJ0.1.1 (zs_1_0 h42) (zr_1_0_4 h42 hJ0.1) ?_
  refine w_lo dX8_takenBy_8 rfl rfl rfl rfl ?_
  refine w_gf dX8_takenBy_9 rfl hJ0.1.1 zs_0 (zr_0_4 hJ0.1) ?_
  refine w_gf dX8_takenBy_12 rfl hJ0.1.1 zs_49 (zr_49_2 hJ0.1) ?_
  refine w_lo dX8_takenBy_15 rfl rfl rfl rfl ?_
  refine w_iai dX8_takenBy_16 hJ0.1 zs_50 (by omega) (by omega) zu_50 ?_
  intro x47 f44 h45 h46
  refine w_iai dX8_takenBy_17 hJ0.1 (zs_1_2 h42) (by omega) (by omega) (zu_1_2 h42) ?_
  intro x51 f48 h49 h50
  refine w_puI dX8_takenBy_18 rfl rfl ?_
  intro x52
  refine w_lo (ml' := [some (.ref 0), some (.int a0), some (.int 1), some (.int x52), none, none, none, none]) dX8_takenBy_19 rfl rfl rfl rfl ?_
  refine w_ic dX8_takenBy_20 zi_0 ?_
  refine w_lo (ml' := [some (.ref 0), some (.int a0), some (.int 1), some (.int x52), some (.int 0), none, none, none]) dX8_takenBy_21 rfl rfl rfl rfl ?_
  refine w_lo dX8_takenBy_23 rfl rfl rfl rfl ?_
  refine w_lo dX8_takenBy_24 rfl rfl rfl rfl ?_
  refine w_add dX8_takenBy_25 (by have := zt_1; omega) ?_
  intro x53 h54
  have := zt_1
  refine w_lo (ml' := [some (.ref 0), some (.int a0), some (.int 1), some (.int x52), some (.int 0), some (.int x53), none, none]) dX8_takenBy_26 rfl rfl rfl rfl ?_
  exact ih28 M0 a0 x52 0 x53 none none hJ0 (zbot _) (ztop _) (by have := zt_0; omega) (by have := zt_0; omega) (by omega) (by omega) (by have := zt_1; have := zt_0; omega)
set_option maxRecDepth 100000 in
theorem k_2101_cm1 {X : List Int32} {d N : Nat} {M0 : zM} (a0 : Int32) (ha00 : (0 : Int) ≤ a0.toInt) (ha01 : a0.toInt ≤ 11) (hN : N ≤ 600) (hB0 : zB N M0) : ZV X (d + 1) 2101 [.ref 0, .int a0, .int (-1)] M0 (zRI N [] M0 (0) (2047) (fun _ _ => True)) := by
  have hJ0 : zJ N [] M0 M0 := zJ_refl hB0
  refine ZV.of (ini := false) rfl (Nat.le_of_ble_eq_true rfl) (by decide +kernel) ?_
  have main : ∀ n : Nat,
      (∀ (M : zM) (u28_1 : Int32) (v28_3 : Int32) (v28_4 : Int32) (v28_5 : Int32) (o28_6 : Option Value) (o28_7 : Option Value), zJ N [] M0 M → ((-2147483648 : Int) ≤ v28_3.toInt) → (v28_3.toInt ≤ 2147483647) → ((0 : Int) ≤ v28_4.toInt) → (v28_4.toInt ≤ 2047) → ((-1 : Int) ≤ v28_5.toInt) → (v28_5.toInt ≤ 10) → 4 * (v28_5.toInt - (-1)) + 2 < (n : Int) → ZW X (d + 0) 8 false (some .int) cX8_takenBy (zRI N [] M0 (0) (2047) (fun _ _ => True)) (28, [some (.ref 0), some (.int u28_1), some (.int (-1)), some (.int v28_3), some (.int v28_4), some (.int v28_5), o28_6, o28_7], [], M)) ∧
      (∀ (M : zM) (u58_1 : Int32) (v58_3 : Int32) (v58_4 : Int32) (v58_5 : Int32) (o58_6 : Option Value) (o58_7 : Option Value) (s58_0 : Int32), zJ N [] M0 M → ((-2147483648 : Int) ≤ v58_3.toInt) → (v58_3.toInt ≤ 2147483647) → ((0 : Int) ≤ v58_4.toInt) → (v58_4.toInt ≤ 2047) → ((0 : Int) ≤ v58_5.toInt) → (v58_5.toInt ≤ 10) → ((0 : Int) ≤ s58_0.toInt) → (s58_0.toInt ≤ 10) → 4 * (v58_5.toInt - (-1)) + 1 < (n : Int) → ZW X (d + 0) 8 false (some .int) cX8_takenBy (zRI N [] M0 (0) (2047) (fun _ _ => True)) (58, [some (.ref 0), some (.int u58_1), some (.int (-1)), some (.int v58_3), some (.int v58_4), some (.int v58_5), o58_6, o58_7], [.int s58_0], M)) := by
    intro n
    induction n with
    | zero =>
      exact ⟨(fun M u28_1 v28_3 v28_4 v28_5 o28_6 o28_7 hJ v28_30 v28_31 v28_40 v28_41 v28_50 v28_51 hn => absurd hn (by omega)), (fun M u58_1 v58_3 v58_4 v58_5 o58_6 o58_7 s58_0 hJ v58_30 v58_31 v58_40 v58_41 v58_50 v58_51 s58_00 s58_01 hn => absurd hn (by omega))⟩
    | succ n ih =>
      obtain ⟨ih28, ih58⟩ := ih
      refine ⟨?_, ?_⟩
      · intro M u28_1 v28_3 v28_4 v28_5 o28_6 o28_7 hJ v28_30 v28_31 v28_40 v28_41 v28_50 v28_51 hn
        refine w_lo dX8_takenBy_28 rfl rfl rfl rfl ?_
        rcases zcut v28_5.toInt (0 : Int) with h1 | h1
        · skip
          refine w_ilt_t dX8_takenBy_30 (t := 138) rfl (by omega) ?_
          refine w_lo dX8_takenBy_138 rfl rfl rfl rfl ?_
          refine w_eni dX8_takenBy_140 rfl rfl ?_
          exact ⟨_, _, rfl, (by omega), (by omega), hJ, trivial⟩
        · skip
          refine w_ilt_f dX8_takenBy_30 (t := 138) rfl (by omega) ?_
          refine w_lo dX8_takenBy_33 rfl rfl rfl rfl ?_
          refine w_lo dX8_takenBy_35 rfl rfl rfl rfl ?_
          refine w_gf dX8_takenBy_36 rfl hJ.1.1 zs_0 (zr_0_4 hJ.1) ?_
          refine w_gfi dX8_takenBy_39 rfl hJ.1 zs_49 (Nat.le_of_ble_eq_true rfl) zo_49_0 ?_
          intro x2 f3 h4 h5
          rcases zcut v28_5.toInt x2.toInt with h6 | h6
          · skip
            refine w_cge_f dX8_takenBy_42 (t := 138) rfl (by omega) ?_
            refine w_lo dX8_takenBy_45 rfl rfl rfl rfl ?_
            refine w_ile_t dX8_takenBy_46 (t := 56) rfl (by have := zt_m1; omega) ?_
            refine w_lo dX8_takenBy_56 rfl rfl rfl rfl ?_
            exact ih58 M u28_1 v28_3 v28_4 v28_5 o28_6 o28_7 v28_5 hJ (zbot _) (ztop _) (by omega) (by omega) (by omega) (by omega) (by omega) (by omega) (by have := zt_m1; omega)
          · skip
            refine w_cge_t dX8_takenBy_42 (t := 138) rfl (by omega) ?_
            refine w_lo dX8_takenBy_138 rfl rfl rfl rfl ?_
            refine w_eni dX8_takenBy_140 rfl rfl ?_
            exact ⟨_, _, rfl, (by omega), (by omega), hJ, trivial⟩
      · intro M u58_1 v58_3 v58_4 v58_5 o58_6 o58_7 s58_0 hJ v58_30 v58_31 v58_40 v58_41 v58_50 v58_51 s58_00 s58_01 hn
        refine w_lo (ml' := [some (.ref 0), some (.int u58_1), some (.int (-1)), some (.int v58_3), some (.int v58_4), some (.int v58_5), some (.int s58_0), o58_7]) dX8_takenBy_58 rfl rfl rfl rfl ?_
        refine w_lo dX8_takenBy_60 rfl rfl rfl rfl ?_
        obtain ⟨b7, f8, h9⟩ := zd_0_3 hJ.1
        have h10 := zDm_b h9
        refine w_gf dX8_takenBy_61 rfl hJ.1.1 zs_0 f8 ?_
        refine w_gf dX8_takenBy_64 rfl hJ.1.1 (zs_1_0 h9) (zr_1_0_4 h9 hJ.1) ?_
        refine w_lo dX8_takenBy_67 rfl rfl rfl rfl ?_
        refine w_gf dX8_takenBy_68 rfl hJ.1.1 zs_0 (zr_0_4 hJ.1) ?_
        refine w_gf dX8_takenBy_71 rfl hJ.1.1 zs_49 (zr_49_2 hJ.1) ?_
        refine w_lo dX8_takenBy_74 rfl rfl rfl rfl ?_
        refine w_iai dX8_takenBy_76 hJ.1 zs_50 (by omega) (by omega) zu_50 ?_
        intro x14 f11 h12 h13
        refine w_iai dX8_takenBy_77 hJ.1 (zs_1_2 h9) (by omega) (by omega) (zu_1_2 h9) ?_
        intro x18 f15 h16 h17
        refine w_lo (ml' := [some (.ref 0), some (.int u58_1), some (.int (-1)), some (.int v58_3), some (.int v58_4), some (.int v58_5), some (.int s58_0), some (.int x18)]) dX8_takenBy_78 rfl rfl rfl rfl ?_
        refine w_lo dX8_takenBy_80 rfl rfl rfl rfl ?_
        refine w_lo dX8_takenBy_81 rfl rfl rfl rfl ?_
        refine w_gf dX8_takenBy_82 rfl hJ.1.1 zs_0 (zr_0_4 hJ.1) ?_
        refine w_gf dX8_takenBy_85 rfl hJ.1.1 zs_49 (zr_49_13 hJ.1) ?_
        refine w_lo dX8_takenBy_88 rfl rfl rfl rfl ?_
        refine w_iai dX8_takenBy_90 hJ.1 zs_61 (by omega) (by omega) zu_61 ?_
        intro x22 f19 h20 h21
        refine w_puI dX8_takenBy_91 rfl rfl ?_
        intro x23
        refine w_lo (ml' := [some (.ref 0), some (.int u58_1), some (.int (-1)), some (.int x23), some (.int v58_4), some (.int v58_5), some (.int s58_0), some (.int x18)]) dX8_takenBy_92 rfl rfl rfl rfl ?_
        refine w_lo dX8_takenBy_93 rfl rfl rfl rfl ?_
        refine w_gf dX8_takenBy_94 rfl hJ.1.1 zs_0 (zr_0_4 hJ.1) ?_
        refine w_gf dX8_takenBy_97 rfl hJ.1.1 zs_49 (zr_49_12 hJ.1) ?_
        refine w_lo dX8_takenBy_100 rfl rfl rfl rfl ?_
        refine w_bai dX8_takenBy_102 hJ.1 zs_60 (by omega) (by omega) zu_60 ?_
        intro x27 f24 h25 h26
        rcases Int.decEq x27.toInt (0 : Int) with h28 | h28
        · skip
          refine w_ieq_f dX8_takenBy_103 (t := 112) rfl (by omega) ?_
          refine w_lo dX8_takenBy_106 rfl rfl rfl rfl ?_
          refine w_lo dX8_takenBy_107 rfl rfl rfl rfl ?_
          rcases zcut x23.toInt x18.toInt with h29 | h29
          · skip
            refine w_cge_f dX8_takenBy_109 (t := 115) rfl (by omega) ?_
            refine w_lo dX8_takenBy_112 rfl rfl rfl rfl ?_
            refine w_eni dX8_takenBy_114 rfl rfl ?_
            exact ⟨_, _, rfl, (by omega), (by omega), hJ, trivial⟩
          · skip
            refine w_cge_t dX8_takenBy_109 (t := 115) rfl (by omega) ?_
            refine w_lo dX8_takenBy_115 rfl rfl rfl rfl ?_
            refine w_lo dX8_takenBy_116 rfl rfl rfl rfl ?_
            refine w_puI dX8_takenBy_118 rfl rfl ?_
            intro x30
            refine w_lo (ml' := [some (.ref 0), some (.int u58_1), some (.int (-1)), some (.int x30), some (.int v58_4), some (.int v58_5), some (.int s58_0), some (.int x18)]) dX8_takenBy_119 rfl rfl rfl rfl ?_
            refine w_lo dX8_takenBy_120 rfl rfl rfl rfl ?_
            refine w_ic dX8_takenBy_122 zi_1 ?_
            refine w_lo dX8_takenBy_123 rfl rfl rfl rfl ?_
            refine w_shl dX8_takenBy_125 (by omega) (by omega) (m := 10) (by omega) ?_
            intro x31 h32 h33
            have : (2 : Int) ^ 10 = 1024 := by decide
            refine w_or dX8_takenBy_126 (m := 11) (by decide) (by omega) (by omega) (by omega) (by omega) ?_
            intro x34 h35 h36
            have : (2 : Int) ^ 11 = 2048 := by decide
            refine w_lo (ml' := [some (.ref 0), some (.int u58_1), some (.int (-1)), some (.int x30), some (.int x34), some (.int v58_5), some (.int s58_0), some (.int x18)]) dX8_takenBy_127 rfl rfl rfl rfl ?_
            refine w_lo dX8_takenBy_129 rfl rfl rfl rfl ?_
            refine w_lo dX8_takenBy_131 rfl rfl rfl rfl ?_
            refine w_add dX8_takenBy_132 (by have := zt_m1; omega) ?_
            intro x37 h38
            have := zt_m1
            refine w_lo (ml' := [some (.ref 0), some (.int u58_1), some (.int (-1)), some (.int x30), some (.int x34), some (.int x37), some (.int s58_0), some (.int x18)]) dX8_takenBy_133 rfl rfl rfl rfl ?_
            refine w_gt dX8_takenBy_135 (t := 28) rfl ?_
            exact ih28 M u58_1 x30 x34 x37 (some (.int s58_0)) (some (.int x18)) hJ (zbot _) (ztop _) (by omega) (by omega) (by omega) (by omega) (by have := zt_m1; omega)
        · skip
          refine w_ieq_t dX8_takenBy_103 (t := 112) rfl (by omega) ?_
          refine w_lo dX8_takenBy_112 rfl rfl rfl rfl ?_
          refine w_eni dX8_takenBy_114 rfl rfl ?_
          exact ⟨_, _, rfl, (by omega), (by omega), hJ, trivial⟩
  obtain ⟨ih28, ih58⟩ := main 59
  show ZW _ _ _ _ _ _ _ (0, [some (.ref 0), some (.int a0), some (.int (-1)), none, none, none, none, none], [], M0)
  refine w_ic dX8_takenBy_0 zi_3 ?_
  refine w_lo dX8_takenBy_1 rfl rfl rfl rfl ?_
  obtain ⟨b39, f40, h41⟩ := zd_0_3 hJ0.1
  have h42 := zDm_b h41
  refine w_gf dX8_takenBy_2 rfl hJ0.1.1 zs_0 f40 ?_
  refine w_gf dX8_takenBy_5 rfl hJ0.1.1 (zs_1_0 h41) (zr_1_0_4 h41 hJ0.1) ?_
  refine w_lo dX8_takenBy_8 rfl rfl rfl rfl ?_
  refine w_gf dX8_takenBy_9 rfl hJ0.1.1 zs_0 (zr_0_4 hJ0.1) ?_
  refine w_gf dX8_takenBy_12 rfl hJ0.1.1 zs_49 (zr_49_2 hJ0.1) ?_
  refine w_lo dX8_takenBy_15 rfl rfl rfl rfl ?_
  refine w_iai dX8_takenBy_16 hJ0.1 zs_50 (by omega) (by omega) zu_50 ?_
  intro x46 f43 h44 h45
  refine w_iai dX8_takenBy_17 hJ0.1 (zs_1_2 h41) (by omega) (by omega) (zu_1_2 h41) ?_
  intro x50 f47 h48 h49
  refine w_puI dX8_takenBy_18 rfl rfl ?_
  intro x51
  refine w_lo (ml' := [some (.ref 0), some (.int a0), some (.int (-1)), some (.int x51), none, none, none, none]) dX8_takenBy_19 rfl rfl rfl rfl ?_
  refine w_ic dX8_takenBy_20 zi_0 ?_
  refine w_lo (ml' := [some (.ref 0), some (.int a0), some (.int (-1)), some (.int x51), some (.int 0), none, none, none]) dX8_takenBy_21 rfl rfl rfl rfl ?_
  refine w_lo dX8_takenBy_23 rfl rfl rfl rfl ?_
  refine w_lo dX8_takenBy_24 rfl rfl rfl rfl ?_
  refine w_add dX8_takenBy_25 (by have := zt_m1; omega) ?_
  intro x52 h53
  have := zt_m1
  refine w_lo (ml' := [some (.ref 0), some (.int a0), some (.int (-1)), some (.int x51), some (.int 0), some (.int x52), none, none]) dX8_takenBy_26 rfl rfl rfl rfl ?_
  exact ih28 M0 a0 x51 0 x52 none none hJ0 (zbot _) (ztop _) (by have := zt_0; omega) (by have := zt_0; omega) (by omega) (by omega) (by have := zt_m1; have := zt_0; omega)
set_option maxRecDepth 100000 in
theorem k_2100 {X : List Int32} {d N : Nat} {M0 : zM} (a0 : Int32) (hN : N ≤ 600) (hB0 : zB N M0) : ZV X (d + 2) 2100 [.ref 0, .int a0] M0 (zRI N [] M0 (-1) (4095) (fun _ _ => True)) := by
  have hJ0 : zJ N [] M0 M0 := zJ_refl hB0
  refine ZV.of (ini := false) rfl (Nat.le_of_ble_eq_true rfl) (by decide +kernel) ?_
  show ZW _ _ _ _ _ _ _ (0, [some (.ref 0), some (.int a0)], [], M0)
  refine w_lo dX8_walk_0 rfl rfl rfl rfl ?_
  refine w_lo dX8_walk_1 rfl rfl rfl rfl ?_
  refine w_iv dX8_walk_2 rfl rfl (As := [.int a0]) rfl rfl hJ0.1.1 zs_0 (Nat.le_of_ble_eq_true rfl) ?_
  refine ZV.of (ini := false) rfl (Nat.le_of_ble_eq_true rfl) (by decide +kernel) ?_
  show ZW _ _ _ _ _ _ _ (0, [some (.ref 0), some (.int a0)], [], M0)
  refine w_lo dX8_isPlace_0 rfl rfl rfl rfl ?_
  rcases zcut a0.toInt (0 : Int) with h1 | h1
  · skip
    refine w_ilt_t dX8_isPlace_1 (t := 19) rfl (by omega) ?_
    refine w_ic dX8_isPlace_19 zi_0 ?_
    refine w_en dX8_isPlace_20 rfl ?_
    show ZW _ _ _ _ _ _ _ (5, [some (.ref 0), some (.int a0)], [.int 0], M0)
    refine w_ine_f dX8_walk_5 (t := 10) rfl (by have := zt_0; omega) ?_
    refine w_ic dX8_walk_8 zi_m1 ?_
    refine w_en dX8_walk_9 rfl ?_
    exact ⟨_, _, rfl, (by have := zt_m1; omega), (by have := zt_m1; omega), hJ0, trivial⟩
  · skip
    refine w_ilt_f dX8_isPlace_1 (t := 19) rfl (by omega) ?_
    refine w_lo dX8_isPlace_4 rfl rfl rfl rfl ?_
    refine w_lo dX8_isPlace_5 rfl rfl rfl rfl ?_
    refine w_gf dX8_isPlace_6 rfl hJ0.1.1 zs_0 (zr_0_4 hJ0.1) ?_
    refine w_gfi dX8_isPlace_9 rfl hJ0.1 zs_49 (Nat.le_of_ble_eq_true rfl) zo_49_0 ?_
    intro x2 f3 h4 h5
    rcases zcut a0.toInt x2.toInt with h6 | h6
    · skip
      refine w_cge_f dX8_isPlace_12 (t := 19) rfl (by omega) ?_
      refine w_ic dX8_isPlace_15 zi_1 ?_
      refine w_gt dX8_isPlace_16 (t := 20) rfl ?_
      refine w_en dX8_isPlace_20 rfl ?_
      show ZW _ _ _ _ _ _ _ (5, [some (.ref 0), some (.int a0)], [.int 1], M0)
      refine w_ine_t dX8_walk_5 (t := 10) rfl (by have := zt_1; omega) ?_
      refine w_lo dX8_walk_10 rfl rfl rfl rfl ?_
      refine w_lo dX8_walk_11 rfl rfl rfl rfl ?_
      refine w_ic dX8_walk_12 zi_1 ?_
      refine w_iv dX8_walk_13 rfl rfl (As := [.int a0, .int 1]) rfl rfl hJ0.1.1 zs_0 (Nat.le_of_ble_eq_true rfl) ?_
      refine ZV.imp (k_2101_c1 a0 (by omega) (by omega) hN hJ0.1) ?_
      rintro _ ⟨x10, M7, rfl, h11, h12, hJ8, hq9⟩
      have hJ13 := zJ_trans hJ0 hJ8 zSub_nil
      show ZW _ _ _ _ _ _ _ (16, [some (.ref 0), some (.int a0)], [.int x10], M7)
      refine w_lo dX8_walk_16 rfl rfl rfl rfl ?_
      refine w_lo dX8_walk_17 rfl rfl rfl rfl ?_
      refine w_ic dX8_walk_18 zi_m1 ?_
      refine w_iv dX8_walk_19 rfl rfl (As := [.int a0, .int (-1)]) rfl rfl hJ13.1.1 zs_0 (Nat.le_of_ble_eq_true rfl) ?_
      refine ZV.imp (k_2101_cm1 a0 (by omega) (by omega) hN hJ13.1) ?_
      rintro _ ⟨x17, M14, rfl, h18, h19, hJ15, hq16⟩
      have hJ20 := zJ_trans hJ13 hJ15 zSub_nil
      show ZW _ _ _ _ _ _ _ (22, [some (.ref 0), some (.int a0)], [.int x17, .int x10], M14)
      refine w_or dX8_walk_22 (m := 12) (by decide) (by omega) (by omega) (by omega) (by omega) ?_
      intro x21 h22 h23
      have : (2 : Int) ^ 12 = 4096 := by decide
      refine w_eni dX8_walk_23 rfl rfl ?_
      exact ⟨_, _, rfl, (by omega), (by omega), hJ20, trivial⟩
    · skip
      refine w_cge_t dX8_isPlace_12 (t := 19) rfl (by omega) ?_
      refine w_ic dX8_isPlace_19 zi_0 ?_
      refine w_en dX8_isPlace_20 rfl ?_
      show ZW _ _ _ _ _ _ _ (5, [some (.ref 0), some (.int a0)], [.int 0], M0)
      refine w_ine_f dX8_walk_5 (t := 10) rfl (by have := zt_0; omega) ?_
      refine w_ic dX8_walk_8 zi_m1 ?_
      refine w_en dX8_walk_9 rfl ?_
      exact ⟨_, _, rfl, (by have := zt_m1; omega), (by have := zt_m1; omega), hJ0, trivial⟩
set_option maxRecDepth 100000 in
theorem k_2102 {X : List Int32} {d N : Nat} {M0 : zM} (a0 : Int32) (a1 : Int32) (hN : N ≤ 600) (hB0 : zB N M0) : ZV X (d + 1) 2102 [.ref 0, .int a0, .int a1] M0 (zRI N [] M0 (-2147483648) (2147483647) (fun _ _ => True)) := by
  have hJ0 : zJ N [] M0 M0 := zJ_refl hB0
  refine ZV.of (ini := false) rfl (Nat.le_of_ble_eq_true rfl) (by decide +kernel) ?_
  have main : ∀ n : Nat,
      (∀ (M : zM) (v41_1 : Int32) (v41_2 : Int32) (v41_3 : Int32) (v41_4 : Int32) (v41_5 : Int32) (v41_6 : Int32) (o41_7 : Option Value), zJ N [] M0 M → ((1 : Int) ≤ v41_1.toInt) → (v41_1.toInt ≤ 9999) → ((-1 : Int) ≤ v41_2.toInt) → (v41_2.toInt ≤ 2147483647) → ((-2147483648 : Int) ≤ v41_3.toInt) → (v41_3.toInt ≤ 2147483647) → ((-2147483648 : Int) ≤ v41_4.toInt) → (v41_4.toInt ≤ 2147483647) → ((-1 : Int) ≤ v41_5.toInt) → (v41_5.toInt ≤ 11) → ((0 : Int) ≤ v41_6.toInt) → (v41_6.toInt ≤ 12) → 4 * (12 - v41_6.toInt) + 2 < (n : Int) → ZW X (d + 0) 8 false (some .int) cX8_beds (zRI N [] M0 (-2147483648) (2147483647) (fun _ _ => True)) (41, [some (.ref 0), some (.int v41_1), some (.int v41_2), some (.int v41_3), some (.int v41_4), some (.int v41_5), some (.int v41_6), o41_7], [], M)) ∧
      (∀ (M : zM) (v92_1 : Int32) (v92_2 : Int32) (v92_3 : Int32) (u92_4 : Int32) (v92_5 : Int32) (v92_6 : Int32) (v92_7 : Int32), zJ N [] M0 M → ((1 : Int) ≤ v92_1.toInt) → (v92_1.toInt ≤ 9999) → ((-1 : Int) ≤ v92_2.toInt) → (v92_2.toInt ≤ 2147483647) → ((-2147483648 : Int) ≤ v92_3.toInt) → (v92_3.toInt ≤ 2147483647) → ((-1 : Int) ≤ v92_5.toInt) → (v92_5.toInt ≤ 11) → ((0 : Int) ≤ v92_6.toInt) → (v92_6.toInt ≤ 11) → ((-2147483648 : Int) ≤ v92_7.toInt) → (v92_7.toInt ≤ 9999) → 4 * (12 - v92_6.toInt) + 1 < (n : Int) → ZW X (d + 0) 8 false (some .int) cX8_beds (zRI N [] M0 (-2147483648) (2147483647) (fun _ _ => True)) (92, [some (.ref 0), some (.int v92_1), some (.int v92_2), some (.int v92_3), some (.int u92_4), some (.int v92_5), some (.int v92_6), some (.int v92_7)], [], M)) := by
    intro n
    induction n with
    | zero =>
      exact ⟨(fun M v41_1 v41_2 v41_3 v41_4 v41_5 v41_6 o41_7 hJ v41_10 v41_11 v41_20 v41_21 v41_30 v41_31 v41_40 v41_41 v41_50 v41_51 v41_60 v41_61 hn => absurd hn (by omega)), (fun M v92_1 v92_2 v92_3 u92_4 v92_5 v92_6 v92_7 hJ v92_10 v92_11 v92_20 v92_21 v92_30 v92_31 v92_50 v92_51 v92_60 v92_61 v92_70 v92_71 hn => absurd hn (by omega))⟩
    | succ n ih =>
      obtain ⟨ih41, ih92⟩ := ih
      refine ⟨?_, ?_⟩
      · intro M v41_1 v41_2 v41_3 v41_4 v41_5 v41_6 o41_7 hJ v41_10 v41_11 v41_20 v41_21 v41_30 v41_31 v41_40 v41_41 v41_50 v41_51 v41_60 v41_61 hn
        refine w_lo dX8_beds_41 rfl rfl rfl rfl ?_
        refine w_lo dX8_beds_43 rfl rfl rfl rfl ?_
        refine w_gf dX8_beds_44 rfl hJ.1.1 zs_0 (zr_0_4 hJ.1) ?_
        refine w_gfi dX8_beds_47 rfl hJ.1 zs_49 (Nat.le_of_ble_eq_true rfl) zo_49_0 ?_
        intro x1 f2 h3 h4
        rcases zcut v41_6.toInt x1.toInt with h5 | h5
        · skip
          refine w_cge_f dX8_beds_50 (t := 125) rfl (by omega) ?_
          refine w_lo dX8_beds_53 rfl rfl rfl rfl ?_
          obtain ⟨b6, f7, h8⟩ := zd_0_3 hJ.1
          have h9 := zDm_b h8
          refine w_gf dX8_beds_54 rfl hJ.1.1 zs_0 f7 ?_
          refine w_gf dX8_beds_57 rfl hJ.1.1 (zs_1_0 h8) (zr_1_0_4 h8 hJ.1) ?_
          refine w_lo dX8_beds_60 rfl rfl rfl rfl ?_
          refine w_gf dX8_beds_61 rfl hJ.1.1 zs_0 (zr_0_4 hJ.1) ?_
          refine w_gf dX8_beds_64 rfl hJ.1.1 zs_49 (zr_49_2 hJ.1) ?_
          refine w_lo dX8_beds_67 rfl rfl rfl rfl ?_
          refine w_iai dX8_beds_69 hJ.1 zs_50 (by omega) (by omega) zu_50 ?_
          intro x13 f10 h11 h12
          refine w_iai dX8_beds_70 hJ.1 (zs_1_2 h8) (by omega) (by omega) (zu_1_2 h8) ?_
          intro x17 f14 h15 h16
          refine w_lo (ml' := [some (.ref 0), some (.int v41_1), some (.int v41_2), some (.int v41_3), some (.int v41_4), some (.int v41_5), some (.int v41_6), some (.int x17)]) dX8_beds_71 rfl rfl rfl rfl ?_
          refine w_lo dX8_beds_73 rfl rfl rfl rfl ?_
          refine w_lo dX8_beds_75 rfl rfl rfl rfl ?_
          rcases zcut v41_1.toInt x17.toInt with h18 | h18
          · skip
            refine w_cle_f dX8_beds_76 (t := 81) rfl (by omega) ?_
            refine w_ic dX8_beds_79 zi_m1 ?_
            refine w_en dX8_beds_80 rfl ?_
            exact ⟨_, _, rfl, (zbot _), (ztop _), hJ, trivial⟩
          · skip
            refine w_cle_t dX8_beds_76 (t := 81) rfl (by omega) ?_
            refine w_lo dX8_beds_81 rfl rfl rfl rfl ?_
            rcases Int.decEq v41_3.toInt (0 : Int) with h19 | h19
            · skip
              refine w_ieq_f dX8_beds_82 (t := 92) rfl (by omega) ?_
              refine w_lo dX8_beds_85 rfl rfl rfl rfl ?_
              refine w_lo dX8_beds_87 rfl rfl rfl rfl ?_
              rcases zcut v41_4.toInt x17.toInt with h20 | h20
              · skip
                refine w_cle_f dX8_beds_89 (t := 112) rfl (by omega) ?_
                exact ih92 M v41_1 v41_2 v41_3 v41_4 v41_5 v41_6 x17 hJ (by omega) (by omega) (by omega) (ztop _) (zbot _) (ztop _) (by omega) (by omega) (by omega) (by omega) (zbot _) (by omega) (by omega)
              · skip
                refine w_cle_t dX8_beds_89 (t := 112) rfl (by omega) ?_
                refine w_lo dX8_beds_112 rfl rfl rfl rfl ?_
                refine w_lo dX8_beds_114 rfl rfl rfl rfl ?_
                refine w_puI dX8_beds_116 rfl rfl ?_
                intro x21
                refine w_lo (ml' := [some (.ref 0), some (.int v41_1), some (.int v41_2), some (.int v41_3), some (.int x21), some (.int v41_5), some (.int v41_6), some (.int x17)]) dX8_beds_117 rfl rfl rfl rfl ?_
                refine w_inc (kk := 6) dX8_beds_119 rfl (m := 1) (by decide) (by omega) ?_
                intro x22 h23
                refine ⟨_, rfl, ?_⟩
                show ZW _ _ _ _ _ _ _ (122, [some (.ref 0), some (.int v41_1), some (.int v41_2), some (.int v41_3), some (.int x21), some (.int v41_5), some (.int x22), some (.int x17)], [], M)
                refine w_gt dX8_beds_122 (t := 41) rfl ?_
                exact ih41 M v41_1 v41_2 v41_3 x21 v41_5 x22 (some (.int x17)) hJ (by omega) (by omega) (by omega) (ztop _) (zbot _) (ztop _) (zbot _) (ztop _) (by omega) (by omega) (by omega) (by omega) (by omega)
            · skip
              refine w_ieq_t dX8_beds_82 (t := 92) rfl (by omega) ?_
              exact ih92 M v41_1 v41_2 v41_3 v41_4 v41_5 v41_6 x17 hJ (by omega) (by omega) (by omega) (ztop _) (zbot _) (ztop _) (by omega) (by omega) (by omega) (by omega) (zbot _) (by omega) (by omega)
        · skip
          refine w_cge_t dX8_beds_50 (t := 125) rfl (by omega) ?_
          refine w_lo dX8_beds_125 rfl rfl rfl rfl ?_
          refine w_ic dX8_beds_126 zi_m1 ?_
          rcases Int.decEq v41_2.toInt (-1 : Int) with h24 | h24
          · skip
            refine w_cne_t dX8_beds_127 (t := 134) rfl (by have := zt_m1; omega) ?_
            refine w_lo dX8_beds_134 rfl rfl rfl rfl ?_
            refine w_eni dX8_beds_136 rfl rfl ?_
            exact ⟨_, _, rfl, (zbot _), (ztop _), hJ, trivial⟩
          · skip
            refine w_cne_f dX8_beds_127 (t := 134) rfl (by have := zt_m1; omega) ?_
            refine w_lo dX8_beds_130 rfl rfl rfl rfl ?_
            refine w_gt dX8_beds_131 (t := 136) rfl ?_
            refine w_eni dX8_beds_136 rfl rfl ?_
            exact ⟨_, _, rfl, (zbot _), (ztop _), hJ, trivial⟩
      · intro M v92_1 v92_2 v92_3 u92_4 v92_5 v92_6 v92_7 hJ v92_10 v92_11 v92_20 v92_21 v92_30 v92_31 v92_50 v92_51 v92_60 v92_61 v92_70 v92_71 hn
        refine w_lo dX8_beds_92 rfl rfl rfl rfl ?_
        refine w_lo dX8_beds_93 rfl rfl rfl rfl ?_
        rcases Int.decEq v92_3.toInt v92_2.toInt with h25 | h25
        · skip
          refine w_cne_t dX8_beds_94 (t := 102) rfl (by omega) ?_
          refine w_lo dX8_beds_102 rfl rfl rfl rfl ?_
          refine w_lo (ml' := [some (.ref 0), some (.int v92_1), some (.int v92_2), some (.int v92_3), some (.int u92_4), some (.int v92_5), some (.int v92_6), some (.int v92_7)]) dX8_beds_104 rfl rfl rfl rfl ?_
          refine w_incT (kk := 3) dX8_beds_106 rfl ?_
          intro x26
          refine ⟨_, rfl, ?_⟩
          show ZW _ _ _ _ _ _ _ (109, [some (.ref 0), some (.int v92_1), some (.int v92_2), some (.int x26), some (.int u92_4), some (.int v92_5), some (.int v92_6), some (.int v92_7)], [], M)
          refine w_lo dX8_beds_109 rfl rfl rfl rfl ?_
          refine w_lo (ml' := [some (.ref 0), some (.int v92_1), some (.int v92_2), some (.int x26), some (.int v92_1), some (.int v92_5), some (.int v92_6), some (.int v92_7)]) dX8_beds_110 rfl rfl rfl rfl ?_
          refine w_lo dX8_beds_112 rfl rfl rfl rfl ?_
          refine w_lo dX8_beds_114 rfl rfl rfl rfl ?_
          refine w_puI dX8_beds_116 rfl rfl ?_
          intro x28
          refine w_lo (ml' := [some (.ref 0), some (.int v92_1), some (.int v92_2), some (.int x26), some (.int x28), some (.int v92_5), some (.int v92_6), some (.int v92_7)]) dX8_beds_117 rfl rfl rfl rfl ?_
          refine w_inc (kk := 6) dX8_beds_119 rfl (m := 1) (by decide) (by omega) ?_
          intro x29 h30
          refine ⟨_, rfl, ?_⟩
          show ZW _ _ _ _ _ _ _ (122, [some (.ref 0), some (.int v92_1), some (.int v92_2), some (.int x26), some (.int x28), some (.int v92_5), some (.int x29), some (.int v92_7)], [], M)
          refine w_gt dX8_beds_122 (t := 41) rfl ?_
          exact ih41 M v92_1 v92_2 x26 x28 v92_5 x29 (some (.int v92_7)) hJ (by omega) (by omega) (by omega) (ztop _) (zbot _) (ztop _) (zbot _) (ztop _) (by omega) (by omega) (by omega) (by omega) (by omega)
        · skip
          refine w_cne_f dX8_beds_94 (t := 102) rfl (by omega) ?_
          refine w_lo dX8_beds_97 rfl rfl rfl rfl ?_
          refine w_gt dX8_beds_99 (t := 104) rfl ?_
          refine w_lo (ml' := [some (.ref 0), some (.int v92_1), some (.int v92_2), some (.int v92_3), some (.int u92_4), some (.int v92_6), some (.int v92_6), some (.int v92_7)]) dX8_beds_104 rfl rfl rfl rfl ?_
          refine w_incT (kk := 3) dX8_beds_106 rfl ?_
          intro x31
          refine ⟨_, rfl, ?_⟩
          show ZW _ _ _ _ _ _ _ (109, [some (.ref 0), some (.int v92_1), some (.int v92_2), some (.int x31), some (.int u92_4), some (.int v92_6), some (.int v92_6), some (.int v92_7)], [], M)
          refine w_lo dX8_beds_109 rfl rfl rfl rfl ?_
          refine w_lo (ml' := [some (.ref 0), some (.int v92_1), some (.int v92_2), some (.int x31), some (.int v92_1), some (.int v92_6), some (.int v92_6), some (.int v92_7)]) dX8_beds_110 rfl rfl rfl rfl ?_
          refine w_lo dX8_beds_112 rfl rfl rfl rfl ?_
          refine w_lo dX8_beds_114 rfl rfl rfl rfl ?_
          refine w_puI dX8_beds_116 rfl rfl ?_
          intro x33
          refine w_lo (ml' := [some (.ref 0), some (.int v92_1), some (.int v92_2), some (.int x31), some (.int x33), some (.int v92_6), some (.int v92_6), some (.int v92_7)]) dX8_beds_117 rfl rfl rfl rfl ?_
          refine w_inc (kk := 6) dX8_beds_119 rfl (m := 1) (by decide) (by omega) ?_
          intro x34 h35
          refine ⟨_, rfl, ?_⟩
          show ZW _ _ _ _ _ _ _ (122, [some (.ref 0), some (.int v92_1), some (.int v92_2), some (.int x31), some (.int x33), some (.int v92_6), some (.int x34), some (.int v92_7)], [], M)
          refine w_gt dX8_beds_122 (t := 41) rfl ?_
          exact ih41 M v92_1 v92_2 x31 x33 v92_6 x34 (some (.int v92_7)) hJ (by omega) (by omega) (by omega) (ztop _) (zbot _) (ztop _) (zbot _) (ztop _) (by omega) (by omega) (by omega) (by omega) (by omega)
  obtain ⟨ih41, ih92⟩ := main 63
  show ZW _ _ _ _ _ _ _ (0, [some (.ref 0), some (.int a0), some (.int a1), none, none, none, none, none], [], M0)
  refine w_lo dX8_beds_0 rfl rfl rfl rfl ?_
  refine w_ic dX8_beds_1 zi_1 ?_
  rcases zcut a0.toInt (1 : Int) with h36 | h36
  · skip
    refine w_clt_t dX8_beds_2 (t := 28) rfl (by have := zt_1; omega) ?_
    refine w_ic dX8_beds_28 zi_m1 ?_
    refine w_en dX8_beds_29 rfl ?_
    exact ⟨_, _, rfl, (zbot _), (ztop _), hJ0, trivial⟩
  · skip
    refine w_clt_f dX8_beds_2 (t := 28) rfl (by have := zt_1; omega) ?_
    refine w_lo dX8_beds_5 rfl rfl rfl rfl ?_
    refine w_si dX8_beds_6 (c := 9999) (by decide) ?_
    rcases zcut (9999 : Int) a0.toInt with h37 | h37
    · skip
      refine w_cgt_t dX8_beds_9 (t := 28) rfl (by have := zt_9999; omega) ?_
      refine w_ic dX8_beds_28 zi_m1 ?_
      refine w_en dX8_beds_29 rfl ?_
      exact ⟨_, _, rfl, (zbot _), (ztop _), hJ0, trivial⟩
    · skip
      refine w_cgt_f dX8_beds_9 (t := 28) rfl (by have := zt_9999; omega) ?_
      refine w_lo dX8_beds_12 rfl rfl rfl rfl ?_
      refine w_gf dX8_beds_13 rfl hJ0.1.1 zs_0 (zr_0_4 hJ0.1) ?_
      refine w_gfi dX8_beds_16 rfl hJ0.1 zs_49 (Nat.le_of_ble_eq_true rfl) zo_49_0 ?_
      intro x38 f39 h40 h41
      refine w_ic dX8_beds_19 zi_1 ?_
      rcases zcut x38.toInt (1 : Int) with h42 | h42
      · skip
        refine w_clt_t dX8_beds_20 (t := 28) rfl (by have := zt_1; omega) ?_
        refine w_ic dX8_beds_28 zi_m1 ?_
        refine w_en dX8_beds_29 rfl ?_
        exact ⟨_, _, rfl, (zbot _), (ztop _), hJ0, trivial⟩
      · skip
        refine w_clt_f dX8_beds_20 (t := 28) rfl (by have := zt_1; omega) ?_
        refine w_lo dX8_beds_23 rfl rfl rfl rfl ?_
        refine w_ic dX8_beds_24 zi_m1 ?_
        rcases zcut a1.toInt (-1 : Int) with h43 | h43
        · skip
          refine w_cge_f dX8_beds_25 (t := 30) rfl (by have := zt_m1; omega) ?_
          refine w_ic dX8_beds_28 zi_m1 ?_
          refine w_en dX8_beds_29 rfl ?_
          exact ⟨_, _, rfl, (zbot _), (ztop _), hJ0, trivial⟩
        · skip
          refine w_cge_t dX8_beds_25 (t := 30) rfl (by have := zt_m1; omega) ?_
          refine w_ic dX8_beds_30 zi_0 ?_
          refine w_lo (ml' := [some (.ref 0), some (.int a0), some (.int a1), some (.int 0), none, none, none, none]) dX8_beds_31 rfl rfl rfl rfl ?_
          refine w_ic dX8_beds_32 zi_0 ?_
          refine w_lo (ml' := [some (.ref 0), some (.int a0), some (.int a1), some (.int 0), some (.int 0), none, none, none]) dX8_beds_33 rfl rfl rfl rfl ?_
          refine w_ic dX8_beds_35 zi_m1 ?_
          refine w_lo (ml' := [some (.ref 0), some (.int a0), some (.int a1), some (.int 0), some (.int 0), some (.int (-1)), none, none]) dX8_beds_36 rfl rfl rfl rfl ?_
          refine w_ic dX8_beds_38 zi_0 ?_
          refine w_lo (ml' := [some (.ref 0), some (.int a0), some (.int a1), some (.int 0), some (.int 0), some (.int (-1)), some (.int 0), none]) dX8_beds_39 rfl rfl rfl rfl ?_
          exact ih41 M0 a0 a1 0 0 (-1) 0 none hJ0 (by omega) (by omega) (by omega) (ztop _) (zbot _) (ztop _) (zbot _) (ztop _) (by have := zt_m1; omega) (by have := zt_m1; omega) (by have := zt_0; omega) (by have := zt_0; omega) (by have := zt_0; have := zt_m1; omega)
set_option maxRecDepth 100000 in
theorem k_2104 {X : List Int32} {d N : Nat} {M0 : zM}  (hN : N ≤ 600) (hB0 : zB N M0) : ZV X (d + 2) 2104 [.ref 0] M0 (zRI N [] M0 (0) (1) (fun _ _ => True)) := by
  have hJ0 : zJ N [] M0 M0 := zJ_refl hB0
  refine ZV.of (ini := false) rfl (Nat.le_of_ble_eq_true rfl) (by decide +kernel) ?_
  have main : ∀ n : Nat,
      (∀ (M : zM) (v2_1 : Int32), zJ N [] M0 M → ((0 : Int) ≤ v2_1.toInt) → (v2_1.toInt ≤ 12) → 3 * (12 - v2_1.toInt) + 1 < (n : Int) → ZW X (d + 1) 8 false (some .boolean) cX8_allAwake (zRI N [] M0 (0) (1) (fun _ _ => True)) (2, [some (.ref 0), some (.int v2_1)], [], M)) := by
    intro n
    induction n with
    | zero =>
      exact (fun M v2_1 hJ v2_10 v2_11 hn => absurd hn (by omega))
    | succ n ih =>
      have ih2 := ih
      · intro M v2_1 hJ v2_10 v2_11 hn
        refine w_lo dX8_allAwake_2 rfl rfl rfl rfl ?_
        refine w_lo dX8_allAwake_3 rfl rfl rfl rfl ?_
        obtain ⟨b1, f2, h3⟩ := zd_0_3 hJ.1
        have h4 := zDm_b h3
        refine w_gf dX8_allAwake_4 rfl hJ.1.1 zs_0 f2 ?_
        refine w_gfi dX8_allAwake_7 rfl hJ.1 (zs_1_0 h3) (Nat.le_of_ble_eq_true rfl) (zo_1_0_1 h3) ?_
        intro x5 f6 h7 h8
        rcases zcut v2_1.toInt x5.toInt with h9 | h9
        · skip
          refine w_cge_f dX8_allAwake_10 (t := 44) rfl (by omega) ?_
          refine w_lo dX8_allAwake_13 rfl rfl rfl rfl ?_
          refine w_gf dX8_allAwake_14 rfl hJ.1.1 zs_0 (zr_0_4 hJ.1) ?_
          refine w_gf dX8_allAwake_17 rfl hJ.1.1 zs_49 (zr_49_3 hJ.1) ?_
          refine w_lo dX8_allAwake_20 rfl rfl rfl rfl ?_
          refine w_bai dX8_allAwake_21 hJ.1 zs_51 (by omega) (by omega) zu_51 ?_
          intro x13 f10 h11 h12
          rcases Int.decEq x13.toInt (0 : Int) with h14 | h14
          · skip
            refine w_ieq_f dX8_allAwake_22 (t := 38) rfl (by omega) ?_
            refine w_lo dX8_allAwake_25 rfl rfl rfl rfl ?_
            refine w_gf dX8_allAwake_26 rfl hJ.1.1 zs_0 f2 ?_
            refine w_lo dX8_allAwake_29 rfl rfl rfl rfl ?_
            refine w_iv dX8_allAwake_30 rfl rfl (As := [.int v2_1]) rfl rfl hJ.1.1 (zs_1_0 h3) (Nat.le_of_ble_eq_true rfl) ?_
            refine ZV.imp (k_260 b1 h3 v2_1 (by omega) (by omega) hN hJ.1) ?_
            rintro _ ⟨x18, M15, rfl, h19, h20, hJ16, hq17⟩
            have hJ21 := zJ_trans hJ hJ16 zSub_nil
            show ZW _ _ _ _ _ _ _ (33, [some (.ref 0), some (.int v2_1)], [.int x18], M15)
            rcases Int.decEq x18.toInt (0 : Int) with h22 | h22
            · skip
              refine w_ine_t dX8_allAwake_33 (t := 38) rfl (by omega) ?_
              refine w_inc (kk := 1) dX8_allAwake_38 rfl (m := 1) (by decide) (by omega) ?_
              intro x23 h24
              refine ⟨_, rfl, ?_⟩
              show ZW _ _ _ _ _ _ _ (41, [some (.ref 0), some (.int x23)], [], M15)
              refine w_gt dX8_allAwake_41 (t := 2) rfl ?_
              exact ih2 M15 x23 hJ21 (by omega) (by omega) (by omega)
            · skip
              refine w_ine_f dX8_allAwake_33 (t := 38) rfl (by omega) ?_
              refine w_ic dX8_allAwake_36 zi_0 ?_
              refine w_en dX8_allAwake_37 rfl ?_
              exact ⟨_, _, rfl, (by have := zt_0; omega), (by have := zt_0; omega), hJ21, trivial⟩
          · skip
            refine w_ieq_t dX8_allAwake_22 (t := 38) rfl (by omega) ?_
            refine w_inc (kk := 1) dX8_allAwake_38 rfl (m := 1) (by decide) (by omega) ?_
            intro x25 h26
            refine ⟨_, rfl, ?_⟩
            show ZW _ _ _ _ _ _ _ (41, [some (.ref 0), some (.int x25)], [], M)
            refine w_gt dX8_allAwake_41 (t := 2) rfl ?_
            exact ih2 M x25 hJ (by omega) (by omega) (by omega)
        · skip
          refine w_cge_t dX8_allAwake_10 (t := 44) rfl (by omega) ?_
          refine w_ic dX8_allAwake_44 zi_1 ?_
          refine w_en dX8_allAwake_45 rfl ?_
          exact ⟨_, _, rfl, (by have := zt_1; omega), (by have := zt_1; omega), hJ, trivial⟩
  have ih2 := main 48
  show ZW _ _ _ _ _ _ _ (0, [some (.ref 0), none], [], M0)
  refine w_ic dX8_allAwake_0 zi_0 ?_
  refine w_lo (ml' := [some (.ref 0), some (.int 0)]) dX8_allAwake_1 rfl rfl rfl rfl ?_
  exact ih2 M0 0 hJ0 (by have := zt_0; omega) (by have := zt_0; omega) (by have := zt_0; omega)
set_option maxRecDepth 100000 in
theorem k_2103 {X : List Int32} {d N : Nat} {M0 : zM} (a0 : Int32) (a1 : Int32) (a2 : Int32) (tv : Int32) (hftv : zvl M0 (49) 14 = some (.int tv)) (hrtv0 : 0 ≤ tv.toInt) (hrtv1 : tv.toInt + 2400 ≤ 3000 * (N : Int)) (hN : N ≤ 600) (hB0 : zB N M0) : ZV X (d + 8) 2103 [.ref 0, .int a0, .int a1, .int a2] M0 (zRI N [(49, 50, 0), (63, 64, 0), (359, 360, 0), (49, 50, 1), (63, 64, 1), (360, 361, 1), (26, 28, 1000), (47, 49, 1000), (50, 63, 1000), (64, 77, 1000), (361, 362, 1000), (49, 50, 14), (63, 64, 14)] M0 (-2147483648) (2147483647) (fun _ _ => True)) := by
  have hJ0 : zJ N [(49, 50, 0), (63, 64, 0), (359, 360, 0), (49, 50, 1), (63, 64, 1), (360, 361, 1), (26, 28, 1000), (47, 49, 1000), (50, 63, 1000), (64, 77, 1000), (361, 362, 1000), (49, 50, 14), (63, 64, 14)] M0 M0 := zJ_refl hB0
  refine ZV.of (ini := false) rfl (Nat.le_of_ble_eq_true rfl) (by decide +kernel) ?_
  have main : ∀ n : Nat,
      (∀ (M : zM) (v67_1 : Int32) (v67_2 : Int32) (v67_3 : Int32) (v67_4 : Int32) (v67_5 : Int32) (v67_6 : Int32) (v67_7 : Int32) (o67_8 : Option Value) (q_67 : Int32) (e_67 : Int32), zJ N [(49, 50, 0), (63, 64, 0), (359, 360, 0), (49, 50, 1), (63, 64, 1), (360, 361, 1), (26, 28, 1000), (47, 49, 1000), (50, 63, 1000), (64, 77, 1000), (361, 362, 1000), (49, 50, 14), (63, 64, 14)] M0 M → ((1 : Int) ≤ v67_1.toInt) → (v67_1.toInt ≤ 20) → ((1 : Int) ≤ v67_2.toInt) → (v67_2.toInt ≤ 60) → ((0 : Int) ≤ v67_3.toInt) → (v67_3.toInt ≤ 2) → ((-2147483648 : Int) ≤ v67_4.toInt) → (v67_4.toInt ≤ 2147483647) → ((-2147483648 : Int) ≤ v67_5.toInt) → (v67_5.toInt ≤ 2147483647) → ((-2147483648 : Int) ≤ v67_6.toInt) → (v67_6.toInt ≤ 2147483647) → ((0 : Int) ≤ v67_7.toInt) → (v67_7.toInt ≤ 20) → (zvl M (49) 14 = some (.int q_67)) → (q_67.toInt = tv.toInt) → (zvl M (63) 14 = some (.int e_67)) → (e_67.toInt = tv.toInt) → 325 * (20 - v67_7.toInt) + 323 < (n : Int) → ZW X (d + 7) 8 false (some .int) cX8_nights (zRI N [(49, 50, 0), (63, 64, 0), (359, 360, 0), (49, 50, 1), (63, 64, 1), (360, 361, 1), (26, 28, 1000), (47, 49, 1000), (50, 63, 1000), (64, 77, 1000), (361, 362, 1000), (49, 50, 14), (63, 64, 14)] M0 (-2147483648) (2147483647) (fun _ _ => True)) (67, [some (.ref 0), some (.int v67_1), some (.int v67_2), some (.int v67_3), some (.int v67_4), some (.int v67_5), some (.int v67_6), some (.int v67_7), o67_8], [], M)) ∧
      (∀ (M : zM) (v76_1 : Int32) (v76_2 : Int32) (v76_3 : Int32) (v76_4 : Int32) (v76_5 : Int32) (v76_6 : Int32) (v76_7 : Int32) (v76_8 : Int32) (q_76 : Int32) (e_76 : Int32), zJ N [(49, 50, 0), (63, 64, 0), (359, 360, 0), (49, 50, 1), (63, 64, 1), (360, 361, 1), (26, 28, 1000), (47, 49, 1000), (50, 63, 1000), (64, 77, 1000), (361, 362, 1000), (49, 50, 14), (63, 64, 14)] M0 M → ((1 : Int) ≤ v76_1.toInt) → (v76_1.toInt ≤ 20) → ((1 : Int) ≤ v76_2.toInt) → (v76_2.toInt ≤ 60) → ((0 : Int) ≤ v76_3.toInt) → (v76_3.toInt ≤ 2) → ((-2147483648 : Int) ≤ v76_4.toInt) → (v76_4.toInt ≤ 2147483647) → ((-2147483648 : Int) ≤ v76_5.toInt) → (v76_5.toInt ≤ 2147483647) → ((-2147483648 : Int) ≤ v76_6.toInt) → (v76_6.toInt ≤ 2147483647) → ((0 : Int) ≤ v76_7.toInt) → (v76_7.toInt ≤ 19) → ((0 : Int) ≤ v76_8.toInt) → (v76_8.toInt ≤ 62) → (zvl M (49) 14 = some (.int q_76)) → (tv.toInt ≤ q_76.toInt) → (q_76.toInt ≤ tv.toInt + 24 * v76_8.toInt) → (zvl M (63) 14 = some (.int e_76)) → (e_76.toInt = tv.toInt) → 325 * (20 - v76_7.toInt) + 5 * (62 - v76_8.toInt) + 2 < (n : Int) → ZW X (d + 7) 8 false (some .int) cX8_nights (zRI N [(49, 50, 0), (63, 64, 0), (359, 360, 0), (49, 50, 1), (63, 64, 1), (360, 361, 1), (26, 28, 1000), (47, 49, 1000), (50, 63, 1000), (64, 77, 1000), (361, 362, 1000), (49, 50, 14), (63, 64, 14)] M0 (-2147483648) (2147483647) (fun _ _ => True)) (76, [some (.ref 0), some (.int v76_1), some (.int v76_2), some (.int v76_3), some (.int v76_4), some (.int v76_5), some (.int v76_6), some (.int v76_7), some (.int v76_8)], [], M)) ∧
      (∀ (M : zM) (v116_1 : Int32) (v116_2 : Int32) (v116_3 : Int32) (v116_4 : Int32) (v116_5 : Int32) (v116_6 : Int32) (v116_7 : Int32) (u116_8 : Int32) (q_116 : Int32) (e_116 : Int32), zJ N [(49, 50, 0), (63, 64, 0), (359, 360, 0), (49, 50, 1), (63, 64, 1), (360, 361, 1), (26, 28, 1000), (47, 49, 1000), (50, 63, 1000), (64, 77, 1000), (361, 362, 1000), (49, 50, 14), (63, 64, 14)] M0 M → ((1 : Int) ≤ v116_1.toInt) → (v116_1.toInt ≤ 20) → ((1 : Int) ≤ v116_2.toInt) → (v116_2.toInt ≤ 60) → ((0 : Int) ≤ v116_3.toInt) → (v116_3.toInt ≤ 2) → ((-2147483648 : Int) ≤ v116_4.toInt) → (v116_4.toInt ≤ 2147483647) → ((-2147483648 : Int) ≤ v116_5.toInt) → (v116_5.toInt ≤ 2147483647) → ((-2147483648 : Int) ≤ v116_6.toInt) → (v116_6.toInt ≤ 2147483647) → ((0 : Int) ≤ v116_7.toInt) → (v116_7.toInt ≤ 19) → (zvl M (49) 14 = some (.int q_116)) → (0 ≤ q_116.toInt) → (q_116.toInt ≤ tv.toInt + 1488) → (zvl M (63) 14 = some (.int e_116)) → (e_116.toInt = tv.toInt) → 325 * (20 - v116_7.toInt) + 1 < (n : Int) → ZW X (d + 7) 8 false (some .int) cX8_nights (zRI N [(49, 50, 0), (63, 64, 0), (359, 360, 0), (49, 50, 1), (63, 64, 1), (360, 361, 1), (26, 28, 1000), (47, 49, 1000), (50, 63, 1000), (64, 77, 1000), (361, 362, 1000), (49, 50, 14), (63, 64, 14)] M0 (-2147483648) (2147483647) (fun _ _ => True)) (116, [some (.ref 0), some (.int v116_1), some (.int v116_2), some (.int v116_3), some (.int v116_4), some (.int v116_5), some (.int v116_6), some (.int v116_7), some (.int u116_8)], [], M)) := by
    intro n
    induction n with
    | zero =>
      exact ⟨(fun M v67_1 v67_2 v67_3 v67_4 v67_5 v67_6 v67_7 o67_8 q_67 e_67 hJ v67_10 v67_11 v67_20 v67_21 v67_30 v67_31 v67_40 v67_41 v67_50 v67_51 v67_60 v67_61 v67_70 v67_71 hfq_67 hrq_670 hfe_67 hre_670 hn => absurd hn (by omega)), (fun M v76_1 v76_2 v76_3 v76_4 v76_5 v76_6 v76_7 v76_8 q_76 e_76 hJ v76_10 v76_11 v76_20 v76_21 v76_30 v76_31 v76_40 v76_41 v76_50 v76_51 v76_60 v76_61 v76_70 v76_71 v76_80 v76_81 hfq_76 hrq_760 hrq_761 hfe_76 hre_760 hn => absurd hn (by omega)), (fun M v116_1 v116_2 v116_3 v116_4 v116_5 v116_6 v116_7 u116_8 q_116 e_116 hJ v116_10 v116_11 v116_20 v116_21 v116_30 v116_31 v116_40 v116_41 v116_50 v116_51 v116_60 v116_61 v116_70 v116_71 hfq_116 hrq_1160 hrq_1161 hfe_116 hre_1160 hn => absurd hn (by omega))⟩
    | succ n ih =>
      obtain ⟨ih67, ih76, ih116⟩ := ih
      refine ⟨?_, ?_, ?_⟩
      · intro M v67_1 v67_2 v67_3 v67_4 v67_5 v67_6 v67_7 o67_8 q_67 e_67 hJ v67_10 v67_11 v67_20 v67_21 v67_30 v67_31 v67_40 v67_41 v67_50 v67_51 v67_60 v67_61 v67_70 v67_71 hfq_67 hrq_670 hfe_67 hre_670 hn
        refine w_lo dX8_nights_67 rfl rfl rfl rfl ?_
        refine w_lo dX8_nights_69 rfl rfl rfl rfl ?_
        rcases zcut v67_7.toInt v67_1.toInt with h1 | h1
        · skip
          refine w_cge_f dX8_nights_70 (t := 182) rfl (by omega) ?_
          refine w_ic dX8_nights_73 zi_0 ?_
          refine w_lo (ml' := [some (.ref 0), some (.int v67_1), some (.int v67_2), some (.int v67_3), some (.int v67_4), some (.int v67_5), some (.int v67_6), some (.int v67_7), some (.int 0)]) dX8_nights_74 rfl rfl rfl rfl ?_
          exact ih76 M v67_1 v67_2 v67_3 v67_4 v67_5 v67_6 v67_7 0 q_67 e_67 hJ (by omega) (by omega) (by omega) (by omega) (by omega) (by omega) (zbot _) (ztop _) (zbot _) (ztop _) (zbot _) (ztop _) (by omega) (by omega) (by have := zt_0; omega) (by have := zt_0; omega) hfq_67 (by have := zt_0; omega) (by have := zt_0; omega) hfe_67 (by have := zt_0; omega) (by have := zt_0; omega)
        · skip
          refine w_cge_t dX8_nights_70 (t := 182) rfl (by omega) ?_
          refine w_lo dX8_nights_182 rfl rfl rfl rfl ?_
          rcases Int.decEq v67_3.toInt (0 : Int) with h2 | h2
          · skip
            refine w_ine_t dX8_nights_183 (t := 191) rfl (by omega) ?_
            refine w_lo dX8_nights_191 rfl rfl rfl rfl ?_
            refine w_ic dX8_nights_192 zi_1 ?_
            rcases Int.decEq v67_3.toInt (1 : Int) with h3 | h3
            · skip
              refine w_cne_t dX8_nights_193 (t := 201) rfl (by have := zt_1; omega) ?_
              refine w_lo dX8_nights_201 rfl rfl rfl rfl ?_
              refine w_eni dX8_nights_203 rfl rfl ?_
              exact ⟨_, _, rfl, (zbot _), (ztop _), hJ, trivial⟩
            · skip
              refine w_cne_f dX8_nights_193 (t := 201) rfl (by have := zt_1; omega) ?_
              refine w_lo dX8_nights_196 rfl rfl rfl rfl ?_
              refine w_gt dX8_nights_198 (t := 203) rfl ?_
              refine w_eni dX8_nights_203 rfl rfl ?_
              exact ⟨_, _, rfl, (zbot _), (ztop _), hJ, trivial⟩
          · skip
            refine w_ine_f dX8_nights_183 (t := 191) rfl (by omega) ?_
            refine w_lo dX8_nights_186 rfl rfl rfl rfl ?_
            refine w_gt dX8_nights_188 (t := 203) rfl ?_
            refine w_eni dX8_nights_203 rfl rfl ?_
            exact ⟨_, _, rfl, (zbot _), (ztop _), hJ, trivial⟩
      · intro M v76_1 v76_2 v76_3 v76_4 v76_5 v76_6 v76_7 v76_8 q_76 e_76 hJ v76_10 v76_11 v76_20 v76_21 v76_30 v76_31 v76_40 v76_41 v76_50 v76_51 v76_60 v76_61 v76_70 v76_71 v76_80 v76_81 hfq_76 hrq_760 hrq_761 hfe_76 hre_760 hn
        refine w_lo dX8_nights_76 rfl rfl rfl rfl ?_
        refine w_lo dX8_nights_78 rfl rfl rfl rfl ?_
        rcases zcut v76_8.toInt v76_2.toInt with h4 | h4
        · skip
          refine w_cge_f dX8_nights_79 (t := 116) rfl (by omega) ?_
          refine w_lo dX8_nights_82 rfl rfl rfl rfl ?_
          refine w_gf dX8_nights_83 rfl hJ.1.1 zs_0 (zr_0_4 hJ.1) ?_
          refine w_gfi dX8_nights_86 rfl hJ.1 zs_49 (Nat.le_of_ble_eq_true rfl) zo_49_1 ?_
          intro x5 f6 h7 h8
          refine w_si dX8_nights_89 (c := 999) (by decide) ?_
          rcases zcut x5.toInt (999 : Int) with h9 | h9
          · skip
            refine w_cge_f dX8_nights_92 (t := 116) rfl (by have := zt_999; omega) ?_
            refine w_lo dX8_nights_95 rfl rfl rfl rfl ?_
            refine w_gf dX8_nights_96 rfl hJ.1.1 zs_0 (zr_0_7 hJ.1) ?_
            refine w_lo dX8_nights_99 rfl rfl rfl rfl ?_
            obtain ⟨b10, f11, h12⟩ := zd_0_3 hJ.1
            have h13 := zDm_b h12
            refine w_gf dX8_nights_100 rfl hJ.1.1 zs_0 f11 ?_
            refine w_lo dX8_nights_103 rfl rfl rfl rfl ?_
            refine w_gf dX8_nights_104 rfl hJ.1.1 zs_0 (zr_0_4 hJ.1) ?_
            refine w_iv dX8_nights_107 rfl rfl (As := [.ref b10, .ref 49]) rfl rfl hJ.1.1 zs_359 (Nat.le_of_ble_eq_true rfl) ?_
            refine ZV.imp (k_769 b10 h12 49 hb_6_49 q_76 hfq_76 (by omega) (by omega) hN hJ.1) ?_
            rintro _ ⟨M14, rfl, hJ15, hq16⟩
            have hJ17 := zJ_trans hJ hJ15 (zSub_cons (fun _ _ h h' hk => ((zDm_or h12).elim (fun e => zIR_s (zIR_s (zIR_s (zIR_s (zIR_s (zIR_s (zIR_a (by omega) (by omega)))))))) (fun e => zIR_s (zIR_s (zIR_s (zIR_s (zIR_s (zIR_s (zIR_s (zIR_a (by omega) (by omega))))))))))) (zSub_cons (fun _ _ h h' hk => zIR_s (zIR_s (zIR_s (zIR_e (by omega) (by omega) hk)))) (zSub_cons (fun _ _ h h' hk => zIR_s (zIR_s (zIR_s (zIR_s (zIR_s (zIR_s (zIR_s (zIR_s (zIR_a (by omega) (by omega)))))))))) (zSub_cons (fun _ _ h h' hk => zIR_s (zIR_s (zIR_s (zIR_s (zIR_s (zIR_s (zIR_s (zIR_s (zIR_a (by omega) (by omega)))))))))) (zSub_cons (fun _ _ h h' hk => zIR_s (zIR_s (zIR_s (zIR_s (zIR_s (zIR_s (zIR_s (zIR_s (zIR_s (zIR_s (zIR_s (zIR_e (by omega) (by omega) hk)))))))))))) (zSub_cons (fun _ _ h h' hk => zIR_s (zIR_s (zIR_e (by omega) (by omega) hk))) (zSub_cons (fun _ _ h h' hk => zIR_s (zIR_s (zIR_s (zIR_s (zIR_s (zIR_e (by omega) (by omega) hk)))))) (zSub_cons (fun _ _ h h' hk => zIR_s (zIR_s (zIR_s (zIR_s (zIR_s (zIR_s (zIR_s (zIR_s (zIR_s (zIR_s (zIR_a (by omega) (by omega)))))))))))) zSub_nil))))))))
            obtain ⟨x18, f19, h20, h21, -⟩ := hq16
            show ZW _ _ _ _ _ _ _ (110, [some (.ref 0), some (.int v76_1), some (.int v76_2), some (.int v76_3), some (.int v76_4), some (.int v76_5), some (.int v76_6), some (.int v76_7), some (.int v76_8)], [], M14)
            refine w_inc (kk := 8) dX8_nights_110 rfl (m := 1) (by decide) (by omega) ?_
            intro x22 h23
            refine ⟨_, rfl, ?_⟩
            show ZW _ _ _ _ _ _ _ (113, [some (.ref 0), some (.int v76_1), some (.int v76_2), some (.int v76_3), some (.int v76_4), some (.int v76_5), some (.int v76_6), some (.int v76_7), some (.int x22)], [], M14)
            refine w_gt dX8_nights_113 (t := 76) rfl ?_
            have f24 := (hJ15.2 (63) 14 (zNI (by omega) (zNI_k (by decide) (by decide) (zNI (by omega) (zNI (by omega) (zNI (by omega) (zNI_k (by decide) (by decide) (zNI_k (by decide) (by decide) (zNI (by omega) zNI_nil))))))))).trans (hfe_76)
            exact ih76 M14 v76_1 v76_2 v76_3 v76_4 v76_5 v76_6 v76_7 x22 x18 e_76 hJ17 (by omega) (by omega) (by omega) (by omega) (by omega) (by omega) (zbot _) (ztop _) (zbot _) (ztop _) (zbot _) (ztop _) (by omega) (by omega) (by omega) (by omega) f19 (by omega) (by omega) f24 (by omega) (by omega)
          · skip
            refine w_cge_t dX8_nights_92 (t := 116) rfl (by have := zt_999; omega) ?_
            exact ih116 M v76_1 v76_2 v76_3 v76_4 v76_5 v76_6 v76_7 v76_8 q_76 e_76 hJ (by omega) (by omega) (by omega) (by omega) (by omega) (by omega) (zbot _) (ztop _) (zbot _) (ztop _) (zbot _) (ztop _) (by omega) (by omega) hfq_76 (by omega) (by omega) hfe_76 (by omega) (by omega)
        · skip
          refine w_cge_t dX8_nights_79 (t := 116) rfl (by omega) ?_
          exact ih116 M v76_1 v76_2 v76_3 v76_4 v76_5 v76_6 v76_7 v76_8 q_76 e_76 hJ (by omega) (by omega) (by omega) (by omega) (by omega) (by omega) (zbot _) (ztop _) (zbot _) (ztop _) (zbot _) (ztop _) (by omega) (by omega) hfq_76 (by omega) (by omega) hfe_76 (by omega) (by omega)
      · intro M v116_1 v116_2 v116_3 v116_4 v116_5 v116_6 v116_7 u116_8 q_116 e_116 hJ v116_10 v116_11 v116_20 v116_21 v116_30 v116_31 v116_40 v116_41 v116_50 v116_51 v116_60 v116_61 v116_70 v116_71 hfq_116 hrq_1160 hrq_1161 hfe_116 hre_1160 hn
        refine w_lo dX8_nights_116 rfl rfl rfl rfl ?_
        refine w_lo dX8_nights_118 rfl rfl rfl rfl ?_
        refine w_gf dX8_nights_119 rfl hJ.1.1 zs_0 (zr_0_4 hJ.1) ?_
        refine w_gf dX8_nights_122 rfl hJ.1.1 zs_49 hfq_116 ?_
        refine w_lo dX8_nights_125 rfl rfl rfl rfl ?_
        refine w_gf dX8_nights_126 rfl hJ.1.1 zs_0 (zr_0_5 hJ.1) ?_
        refine w_gf dX8_nights_129 rfl hJ.1.1 zs_63 hfe_116 ?_
        refine w_sub dX8_nights_132 (by omega) ?_
        intro x25 h26
        refine w_puI dX8_nights_133 rfl rfl ?_
        intro x27
        refine w_lo (ml' := [some (.ref 0), some (.int v116_1), some (.int v116_2), some (.int v116_3), some (.int x27), some (.int v116_5), some (.int v116_6), some (.int v116_7), some (.int u116_8)]) dX8_nights_134 rfl rfl rfl rfl ?_
        refine w_lo dX8_nights_136 rfl rfl rfl rfl ?_
        refine w_lo dX8_nights_138 rfl rfl rfl rfl ?_
        refine w_gf dX8_nights_139 rfl hJ.1.1 zs_0 (zr_0_4 hJ.1) ?_
        refine w_iv dX8_nights_142 rfl rfl (As := []) rfl rfl hJ.1.1 zs_49 (Nat.le_of_ble_eq_true rfl) ?_
        refine ZV.imp (k_1538 49 hb_6_49 hN hJ.1) ?_
        rintro _ ⟨x31, M28, rfl, h32, h33, hJ29, hq30⟩
        have hJ34 := zJ_trans hJ hJ29 zSub_nil
        show ZW _ _ _ _ _ _ _ (145, [some (.ref 0), some (.int v116_1), some (.int v116_2), some (.int v116_3), some (.int x27), some (.int v116_5), some (.int v116_6), some (.int v116_7), some (.int u116_8)], [.int x31, .int v116_5], M28)
        refine w_puI dX8_nights_145 rfl rfl ?_
        intro x35
        refine w_lo (ml' := [some (.ref 0), some (.int v116_1), some (.int v116_2), some (.int v116_3), some (.int x27), some (.int x35), some (.int v116_6), some (.int v116_7), some (.int u116_8)]) dX8_nights_146 rfl rfl rfl rfl ?_
        refine w_lo dX8_nights_148 rfl rfl rfl rfl ?_
        refine w_lo dX8_nights_150 rfl rfl rfl rfl ?_
        refine w_iv dX8_nights_151 rfl rfl (As := []) rfl rfl hJ34.1.1 zs_0 (Nat.le_of_ble_eq_true rfl) ?_
        refine ZV.imp (k_2104 hN hJ34.1) ?_
        rintro _ ⟨x39, M36, rfl, h40, h41, hJ37, hq38⟩
        have hJ42 := zJ_trans hJ34 hJ37 zSub_nil
        show ZW _ _ _ _ _ _ _ (154, [some (.ref 0), some (.int v116_1), some (.int v116_2), some (.int v116_3), some (.int x27), some (.int x35), some (.int v116_6), some (.int v116_7), some (.int u116_8)], [.int x39, .int v116_6], M36)
        rcases Int.decEq x39.toInt (0 : Int) with h43 | h43
        · skip
          refine w_ieq_f dX8_nights_154 (t := 161) rfl (by omega) ?_
          refine w_ic dX8_nights_157 zi_1 ?_
          refine w_gt dX8_nights_158 (t := 162) rfl ?_
          refine w_puI dX8_nights_162 rfl rfl ?_
          intro x44
          refine w_lo (ml' := [some (.ref 0), some (.int v116_1), some (.int v116_2), some (.int v116_3), some (.int x27), some (.int x35), some (.int x44), some (.int v116_7), some (.int u116_8)]) dX8_nights_163 rfl rfl rfl rfl ?_
          refine w_lo dX8_nights_165 rfl rfl rfl rfl ?_
          refine w_gf dX8_nights_166 rfl hJ42.1.1 zs_0 (zr_0_4 hJ42.1) ?_
          refine w_lo dX8_nights_169 rfl rfl rfl rfl ?_
          refine w_gf dX8_nights_170 rfl hJ42.1.1 zs_0 (zr_0_5 hJ42.1) ?_
          have f47 := (hJ37.2 (63) 14 zNI_nil).trans ((hJ29.2 (63) 14 zNI_nil).trans (hfe_116))
          refine w_iv dX8_nights_173 rfl rfl (As := [.ref 63]) rfl rfl hJ42.1.1 zs_49 (Nat.le_of_ble_eq_true rfl) ?_
          refine ZV.imp (k_1542 49 hb_6_49 63 hb_6_63 e_116 f47 (by omega) (by omega) hN hJ42.1) ?_
          rintro _ ⟨M45, rfl, hJ46, hq48⟩
          have hJ49 := zJ_trans hJ42 hJ46 (zSub_cons (fun _ _ h h' hk => zIR_e (by omega) (by omega) hk) (zSub_cons (fun _ _ h h' hk => zIR_s (zIR_s (zIR_s (zIR_e (by omega) (by omega) hk)))) (zSub_cons (fun _ _ h h' hk => zIR_s (zIR_s (zIR_s (zIR_s (zIR_s (zIR_s (zIR_s (zIR_s (zIR_a (by omega) (by omega)))))))))) (zSub_cons (fun _ _ h h' hk => zIR_s (zIR_s (zIR_s (zIR_s (zIR_s (zIR_s (zIR_s (zIR_s (zIR_s (zIR_s (zIR_s (zIR_e (by omega) (by omega) hk)))))))))))) zSub_nil))))
          obtain ⟨x50, f51, h52, -⟩ := hq48
          show ZW _ _ _ _ _ _ _ (176, [some (.ref 0), some (.int v116_1), some (.int v116_2), some (.int v116_3), some (.int x27), some (.int x35), some (.int x44), some (.int v116_7), some (.int u116_8)], [], M45)
          refine w_inc (kk := 7) dX8_nights_176 rfl (m := 1) (by decide) (by omega) ?_
          intro x53 h54
          refine ⟨_, rfl, ?_⟩
          show ZW _ _ _ _ _ _ _ (179, [some (.ref 0), some (.int v116_1), some (.int v116_2), some (.int v116_3), some (.int x27), some (.int x35), some (.int x44), some (.int x53), some (.int u116_8)], [], M45)
          refine w_gt dX8_nights_179 (t := 67) rfl ?_
          have f55 := (hJ46.2 (63) 14 (zNI_k (by decide) (by decide) (zNI_k (by decide) (by decide) (zNI (by omega) (zNI (by omega) zNI_nil))))).trans (f47)
          exact ih67 M45 v116_1 v116_2 v116_3 x27 x35 x44 x53 (some (.int u116_8)) x50 e_116 hJ49 (by omega) (by omega) (by omega) (by omega) (by omega) (by omega) (zbot _) (ztop _) (zbot _) (ztop _) (zbot _) (ztop _) (by omega) (by omega) f51 (by omega) f55 (by omega) (by omega)
        · skip
          refine w_ieq_t dX8_nights_154 (t := 161) rfl (by omega) ?_
          refine w_ic dX8_nights_161 zi_0 ?_
          refine w_add dX8_nights_162 (by have := zt_0; omega) ?_
          intro x56 h57
          have := zt_0
          refine w_lo (ml' := [some (.ref 0), some (.int v116_1), some (.int v116_2), some (.int v116_3), some (.int x27), some (.int x35), some (.int x56), some (.int v116_7), some (.int u116_8)]) dX8_nights_163 rfl rfl rfl rfl ?_
          refine w_lo dX8_nights_165 rfl rfl rfl rfl ?_
          refine w_gf dX8_nights_166 rfl hJ42.1.1 zs_0 (zr_0_4 hJ42.1) ?_
          refine w_lo dX8_nights_169 rfl rfl rfl rfl ?_
          refine w_gf dX8_nights_170 rfl hJ42.1.1 zs_0 (zr_0_5 hJ42.1) ?_
          have f60 := (hJ37.2 (63) 14 zNI_nil).trans ((hJ29.2 (63) 14 zNI_nil).trans (hfe_116))
          refine w_iv dX8_nights_173 rfl rfl (As := [.ref 63]) rfl rfl hJ42.1.1 zs_49 (Nat.le_of_ble_eq_true rfl) ?_
          refine ZV.imp (k_1542 49 hb_6_49 63 hb_6_63 e_116 f60 (by omega) (by omega) hN hJ42.1) ?_
          rintro _ ⟨M58, rfl, hJ59, hq61⟩
          have hJ62 := zJ_trans hJ42 hJ59 (zSub_cons (fun _ _ h h' hk => zIR_e (by omega) (by omega) hk) (zSub_cons (fun _ _ h h' hk => zIR_s (zIR_s (zIR_s (zIR_e (by omega) (by omega) hk)))) (zSub_cons (fun _ _ h h' hk => zIR_s (zIR_s (zIR_s (zIR_s (zIR_s (zIR_s (zIR_s (zIR_s (zIR_a (by omega) (by omega)))))))))) (zSub_cons (fun _ _ h h' hk => zIR_s (zIR_s (zIR_s (zIR_s (zIR_s (zIR_s (zIR_s (zIR_s (zIR_s (zIR_s (zIR_s (zIR_e (by omega) (by omega) hk)))))))))))) zSub_nil))))
          obtain ⟨x63, f64, h65, -⟩ := hq61
          show ZW _ _ _ _ _ _ _ (176, [some (.ref 0), some (.int v116_1), some (.int v116_2), some (.int v116_3), some (.int x27), some (.int x35), some (.int x56), some (.int v116_7), some (.int u116_8)], [], M58)
          refine w_inc (kk := 7) dX8_nights_176 rfl (m := 1) (by decide) (by omega) ?_
          intro x66 h67
          refine ⟨_, rfl, ?_⟩
          show ZW _ _ _ _ _ _ _ (179, [some (.ref 0), some (.int v116_1), some (.int v116_2), some (.int v116_3), some (.int x27), some (.int x35), some (.int x56), some (.int x66), some (.int u116_8)], [], M58)
          refine w_gt dX8_nights_179 (t := 67) rfl ?_
          have f68 := (hJ59.2 (63) 14 (zNI_k (by decide) (by decide) (zNI_k (by decide) (by decide) (zNI (by omega) (zNI (by omega) zNI_nil))))).trans (f60)
          exact ih67 M58 v116_1 v116_2 v116_3 x27 x35 x56 x66 (some (.int u116_8)) x63 e_116 hJ62 (by omega) (by omega) (by omega) (by omega) (by omega) (by omega) (zbot _) (ztop _) (zbot _) (ztop _) (zbot _) (ztop _) (by omega) (by omega) f64 (by omega) f68 (by omega) (by omega)
  obtain ⟨ih67, ih76, ih116⟩ := main 7478
  show ZW _ _ _ _ _ _ _ (0, [some (.ref 0), some (.int a0), some (.int a1), some (.int a2), none, none, none, none, none], [], M0)
  refine w_lo dX8_nights_0 rfl rfl rfl rfl ?_
  refine w_ic dX8_nights_1 zi_1 ?_
  rcases zcut a0.toInt (1 : Int) with h69 | h69
  · skip
    refine w_clt_t dX8_nights_2 (t := 42) rfl (by have := zt_1; omega) ?_
    refine w_ic dX8_nights_42 zi_m1 ?_
    refine w_en dX8_nights_43 rfl ?_
    exact ⟨_, _, rfl, (zbot _), (ztop _), hJ0, trivial⟩
  · skip
    refine w_clt_f dX8_nights_2 (t := 42) rfl (by have := zt_1; omega) ?_
    refine w_lo dX8_nights_5 rfl rfl rfl rfl ?_
    refine w_bi dX8_nights_6 (c := 20) (by decide) ?_
    rcases zcut (20 : Int) a0.toInt with h70 | h70
    · skip
      refine w_cgt_t dX8_nights_8 (t := 42) rfl (by have := zt_20; omega) ?_
      refine w_ic dX8_nights_42 zi_m1 ?_
      refine w_en dX8_nights_43 rfl ?_
      exact ⟨_, _, rfl, (zbot _), (ztop _), hJ0, trivial⟩
    · skip
      refine w_cgt_f dX8_nights_8 (t := 42) rfl (by have := zt_20; omega) ?_
      refine w_lo dX8_nights_11 rfl rfl rfl rfl ?_
      refine w_ic dX8_nights_12 zi_1 ?_
      rcases zcut a1.toInt (1 : Int) with h71 | h71
      · skip
        refine w_clt_t dX8_nights_13 (t := 42) rfl (by have := zt_1; omega) ?_
        refine w_ic dX8_nights_42 zi_m1 ?_
        refine w_en dX8_nights_43 rfl ?_
        exact ⟨_, _, rfl, (zbot _), (ztop _), hJ0, trivial⟩
      · skip
        refine w_clt_f dX8_nights_13 (t := 42) rfl (by have := zt_1; omega) ?_
        refine w_lo dX8_nights_16 rfl rfl rfl rfl ?_
        refine w_bi dX8_nights_17 (c := 60) (by decide) ?_
        rcases zcut (60 : Int) a1.toInt with h72 | h72
        · skip
          refine w_cgt_t dX8_nights_19 (t := 42) rfl (by have := zt_60; omega) ?_
          refine w_ic dX8_nights_42 zi_m1 ?_
          refine w_en dX8_nights_43 rfl ?_
          exact ⟨_, _, rfl, (zbot _), (ztop _), hJ0, trivial⟩
        · skip
          refine w_cgt_f dX8_nights_19 (t := 42) rfl (by have := zt_60; omega) ?_
          refine w_lo dX8_nights_22 rfl rfl rfl rfl ?_
          rcases zcut a2.toInt (0 : Int) with h73 | h73
          · skip
            refine w_ilt_t dX8_nights_23 (t := 42) rfl (by omega) ?_
            refine w_ic dX8_nights_42 zi_m1 ?_
            refine w_en dX8_nights_43 rfl ?_
            exact ⟨_, _, rfl, (zbot _), (ztop _), hJ0, trivial⟩
          · skip
            refine w_ilt_f dX8_nights_23 (t := 42) rfl (by omega) ?_
            refine w_lo dX8_nights_26 rfl rfl rfl rfl ?_
            refine w_ic dX8_nights_27 zi_2 ?_
            rcases zcut (2 : Int) a2.toInt with h74 | h74
            · skip
              refine w_cgt_t dX8_nights_28 (t := 42) rfl (by have := zt_2; omega) ?_
              refine w_ic dX8_nights_42 zi_m1 ?_
              refine w_en dX8_nights_43 rfl ?_
              exact ⟨_, _, rfl, (zbot _), (ztop _), hJ0, trivial⟩
            · skip
              refine w_cgt_f dX8_nights_28 (t := 42) rfl (by have := zt_2; omega) ?_
              refine w_lo dX8_nights_31 rfl rfl rfl rfl ?_
              refine w_gf dX8_nights_32 rfl hJ0.1.1 zs_0 (zr_0_4 hJ0.1) ?_
              refine w_gfi dX8_nights_35 rfl hJ0.1 zs_49 (Nat.le_of_ble_eq_true rfl) zo_49_0 ?_
              intro x75 f76 h77 h78
              refine w_ic dX8_nights_38 zi_1 ?_
              rcases zcut x75.toInt (1 : Int) with h79 | h79
              · skip
                refine w_cge_f dX8_nights_39 (t := 44) rfl (by have := zt_1; omega) ?_
                refine w_ic dX8_nights_42 zi_m1 ?_
                refine w_en dX8_nights_43 rfl ?_
                exact ⟨_, _, rfl, (zbot _), (ztop _), hJ0, trivial⟩
              · skip
                refine w_cge_t dX8_nights_39 (t := 44) rfl (by have := zt_1; omega) ?_
                refine w_ic dX8_nights_44 zi_0 ?_
                refine w_lo (ml' := [some (.ref 0), some (.int a0), some (.int a1), some (.int a2), some (.int 0), none, none, none, none]) dX8_nights_45 rfl rfl rfl rfl ?_
                refine w_ic dX8_nights_47 zi_0 ?_
                refine w_lo (ml' := [some (.ref 0), some (.int a0), some (.int a1), some (.int a2), some (.int 0), some (.int 0), none, none, none]) dX8_nights_48 rfl rfl rfl rfl ?_
                refine w_ic dX8_nights_50 zi_0 ?_
                refine w_lo (ml' := [some (.ref 0), some (.int a0), some (.int a1), some (.int a2), some (.int 0), some (.int 0), some (.int 0), none, none]) dX8_nights_51 rfl rfl rfl rfl ?_
                refine w_lo dX8_nights_53 rfl rfl rfl rfl ?_
                refine w_gf dX8_nights_54 rfl hJ0.1.1 zs_0 (zr_0_5 hJ0.1) ?_
                refine w_lo dX8_nights_57 rfl rfl rfl rfl ?_
                refine w_gf dX8_nights_58 rfl hJ0.1.1 zs_0 (zr_0_4 hJ0.1) ?_
                refine w_iv dX8_nights_61 rfl rfl (As := [.ref 49]) rfl rfl hJ0.1.1 zs_63 (Nat.le_of_ble_eq_true rfl) ?_
                refine ZV.imp (k_1542 63 hb_6_63 49 hb_6_49 tv hftv (by omega) (by omega) hN hJ0.1) ?_
                rintro _ ⟨M80, rfl, hJ81, hq82⟩
                have hJ83 := zJ_trans hJ0 hJ81 (zSub_cons (fun _ _ h h' hk => zIR_s (zIR_e (by omega) (by omega) hk)) (zSub_cons (fun _ _ h h' hk => zIR_s (zIR_s (zIR_s (zIR_s (zIR_e (by omega) (by omega) hk))))) (zSub_cons (fun _ _ h h' hk => zIR_s (zIR_s (zIR_s (zIR_s (zIR_s (zIR_s (zIR_s (zIR_s (zIR_s (zIR_a (by omega) (by omega))))))))))) (zSub_cons (fun _ _ h h' hk => zIR_s (zIR_s (zIR_s (zIR_s (zIR_s (zIR_s (zIR_s (zIR_s (zIR_s (zIR_s (zIR_s (zIR_s (zIR_e (by omega) (by omega) hk))))))))))))) zSub_nil))))
                obtain ⟨x84, f85, h86, -⟩ := hq82
                show ZW _ _ _ _ _ _ _ (64, [some (.ref 0), some (.int a0), some (.int a1), some (.int a2), some (.int 0), some (.int 0), some (.int 0), none, none], [], M80)
                refine w_ic dX8_nights_64 zi_0 ?_
                refine w_lo (ml' := [some (.ref 0), some (.int a0), some (.int a1), some (.int a2), some (.int 0), some (.int 0), some (.int 0), some (.int 0), none]) dX8_nights_65 rfl rfl rfl rfl ?_
                have f87 := (hJ81.2 (49) 14 (zNI_k (by decide) (by decide) (zNI_k (by decide) (by decide) (zNI (by omega) (zNI (by omega) zNI_nil))))).trans (hftv)
                exact ih67 M80 a0 a1 a2 0 0 0 0 none tv x84 hJ83 (by omega) (by omega) (by omega) (by omega) (by omega) (by omega) (zbot _) (ztop _) (zbot _) (ztop _) (zbot _) (ztop _) (by have := zt_0; omega) (by have := zt_0; omega) f87 (by have := zt_0; omega) f85 (by have := zt_0; omega) (by have := zt_0; omega)
set_option maxRecDepth 100000 in
theorem k_2107 {X : List Int32} {d N : Nat} {M0 : zM} (a0 : Int32) (hN : N ≤ 600) (hB0 : zB N M0) : ZV X (d + 1) 2107 [.ref 0, .int a0] M0 (zRV N [(384, 385, 1000), (0, 1, 13)] M0 (fun _ => True)) := by
  have hJ0 : zJ N [(384, 385, 1000), (0, 1, 13)] M0 M0 := zJ_refl hB0
  refine ZV.of (ini := false) rfl (Nat.le_of_ble_eq_true rfl) (by decide +kernel) ?_
  show ZW _ _ _ _ _ _ _ (0, [some (.ref 0), some (.int a0)], [], M0)
  refine w_lo dX8_putOctet_0 rfl rfl rfl rfl ?_
  refine w_gfi dX8_putOctet_1 rfl hJ0.1 zs_0 (Nat.le_of_ble_eq_true rfl) zo_0_13 ?_
  intro x1 f2 h3 h4
  refine w_bi dX8_putOctet_4 (c := 109) (by decide) ?_
  rcases zcut x1.toInt (109 : Int) with h5 | h5
  · skip
    refine w_cge_f dX8_putOctet_6 (t := 29) rfl (by have := zt_109; omega) ?_
    refine w_lo dX8_putOctet_9 rfl rfl rfl rfl ?_
    refine w_gf dX8_putOctet_10 rfl hJ0.1.1 zs_0 (zr_0_12 hJ0.1) ?_
    refine w_lo dX8_putOctet_13 rfl rfl rfl rfl ?_
    refine w_gf dX8_putOctet_14 rfl hJ0.1.1 zs_0 f2 ?_
    refine w_lo dX8_putOctet_17 rfl rfl rfl rfl ?_
    refine w_isi dX8_putOctet_18 hJ0 zs_384 (by omega) (by omega) zu_384 (zbot _) (ztop _) (zIR_a (by omega) (by omega)) ?_
    intro M6 hJ7 f8 hn9
    refine w_lo dX8_putOctet_19 rfl rfl rfl rfl ?_
    refine w_pu dX8_putOctet_20 rfl rfl ?_
    have f10 := (hn9 (0) 13 (Or.inl (by omega))).trans (f2)
    refine w_gf dX8_putOctet_21 rfl hJ7.1.1 zs_0 f10 ?_
    refine w_ic dX8_putOctet_24 zi_1 ?_
    refine w_add dX8_putOctet_25 (by have := zt_1; omega) ?_
    intro x11 h12
    have := zt_1
    refine w_pfi dX8_putOctet_26 rfl hJ7 zs_0 (Nat.le_of_ble_eq_true rfl) zo_0_13 (by omega) (by omega) (zIR_s (zIR_k (by omega) (by omega))) rfl rfl rfl ?_
    intro M13 hJ14 f15 hn16
    refine w_en dX8_putOctet_29 rfl ?_
    exact ⟨_, rfl, hJ14, trivial⟩
  · skip
    refine w_cge_t dX8_putOctet_6 (t := 29) rfl (by have := zt_109; omega) ?_
    refine w_en dX8_putOctet_29 rfl ?_
    exact ⟨_, rfl, hJ0, trivial⟩
set_option maxRecDepth 100000 in
theorem k_2106 {X : List Int32} {d N : Nat} {M0 : zM} (a0 : Int32) (hN : N ≤ 600) (hB0 : zB N M0) : ZV X (d + 2) 2106 [.ref 0, .int a0] M0 (zRV N [(384, 385, 1000), (0, 1, 13)] M0 (fun _ => True)) := by
  have hJ0 : zJ N [(384, 385, 1000), (0, 1, 13)] M0 M0 := zJ_refl hB0
  refine ZV.of (ini := false) rfl (Nat.le_of_ble_eq_true rfl) (by decide +kernel) ?_
  show ZW _ _ _ _ _ _ _ (0, [some (.ref 0), some (.int a0)], [], M0)
  refine w_lo dX8_putPair_0 rfl rfl rfl rfl ?_
  refine w_lo dX8_putPair_1 rfl rfl rfl rfl ?_
  refine w_si dX8_putPair_2 (c := 256) (by decide) ?_
  refine w_divT dX8_putPair_5 (by have := zt_256; omega) ?_
  intro x1
  refine w_iv dX8_putPair_6 rfl rfl (As := [.int x1]) rfl rfl hJ0.1.1 zs_0 (Nat.le_of_ble_eq_true rfl) ?_
  refine ZV.imp (k_2107 x1 hN hJ0.1) ?_
  rintro _ ⟨M2, rfl, hJ3, hq4⟩
  have hJ5 := zJ_trans hJ0 hJ3 (zSub_cons (fun _ _ h h' hk => zIR_a (by omega) (by omega)) (zSub_cons (fun _ _ h h' hk => zIR_s (zIR_e (by omega) (by omega) hk)) zSub_nil))
  show ZW _ _ _ _ _ _ _ (9, [some (.ref 0), some (.int a0)], [], M2)
  refine w_lo dX8_putPair_9 rfl rfl rfl rfl ?_
  refine w_lo dX8_putPair_10 rfl rfl rfl rfl ?_
  refine w_si dX8_putPair_11 (c := 256) (by decide) ?_
  refine w_remT dX8_putPair_14 (by have := zt_256; omega) ?_
  intro x6
  refine w_iv dX8_putPair_15 rfl rfl (As := [.int x6]) rfl rfl hJ5.1.1 zs_0 (Nat.le_of_ble_eq_true rfl) ?_
  refine ZV.imp (k_2107 x6 hN hJ5.1) ?_
  rintro _ ⟨M7, rfl, hJ8, hq9⟩
  have hJ10 := zJ_trans hJ5 hJ8 (zSub_cons (fun _ _ h h' hk => zIR_a (by omega) (by omega)) (zSub_cons (fun _ _ h h' hk => zIR_s (zIR_e (by omega) (by omega) hk)) zSub_nil))
  show ZW _ _ _ _ _ _ _ (18, [some (.ref 0), some (.int a0)], [], M7)
  refine w_en dX8_putPair_18 rfl ?_
  exact ⟨_, rfl, hJ10, trivial⟩
set_option maxRecDepth 100000 in
theorem k_2108 {X : List Int32} {d N : Nat} {M0 : zM} (p0 n0 : Nat) (lo0 hi0 : Int) (he0 : zS0[p0]? = some (10, n0)) (hu0 : ∀ k, zT p0 k = (0, lo0, hi0)) (hn0 : n0 ≤ 1601) (hl0 : lo0 ≤ 0) (hh0 : 0 ≤ hi0) (a1 : Int32) (ha10 : (0 : Int) ≤ a1.toInt) (ha11 : a1.toInt ≤ 109) (hN : N ≤ 600) (hB0 : zB N M0) : ZV X (d + 1) 2108 [.ref p0, .int a1] M0 (zRI N [] M0 (-2147483648) (2147483647) (fun _ _ => True)) := by
  have hJ0 : zJ N [] M0 M0 := zJ_refl hB0
  refine ZV.of (ini := false) rfl (Nat.le_of_ble_eq_true rfl) (by decide +kernel) ?_
  have main : ∀ n : Nat,
      (∀ (M : zM) (v5_1 : Int32) (v5_2 : Int32) (v5_3 : Int32), zJ N [] M0 M → ((0 : Int) ≤ v5_1.toInt) → (v5_1.toInt ≤ 109) → ((-2147483648 : Int) ≤ v5_2.toInt) → (v5_2.toInt ≤ 2147483647) → ((0 : Int) ≤ v5_3.toInt) → (v5_3.toInt ≤ 109) → 3 * (109 - v5_3.toInt) + 1 < (n : Int) → ZW X (d + 0) 8 false (some .int) cX8_sealOf (zRI N [] M0 (-2147483648) (2147483647) (fun _ _ => True)) (5, [some (.ref p0), some (.int v5_1), some (.int v5_2), some (.int v5_3)], [], M)) := by
    intro n
    induction n with
    | zero =>
      exact (fun M v5_1 v5_2 v5_3 hJ v5_10 v5_11 v5_20 v5_21 v5_30 v5_31 hn => absurd hn (by omega))
    | succ n ih =>
      have ih5 := ih
      · intro M v5_1 v5_2 v5_3 hJ v5_10 v5_11 v5_20 v5_21 v5_30 v5_31 hn
        refine w_lo dX8_sealOf_5 rfl rfl rfl rfl ?_
        refine w_lo dX8_sealOf_6 rfl rfl rfl rfl ?_
        rcases zcut v5_3.toInt v5_1.toInt with h1 | h1
        · skip
          refine w_cge_f dX8_sealOf_7 (t := 34) rfl (by omega) ?_
          refine w_lo dX8_sealOf_10 rfl rfl rfl rfl ?_
          refine w_lo dX8_sealOf_11 rfl rfl rfl rfl ?_
          refine w_alp dX8_sealOf_12 hJ.1.1 he0 hn0 ?_
          intro x2 h3
          rcases zcut v5_3.toInt x2.toInt with h4 | h4
          · skip
            refine w_cge_f dX8_sealOf_13 (t := 34) rfl (by omega) ?_
            refine w_ic dX8_sealOf_16 zi_5 ?_
            refine w_lo dX8_sealOf_17 rfl rfl rfl rfl ?_
            refine w_puI dX8_sealOf_18 rfl rfl ?_
            intro x5
            refine w_lo dX8_sealOf_19 rfl rfl rfl rfl ?_
            refine w_lo dX8_sealOf_20 rfl rfl rfl rfl ?_
            refine w_iai dX8_sealOf_21 hJ.1 he0 (by omega) (by omega) hu0 ?_
            intro x9 f6 h7 h8
            refine w_puI dX8_sealOf_22 rfl rfl ?_
            intro x10
            refine w_si dX8_sealOf_23 (c := 251) (by decide) ?_
            refine w_remT dX8_sealOf_26 (by have := zt_251; omega) ?_
            intro x11
            refine w_lo (ml' := [some (.ref p0), some (.int v5_1), some (.int x11), some (.int v5_3)]) dX8_sealOf_27 rfl rfl rfl rfl ?_
            refine w_inc (kk := 3) dX8_sealOf_28 rfl (m := 1) (by decide) (by omega) ?_
            intro x12 h13
            refine ⟨_, rfl, ?_⟩
            show ZW _ _ _ _ _ _ _ (31, [some (.ref p0), some (.int v5_1), some (.int x11), some (.int x12)], [], M)
            refine w_gt dX8_sealOf_31 (t := 5) rfl ?_
            exact ih5 M v5_1 x11 x12 hJ (by omega) (by omega) (zbot _) (ztop _) (by omega) (by omega) (by omega)
          · skip
            refine w_cge_t dX8_sealOf_13 (t := 34) rfl (by omega) ?_
            refine w_lo dX8_sealOf_34 rfl rfl rfl rfl ?_
            refine w_eni dX8_sealOf_35 rfl rfl ?_
            exact ⟨_, _, rfl, (zbot _), (ztop _), hJ, trivial⟩
        · skip
          refine w_cge_t dX8_sealOf_7 (t := 34) rfl (by omega) ?_
          refine w_lo dX8_sealOf_34 rfl rfl rfl rfl ?_
          refine w_eni dX8_sealOf_35 rfl rfl ?_
          exact ⟨_, _, rfl, (zbot _), (ztop _), hJ, trivial⟩
  have ih5 := main 339
  show ZW _ _ _ _ _ _ _ (0, [some (.ref p0), some (.int a1), none, none], [], M0)
  refine w_bi dX8_sealOf_0 (c := 89) (by decide) ?_
  refine w_lo (ml' := [some (.ref p0), some (.int a1), some (.int 89), none]) dX8_sealOf_2 rfl rfl rfl rfl ?_
  refine w_ic dX8_sealOf_3 zi_0 ?_
  refine w_lo (ml' := [some (.ref p0), some (.int a1), some (.int 89), some (.int 0)]) dX8_sealOf_4 rfl rfl rfl rfl ?_
  exact ih5 M0 a1 89 0 hJ0 (by omega) (by omega) (zbot _) (ztop _) (by have := zt_0; omega) (by have := zt_0; omega) (by have := zt_89; have := zt_0; omega)
set_option maxRecDepth 100000 in
theorem k_2105 {X : List Int32} {d N : Nat} {M0 : zM}  (hN : N ≤ 600) (hB0 : zB N M0) : ZV X (d + 3) 2105 [.ref 0] M0 (zRI N [(384, 385, 1000), (0, 1, 13)] M0 (0) (109) (fun _ _ => True)) := by
  have hJ0 : zJ N [(384, 385, 1000), (0, 1, 13)] M0 M0 := zJ_refl hB0
  refine ZV.of (ini := false) rfl (Nat.le_of_ble_eq_true rfl) (by decide +kernel) ?_
  have main : ∀ n : Nat,
      (∀ (M : zM) (v18_1 : Int32) (o18_2 : Option Value), zJ N [(384, 385, 1000), (0, 1, 13)] M0 M → ((0 : Int) ≤ v18_1.toInt) → (v18_1.toInt ≤ 12) → 4 * (12 - v18_1.toInt) + 54 < (n : Int) → ZW X (d + 2) 8 false (some .int) cX8_image (zRI N [(384, 385, 1000), (0, 1, 13)] M0 (0) (109) (fun _ _ => True)) (18, [some (.ref 0), some (.int v18_1), o18_2], [], M)) ∧
      (∀ (M : zM) (v135_1 : Int32) (o135_2 : Option Value), zJ N [(384, 385, 1000), (0, 1, 13)] M0 M → ((0 : Int) ≤ v135_1.toInt) → (v135_1.toInt ≤ 11) → 4 * (11 - v135_1.toInt) + 1 < (n : Int) → ZW X (d + 2) 8 false (some .int) cX8_image (zRI N [(384, 385, 1000), (0, 1, 13)] M0 (0) (109) (fun _ _ => True)) (135, [some (.ref 0), some (.int v135_1), o135_2], [], M)) := by
    intro n
    induction n with
    | zero =>
      exact ⟨(fun M v18_1 o18_2 hJ v18_10 v18_11 hn => absurd hn (by omega)), (fun M v135_1 o135_2 hJ v135_10 v135_11 hn => absurd hn (by omega))⟩
    | succ n ih =>
      obtain ⟨ih18, ih135⟩ := ih
      refine ⟨?_, ?_⟩
      · intro M v18_1 o18_2 hJ v18_10 v18_11 hn
        refine w_lo dX8_image_18 rfl rfl rfl rfl ?_
        refine w_lo dX8_image_19 rfl rfl rfl rfl ?_
        refine w_gf dX8_image_20 rfl hJ.1.1 zs_0 (zr_0_4 hJ.1) ?_
        refine w_gfi dX8_image_23 rfl hJ.1 zs_49 (Nat.le_of_ble_eq_true rfl) zo_49_0 ?_
        intro x1 f2 h3 h4
        rcases zcut v18_1.toInt x1.toInt with h5 | h5
        · skip
          refine w_cge_f dX8_image_26 (t := 133) rfl (by omega) ?_
          refine w_lo dX8_image_29 rfl rfl rfl rfl ?_
          refine w_gf dX8_image_30 rfl hJ.1.1 zs_0 (zr_0_4 hJ.1) ?_
          refine w_gf dX8_image_33 rfl hJ.1.1 zs_49 (zr_49_2 hJ.1) ?_
          refine w_lo dX8_image_36 rfl rfl rfl rfl ?_
          refine w_iai dX8_image_37 hJ.1 zs_50 (by omega) (by omega) zu_50 ?_
          intro x9 f6 h7 h8
          refine w_lo (ml' := [some (.ref 0), some (.int v18_1), some (.int x9)]) dX8_image_38 rfl rfl rfl rfl ?_
          refine w_lo dX8_image_39 rfl rfl rfl rfl ?_
          refine w_lo dX8_image_40 rfl rfl rfl rfl ?_
          refine w_iv dX8_image_41 rfl rfl (As := [.int x9]) rfl rfl hJ.1.1 zs_0 (Nat.le_of_ble_eq_true rfl) ?_
          refine ZV.imp (k_2107 x9 hN hJ.1) ?_
          rintro _ ⟨M10, rfl, hJ11, hq12⟩
          have hJ13 := zJ_trans hJ hJ11 (zSub_cons (fun _ _ h h' hk => zIR_a (by omega) (by omega)) (zSub_cons (fun _ _ h h' hk => zIR_s (zIR_e (by omega) (by omega) hk)) zSub_nil))
          show ZW _ _ _ _ _ _ _ (44, [some (.ref 0), some (.int v18_1), some (.int x9)], [], M10)
          refine w_lo dX8_image_44 rfl rfl rfl rfl ?_
          refine w_lo dX8_image_45 rfl rfl rfl rfl ?_
          refine w_gf dX8_image_46 rfl hJ13.1.1 zs_0 (zr_0_4 hJ13.1) ?_
          refine w_gf dX8_image_49 rfl hJ13.1.1 zs_49 (zr_49_3 hJ13.1) ?_
          refine w_lo dX8_image_52 rfl rfl rfl rfl ?_
          refine w_bai dX8_image_53 hJ13.1 zs_51 (by omega) (by omega) zu_51 ?_
          intro x17 f14 h15 h16
          rcases Int.decEq x17.toInt (0 : Int) with h18 | h18
          · skip
            refine w_ieq_f dX8_image_54 (t := 61) rfl (by omega) ?_
            refine w_ic dX8_image_57 zi_1 ?_
            refine w_gt dX8_image_58 (t := 62) rfl ?_
            refine w_iv dX8_image_62 rfl rfl (As := [.int 1]) rfl rfl hJ13.1.1 zs_0 (Nat.le_of_ble_eq_true rfl) ?_
            refine ZV.imp (k_2107 1 hN hJ13.1) ?_
            rintro _ ⟨M19, rfl, hJ20, hq21⟩
            have hJ22 := zJ_trans hJ13 hJ20 (zSub_cons (fun _ _ h h' hk => zIR_a (by omega) (by omega)) (zSub_cons (fun _ _ h h' hk => zIR_s (zIR_e (by omega) (by omega) hk)) zSub_nil))
            show ZW _ _ _ _ _ _ _ (65, [some (.ref 0), some (.int v18_1), some (.int x9)], [], M19)
            refine w_lo dX8_image_65 rfl rfl rfl rfl ?_
            refine w_lo dX8_image_66 rfl rfl rfl rfl ?_
            refine w_gf dX8_image_67 rfl hJ22.1.1 zs_0 (zr_0_4 hJ22.1) ?_
            refine w_gf dX8_image_70 rfl hJ22.1.1 zs_49 (zr_49_4 hJ22.1) ?_
            refine w_lo dX8_image_73 rfl rfl rfl rfl ?_
            refine w_iai dX8_image_74 hJ22.1 zs_52 (by omega) (by omega) zu_52 ?_
            intro x26 f23 h24 h25
            refine w_ic dX8_image_75 zi_1 ?_
            refine w_add dX8_image_76 (by have := zt_1; omega) ?_
            intro x27 h28
            have := zt_1
            refine w_iv dX8_image_77 rfl rfl (As := [.int x27]) rfl rfl hJ22.1.1 zs_0 (Nat.le_of_ble_eq_true rfl) ?_
            refine ZV.imp (k_2107 x27 hN hJ22.1) ?_
            rintro _ ⟨M29, rfl, hJ30, hq31⟩
            have hJ32 := zJ_trans hJ22 hJ30 (zSub_cons (fun _ _ h h' hk => zIR_a (by omega) (by omega)) (zSub_cons (fun _ _ h h' hk => zIR_s (zIR_e (by omega) (by omega) hk)) zSub_nil))
            show ZW _ _ _ _ _ _ _ (80, [some (.ref 0), some (.int v18_1), some (.int x9)], [], M29)
            refine w_lo dX8_image_80 rfl rfl rfl rfl ?_
            refine w_lo dX8_image_81 rfl rfl rfl rfl ?_
            refine w_gf dX8_image_82 rfl hJ32.1.1 zs_0 (zr_0_4 hJ32.1) ?_
            refine w_gf dX8_image_85 rfl hJ32.1.1 zs_49 (zr_49_5 hJ32.1) ?_
            refine w_lo dX8_image_88 rfl rfl rfl rfl ?_
            refine w_iai dX8_image_89 hJ32.1 zs_53 (by omega) (by omega) zu_53 ?_
            intro x36 f33 h34 h35
            refine w_iv dX8_image_90 rfl rfl (As := [.int x36]) rfl rfl hJ32.1.1 zs_0 (Nat.le_of_ble_eq_true rfl) ?_
            refine ZV.imp (k_2107 x36 hN hJ32.1) ?_
            rintro _ ⟨M37, rfl, hJ38, hq39⟩
            have hJ40 := zJ_trans hJ32 hJ38 (zSub_cons (fun _ _ h h' hk => zIR_a (by omega) (by omega)) (zSub_cons (fun _ _ h h' hk => zIR_s (zIR_e (by omega) (by omega) hk)) zSub_nil))
            show ZW _ _ _ _ _ _ _ (93, [some (.ref 0), some (.int v18_1), some (.int x9)], [], M37)
            refine w_lo dX8_image_93 rfl rfl rfl rfl ?_
            refine w_lo dX8_image_94 rfl rfl rfl rfl ?_
            refine w_gf dX8_image_95 rfl hJ40.1.1 zs_0 (zr_0_4 hJ40.1) ?_
            refine w_gf dX8_image_98 rfl hJ40.1.1 zs_49 (zr_49_6 hJ40.1) ?_
            refine w_lo dX8_image_101 rfl rfl rfl rfl ?_
            refine w_iai dX8_image_102 hJ40.1 zs_54 (by omega) (by omega) zu_54 ?_
            intro x44 f41 h42 h43
            refine w_ic dX8_image_103 zi_1 ?_
            refine w_add dX8_image_104 (by have := zt_1; omega) ?_
            intro x45 h46
            have := zt_1
            refine w_iv dX8_image_105 rfl rfl (As := [.int x45]) rfl rfl hJ40.1.1 zs_0 (Nat.le_of_ble_eq_true rfl) ?_
            refine ZV.imp (k_2107 x45 hN hJ40.1) ?_
            rintro _ ⟨M47, rfl, hJ48, hq49⟩
            have hJ50 := zJ_trans hJ40 hJ48 (zSub_cons (fun _ _ h h' hk => zIR_a (by omega) (by omega)) (zSub_cons (fun _ _ h h' hk => zIR_s (zIR_e (by omega) (by omega) hk)) zSub_nil))
            show ZW _ _ _ _ _ _ _ (108, [some (.ref 0), some (.int v18_1), some (.int x9)], [], M47)
            refine w_lo dX8_image_108 rfl rfl rfl rfl ?_
            refine w_lo dX8_image_109 rfl rfl rfl rfl ?_
            refine w_gf dX8_image_110 rfl hJ50.1.1 zs_0 (zr_0_4 hJ50.1) ?_
            refine w_gf dX8_image_113 rfl hJ50.1.1 zs_49 (zr_49_9 hJ50.1) ?_
            refine w_lo dX8_image_116 rfl rfl rfl rfl ?_
            refine w_iai dX8_image_117 hJ50.1 zs_57 (by omega) (by omega) zu_57 ?_
            intro x54 f51 h52 h53
            refine w_si dX8_image_118 (c := 9999) (by decide) ?_
            refine w_mnI dX8_image_121 rfl (Nat.le_of_ble_eq_true rfl) ?_
            intro x55 h56 h57 h58
            have := zt_9999
            show ZW _ _ _ _ _ _ _ (124, [some (.ref 0), some (.int v18_1), some (.int x9)], [.int x55, .ref 0], M47)
            refine w_iv dX8_image_124 rfl rfl (As := [.int x55]) rfl rfl hJ50.1.1 zs_0 (Nat.le_of_ble_eq_true rfl) ?_
            refine ZV.imp (k_2106 x55 hN hJ50.1) ?_
            rintro _ ⟨M59, rfl, hJ60, hq61⟩
            have hJ62 := zJ_trans hJ50 hJ60 (zSub_cons (fun _ _ h h' hk => zIR_a (by omega) (by omega)) (zSub_cons (fun _ _ h h' hk => zIR_s (zIR_e (by omega) (by omega) hk)) zSub_nil))
            show ZW _ _ _ _ _ _ _ (127, [some (.ref 0), some (.int v18_1), some (.int x9)], [], M59)
            refine w_inc (kk := 1) dX8_image_127 rfl (m := 1) (by decide) (by omega) ?_
            intro x63 h64
            refine ⟨_, rfl, ?_⟩
            show ZW _ _ _ _ _ _ _ (130, [some (.ref 0), some (.int x63), some (.int x9)], [], M59)
            refine w_gt dX8_image_130 (t := 18) rfl ?_
            exact ih18 M59 x63 (some (.int x9)) hJ62 (by omega) (by omega) (by omega)
          · skip
            refine w_ieq_t dX8_image_54 (t := 61) rfl (by omega) ?_
            refine w_ic dX8_image_61 zi_0 ?_
            refine w_iv dX8_image_62 rfl rfl (As := [.int 0]) rfl rfl hJ13.1.1 zs_0 (Nat.le_of_ble_eq_true rfl) ?_
            refine ZV.imp (k_2107 0 hN hJ13.1) ?_
            rintro _ ⟨M65, rfl, hJ66, hq67⟩
            have hJ68 := zJ_trans hJ13 hJ66 (zSub_cons (fun _ _ h h' hk => zIR_a (by omega) (by omega)) (zSub_cons (fun _ _ h h' hk => zIR_s (zIR_e (by omega) (by omega) hk)) zSub_nil))
            show ZW _ _ _ _ _ _ _ (65, [some (.ref 0), some (.int v18_1), some (.int x9)], [], M65)
            refine w_lo dX8_image_65 rfl rfl rfl rfl ?_
            refine w_lo dX8_image_66 rfl rfl rfl rfl ?_
            refine w_gf dX8_image_67 rfl hJ68.1.1 zs_0 (zr_0_4 hJ68.1) ?_
            refine w_gf dX8_image_70 rfl hJ68.1.1 zs_49 (zr_49_4 hJ68.1) ?_
            refine w_lo dX8_image_73 rfl rfl rfl rfl ?_
            refine w_iai dX8_image_74 hJ68.1 zs_52 (by omega) (by omega) zu_52 ?_
            intro x72 f69 h70 h71
            refine w_ic dX8_image_75 zi_1 ?_
            refine w_add dX8_image_76 (by have := zt_1; omega) ?_
            intro x73 h74
            have := zt_1
            refine w_iv dX8_image_77 rfl rfl (As := [.int x73]) rfl rfl hJ68.1.1 zs_0 (Nat.le_of_ble_eq_true rfl) ?_
            refine ZV.imp (k_2107 x73 hN hJ68.1) ?_
            rintro _ ⟨M75, rfl, hJ76, hq77⟩
            have hJ78 := zJ_trans hJ68 hJ76 (zSub_cons (fun _ _ h h' hk => zIR_a (by omega) (by omega)) (zSub_cons (fun _ _ h h' hk => zIR_s (zIR_e (by omega) (by omega) hk)) zSub_nil))
            show ZW _ _ _ _ _ _ _ (80, [some (.ref 0), some (.int v18_1), some (.int x9)], [], M75)
            refine w_lo dX8_image_80 rfl rfl rfl rfl ?_
            refine w_lo dX8_image_81 rfl rfl rfl rfl ?_
            refine w_gf dX8_image_82 rfl hJ78.1.1 zs_0 (zr_0_4 hJ78.1) ?_
            refine w_gf dX8_image_85 rfl hJ78.1.1 zs_49 (zr_49_5 hJ78.1) ?_
            refine w_lo dX8_image_88 rfl rfl rfl rfl ?_
            refine w_iai dX8_image_89 hJ78.1 zs_53 (by omega) (by omega) zu_53 ?_
            intro x82 f79 h80 h81
            refine w_iv dX8_image_90 rfl rfl (As := [.int x82]) rfl rfl hJ78.1.1 zs_0 (Nat.le_of_ble_eq_true rfl) ?_
            refine ZV.imp (k_2107 x82 hN hJ78.1) ?_
            rintro _ ⟨M83, rfl, hJ84, hq85⟩
            have hJ86 := zJ_trans hJ78 hJ84 (zSub_cons (fun _ _ h h' hk => zIR_a (by omega) (by omega)) (zSub_cons (fun _ _ h h' hk => zIR_s (zIR_e (by omega) (by omega) hk)) zSub_nil))
            show ZW _ _ _ _ _ _ _ (93, [some (.ref 0), some (.int v18_1), some (.int x9)], [], M83)
            refine w_lo dX8_image_93 rfl rfl rfl rfl ?_
            refine w_lo dX8_image_94 rfl rfl rfl rfl ?_
            refine w_gf dX8_image_95 rfl hJ86.1.1 zs_0 (zr_0_4 hJ86.1) ?_
            refine w_gf dX8_image_98 rfl hJ86.1.1 zs_49 (zr_49_6 hJ86.1) ?_
            refine w_lo dX8_image_101 rfl rfl rfl rfl ?_
            refine w_iai dX8_image_102 hJ86.1 zs_54 (by omega) (by omega) zu_54 ?_
            intro x90 f87 h88 h89
            refine w_ic dX8_image_103 zi_1 ?_
            refine w_add dX8_image_104 (by have := zt_1; omega) ?_
            intro x91 h92
            have := zt_1
            refine w_iv dX8_image_105 rfl rfl (As := [.int x91]) rfl rfl hJ86.1.1 zs_0 (Nat.le_of_ble_eq_true rfl) ?_
            refine ZV.imp (k_2107 x91 hN hJ86.1) ?_
            rintro _ ⟨M93, rfl, hJ94, hq95⟩
            have hJ96 := zJ_trans hJ86 hJ94 (zSub_cons (fun _ _ h h' hk => zIR_a (by omega) (by omega)) (zSub_cons (fun _ _ h h' hk => zIR_s (zIR_e (by omega) (by omega) hk)) zSub_nil))
            show ZW _ _ _ _ _ _ _ (108, [some (.ref 0), some (.int v18_1), some (.int x9)], [], M93)
            refine w_lo dX8_image_108 rfl rfl rfl rfl ?_
            refine w_lo dX8_image_109 rfl rfl rfl rfl ?_
            refine w_gf dX8_image_110 rfl hJ96.1.1 zs_0 (zr_0_4 hJ96.1) ?_
            refine w_gf dX8_image_113 rfl hJ96.1.1 zs_49 (zr_49_9 hJ96.1) ?_
            refine w_lo dX8_image_116 rfl rfl rfl rfl ?_
            refine w_iai dX8_image_117 hJ96.1 zs_57 (by omega) (by omega) zu_57 ?_
            intro x100 f97 h98 h99
            refine w_si dX8_image_118 (c := 9999) (by decide) ?_
            refine w_mnI dX8_image_121 rfl (Nat.le_of_ble_eq_true rfl) ?_
            intro x101 h102 h103 h104
            have := zt_9999
            show ZW _ _ _ _ _ _ _ (124, [some (.ref 0), some (.int v18_1), some (.int x9)], [.int x101, .ref 0], M93)
            refine w_iv dX8_image_124 rfl rfl (As := [.int x101]) rfl rfl hJ96.1.1 zs_0 (Nat.le_of_ble_eq_true rfl) ?_
            refine ZV.imp (k_2106 x101 hN hJ96.1) ?_
            rintro _ ⟨M105, rfl, hJ106, hq107⟩
            have hJ108 := zJ_trans hJ96 hJ106 (zSub_cons (fun _ _ h h' hk => zIR_a (by omega) (by omega)) (zSub_cons (fun _ _ h h' hk => zIR_s (zIR_e (by omega) (by omega) hk)) zSub_nil))
            show ZW _ _ _ _ _ _ _ (127, [some (.ref 0), some (.int v18_1), some (.int x9)], [], M105)
            refine w_inc (kk := 1) dX8_image_127 rfl (m := 1) (by decide) (by omega) ?_
            intro x109 h110
            refine ⟨_, rfl, ?_⟩
            show ZW _ _ _ _ _ _ _ (130, [some (.ref 0), some (.int x109), some (.int x9)], [], M105)
            refine w_gt dX8_image_130 (t := 18) rfl ?_
            exact ih18 M105 x109 (some (.int x9)) hJ108 (by omega) (by omega) (by omega)
        · skip
          refine w_cge_t dX8_image_26 (t := 133) rfl (by omega) ?_
          refine w_ic dX8_image_133 zi_0 ?_
          refine w_lo (ml' := [some (.ref 0), some (.int 0), o18_2]) dX8_image_134 rfl rfl rfl rfl ?_
          exact ih135 M 0 o18_2 hJ (by have := zt_0; omega) (by have := zt_0; omega) (by have := zt_0; omega)
      · intro M v135_1 o135_2 hJ v135_10 v135_11 hn
        refine w_lo dX8_image_135 rfl rfl rfl rfl ?_
        refine w_lo dX8_image_136 rfl rfl rfl rfl ?_
        refine w_gf dX8_image_137 rfl hJ.1.1 zs_0 (zr_0_4 hJ.1) ?_
        refine w_gfi dX8_image_140 rfl hJ.1 zs_49 (Nat.le_of_ble_eq_true rfl) zo_49_0 ?_
        intro x111 f112 h113 h114
        refine w_ic dX8_image_143 zi_1 ?_
        refine w_sub dX8_image_144 (by have := zt_1; omega) ?_
        intro x115 h116
        have := zt_1
        rcases zcut v135_1.toInt x115.toInt with h117 | h117
        · skip
          refine w_cge_f dX8_image_145 (t := 188) rfl (by omega) ?_
          refine w_lo dX8_image_148 rfl rfl rfl rfl ?_
          refine w_lo dX8_image_149 rfl rfl rfl rfl ?_
          refine w_gf dX8_image_150 rfl hJ.1.1 zs_0 (zr_0_4 hJ.1) ?_
          refine w_gf dX8_image_153 rfl hJ.1.1 zs_49 (zr_49_12 hJ.1) ?_
          refine w_lo dX8_image_156 rfl rfl rfl rfl ?_
          refine w_bai dX8_image_157 hJ.1 zs_60 (by omega) (by omega) zu_60 ?_
          intro x121 f118 h119 h120
          rcases Int.decEq x121.toInt (0 : Int) with h122 | h122
          · skip
            refine w_ieq_f dX8_image_158 (t := 165) rfl (by omega) ?_
            refine w_ic dX8_image_161 zi_1 ?_
            refine w_gt dX8_image_162 (t := 166) rfl ?_
            refine w_iv dX8_image_166 rfl rfl (As := [.int 1]) rfl rfl hJ.1.1 zs_0 (Nat.le_of_ble_eq_true rfl) ?_
            refine ZV.imp (k_2107 1 hN hJ.1) ?_
            rintro _ ⟨M123, rfl, hJ124, hq125⟩
            have hJ126 := zJ_trans hJ hJ124 (zSub_cons (fun _ _ h h' hk => zIR_a (by omega) (by omega)) (zSub_cons (fun _ _ h h' hk => zIR_s (zIR_e (by omega) (by omega) hk)) zSub_nil))
            show ZW _ _ _ _ _ _ _ (169, [some (.ref 0), some (.int v135_1), o135_2], [], M123)
            refine w_lo dX8_image_169 rfl rfl rfl rfl ?_
            refine w_lo dX8_image_170 rfl rfl rfl rfl ?_
            refine w_gf dX8_image_171 rfl hJ126.1.1 zs_0 (zr_0_4 hJ126.1) ?_
            refine w_gf dX8_image_174 rfl hJ126.1.1 zs_49 (zr_49_13 hJ126.1) ?_
            refine w_lo dX8_image_177 rfl rfl rfl rfl ?_
            refine w_iai dX8_image_178 hJ126.1 zs_61 (by omega) (by omega) zu_61 ?_
            intro x130 f127 h128 h129
            refine w_iv dX8_image_179 rfl rfl (As := [.int x130]) rfl rfl hJ126.1.1 zs_0 (Nat.le_of_ble_eq_true rfl) ?_
            refine ZV.imp (k_2107 x130 hN hJ126.1) ?_
            rintro _ ⟨M131, rfl, hJ132, hq133⟩
            have hJ134 := zJ_trans hJ126 hJ132 (zSub_cons (fun _ _ h h' hk => zIR_a (by omega) (by omega)) (zSub_cons (fun _ _ h h' hk => zIR_s (zIR_e (by omega) (by omega) hk)) zSub_nil))
            show ZW _ _ _ _ _ _ _ (182, [some (.ref 0), some (.int v135_1), o135_2], [], M131)
            refine w_inc (kk := 1) dX8_image_182 rfl (m := 1) (by decide) (by omega) ?_
            intro x135 h136
            refine ⟨_, rfl, ?_⟩
            show ZW _ _ _ _ _ _ _ (185, [some (.ref 0), some (.int x135), o135_2], [], M131)
            refine w_gt dX8_image_185 (t := 135) rfl ?_
            exact ih135 M131 x135 o135_2 hJ134 (by omega) (by omega) (by omega)
          · skip
            refine w_ieq_t dX8_image_158 (t := 165) rfl (by omega) ?_
            refine w_ic dX8_image_165 zi_0 ?_
            refine w_iv dX8_image_166 rfl rfl (As := [.int 0]) rfl rfl hJ.1.1 zs_0 (Nat.le_of_ble_eq_true rfl) ?_
            refine ZV.imp (k_2107 0 hN hJ.1) ?_
            rintro _ ⟨M137, rfl, hJ138, hq139⟩
            have hJ140 := zJ_trans hJ hJ138 (zSub_cons (fun _ _ h h' hk => zIR_a (by omega) (by omega)) (zSub_cons (fun _ _ h h' hk => zIR_s (zIR_e (by omega) (by omega) hk)) zSub_nil))
            show ZW _ _ _ _ _ _ _ (169, [some (.ref 0), some (.int v135_1), o135_2], [], M137)
            refine w_lo dX8_image_169 rfl rfl rfl rfl ?_
            refine w_lo dX8_image_170 rfl rfl rfl rfl ?_
            refine w_gf dX8_image_171 rfl hJ140.1.1 zs_0 (zr_0_4 hJ140.1) ?_
            refine w_gf dX8_image_174 rfl hJ140.1.1 zs_49 (zr_49_13 hJ140.1) ?_
            refine w_lo dX8_image_177 rfl rfl rfl rfl ?_
            refine w_iai dX8_image_178 hJ140.1 zs_61 (by omega) (by omega) zu_61 ?_
            intro x144 f141 h142 h143
            refine w_iv dX8_image_179 rfl rfl (As := [.int x144]) rfl rfl hJ140.1.1 zs_0 (Nat.le_of_ble_eq_true rfl) ?_
            refine ZV.imp (k_2107 x144 hN hJ140.1) ?_
            rintro _ ⟨M145, rfl, hJ146, hq147⟩
            have hJ148 := zJ_trans hJ140 hJ146 (zSub_cons (fun _ _ h h' hk => zIR_a (by omega) (by omega)) (zSub_cons (fun _ _ h h' hk => zIR_s (zIR_e (by omega) (by omega) hk)) zSub_nil))
            show ZW _ _ _ _ _ _ _ (182, [some (.ref 0), some (.int v135_1), o135_2], [], M145)
            refine w_inc (kk := 1) dX8_image_182 rfl (m := 1) (by decide) (by omega) ?_
            intro x149 h150
            refine ⟨_, rfl, ?_⟩
            show ZW _ _ _ _ _ _ _ (185, [some (.ref 0), some (.int x149), o135_2], [], M145)
            refine w_gt dX8_image_185 (t := 135) rfl ?_
            exact ih135 M145 x149 o135_2 hJ148 (by omega) (by omega) (by omega)
        · skip
          refine w_cge_t dX8_image_145 (t := 188) rfl (by omega) ?_
          refine w_lo dX8_image_188 rfl rfl rfl rfl ?_
          refine w_lo dX8_image_189 rfl rfl rfl rfl ?_
          refine w_gf dX8_image_190 rfl hJ.1.1 zs_0 (zr_0_12 hJ.1) ?_
          refine w_lo dX8_image_193 rfl rfl rfl rfl ?_
          refine w_gfi dX8_image_194 rfl hJ.1 zs_0 (Nat.le_of_ble_eq_true rfl) zo_0_13 ?_
          intro x151 f152 h153 h154
          refine w_ss dX8_image_197 rfl rfl (As := [.ref 384, .int x151]) rfl rfl (Nat.le_of_ble_eq_true rfl) ?_
          refine ZV.imp (k_2108 384 _ _ _ zs_384 zu_384 (Nat.le_of_ble_eq_true rfl) (by decide) (by decide) x151 (by omega) (by omega) hN hJ.1) ?_
          rintro _ ⟨x158, M155, rfl, h159, h160, hJ156, hq157⟩
          have hJ161 := zJ_trans hJ hJ156 zSub_nil
          show ZW _ _ _ _ _ _ _ (200, [some (.ref 0), some (.int v135_1), o135_2], [.int x158, .ref 0], M155)
          refine w_iv dX8_image_200 rfl rfl (As := [.int x158]) rfl rfl hJ161.1.1 zs_0 (Nat.le_of_ble_eq_true rfl) ?_
          refine ZV.imp (k_2107 x158 hN hJ161.1) ?_
          rintro _ ⟨M162, rfl, hJ163, hq164⟩
          have hJ165 := zJ_trans hJ161 hJ163 (zSub_cons (fun _ _ h h' hk => zIR_a (by omega) (by omega)) (zSub_cons (fun _ _ h h' hk => zIR_s (zIR_e (by omega) (by omega) hk)) zSub_nil))
          show ZW _ _ _ _ _ _ _ (203, [some (.ref 0), some (.int v135_1), o135_2], [], M162)
          refine w_lo dX8_image_203 rfl rfl rfl rfl ?_
          refine w_gfi dX8_image_204 rfl hJ165.1 zs_0 (Nat.le_of_ble_eq_true rfl) zo_0_13 ?_
          intro x166 f167 h168 h169
          refine w_eni dX8_image_207 rfl rfl ?_
          exact ⟨_, _, rfl, (by omega), (by omega), hJ165, trivial⟩
  obtain ⟨ih18, ih135⟩ := main 115
  show ZW _ _ _ _ _ _ _ (0, [some (.ref 0), none, none], [], M0)
  refine w_lo dX8_image_0 rfl rfl rfl rfl ?_
  refine w_ic dX8_image_1 zi_0 ?_
  refine w_pfi dX8_image_2 rfl hJ0 zs_0 (Nat.le_of_ble_eq_true rfl) zo_0_13 (by have := zt_0; omega) (by have := zt_0; omega) (zIR_s (zIR_k (by omega) (by omega))) rfl rfl rfl ?_
  intro M170 hJ171 f172 hn173
  refine w_lo dX8_image_5 rfl rfl rfl rfl ?_
  refine w_lo dX8_image_6 rfl rfl rfl rfl ?_
  refine w_gf dX8_image_7 rfl hJ171.1.1 zs_0 (zr_0_4 hJ171.1) ?_
  refine w_gfi dX8_image_10 rfl hJ171.1 zs_49 (Nat.le_of_ble_eq_true rfl) zo_49_1 ?_
  intro x174 f175 h176 h177
  refine w_iv dX8_image_13 rfl rfl (As := [.int x174]) rfl rfl hJ171.1.1 zs_0 (Nat.le_of_ble_eq_true rfl) ?_
  refine ZV.imp (k_2106 x174 hN hJ171.1) ?_
  rintro _ ⟨M178, rfl, hJ179, hq180⟩
  have hJ181 := zJ_trans hJ171 hJ179 (zSub_cons (fun _ _ h h' hk => zIR_a (by omega) (by omega)) (zSub_cons (fun _ _ h h' hk => zIR_s (zIR_e (by omega) (by omega) hk)) zSub_nil))
  show ZW _ _ _ _ _ _ _ (16, [some (.ref 0), none, none], [], M178)
  refine w_ic dX8_image_16 zi_0 ?_
  refine w_lo (ml' := [some (.ref 0), some (.int 0), none]) dX8_image_17 rfl rfl rfl rfl ?_
  exact ih18 M178 0 none hJ181 (by have := zt_0; omega) (by have := zt_0; omega) (by have := zt_0; omega)
set_option maxRecDepth 100000 in
theorem k_2109 {X : List Int32} {d N : Nat} {M0 : zM} (a0 : Int32) (hN : N ≤ 600) (hB0 : zB N M0) : ZV X (d + 1) 2109 [.ref 0, .int a0] M0 (zRI N [] M0 (-2147483648) (2147483647) (fun _ _ => True)) := by
  have hJ0 : zJ N [] M0 M0 := zJ_refl hB0
  refine ZV.of (ini := false) rfl (Nat.le_of_ble_eq_true rfl) (by decide +kernel) ?_
  show ZW _ _ _ _ _ _ _ (0, [some (.ref 0), some (.int a0)], [], M0)
  refine w_lo dX8_octet_0 rfl rfl rfl rfl ?_
  rcases zcut a0.toInt (0 : Int) with h1 | h1
  · skip
    refine w_ilt_t dX8_octet_1 (t := 12) rfl (by omega) ?_
    refine w_ic dX8_octet_12 zi_m1 ?_
    refine w_gt dX8_octet_13 (t := 22) rfl ?_
    refine w_en dX8_octet_22 rfl ?_
    exact ⟨_, _, rfl, (zbot _), (ztop _), hJ0, trivial⟩
  · skip
    refine w_ilt_f dX8_octet_1 (t := 12) rfl (by omega) ?_
    refine w_lo dX8_octet_4 rfl rfl rfl rfl ?_
    refine w_lo dX8_octet_5 rfl rfl rfl rfl ?_
    refine w_gfi dX8_octet_6 rfl hJ0.1 zs_0 (Nat.le_of_ble_eq_true rfl) zo_0_13 ?_
    intro x2 f3 h4 h5
    rcases zcut a0.toInt x2.toInt with h6 | h6
    · skip
      refine w_clt_t dX8_octet_9 (t := 16) rfl (by omega) ?_
      refine w_lo dX8_octet_16 rfl rfl rfl rfl ?_
      refine w_gf dX8_octet_17 rfl hJ0.1.1 zs_0 (zr_0_12 hJ0.1) ?_
      refine w_lo dX8_octet_20 rfl rfl rfl rfl ?_
      refine w_iai dX8_octet_21 hJ0.1 zs_384 (by omega) (by omega) zu_384 ?_
      intro x10 f7 h8 h9
      refine w_eni dX8_octet_22 rfl rfl ?_
      exact ⟨_, _, rfl, (zbot _), (ztop _), hJ0, trivial⟩
    · skip
      refine w_clt_f dX8_octet_9 (t := 16) rfl (by omega) ?_
      refine w_ic dX8_octet_12 zi_m1 ?_
      refine w_gt dX8_octet_13 (t := 22) rfl ?_
      refine w_en dX8_octet_22 rfl ?_
      exact ⟨_, _, rfl, (zbot _), (ztop _), hJ0, trivial⟩
set_option maxRecDepth 100000 in
theorem k_2112 {X : List Int32} {d N : Nat} {M0 : zM} (a0 : Int32) (ha00 : (0 : Int) ≤ a0.toInt) (ha01 : a0.toInt ≤ 11) (a1 : Int32) (ha10 : (2 : Int) ≤ a1.toInt) (ha11 : a1.toInt ≤ 79) (hN : N ≤ 600) (hB0 : zB N M0) : ZV X (d + 3) 2112 [.ref 0, .int a0, .int a1] M0 (zRI N [] M0 (0) (1) (fun _ _ => True)) := by
  have hJ0 : zJ N [] M0 M0 := zJ_refl hB0
  refine ZV.of (ini := false) rfl (Nat.le_of_ble_eq_true rfl) (by decide +kernel) ?_
  have main : ∀ n : Nat,
      (∀ (M : zM) (v120_1 : Int32) (u120_2 : Int32) (v120_3 : Int32) (v120_4 : Int32) (u120_5 : Int32) (v120_6 : Int32) (o120_7 : Option Value), zJ N [] M0 M → ((0 : Int) ≤ v120_1.toInt) → (v120_1.toInt ≤ 11) → ((0 : Int) ≤ v120_3.toInt) → (v120_3.toInt ≤ 1) → ((-1 : Int) ≤ v120_4.toInt) → (v120_4.toInt ≤ 5) → ((-1 : Int) ≤ v120_6.toInt) → (v120_6.toInt ≤ 5) → 3 < (n : Int) → ZW X (d + 2) 8 false (some .boolean) cX8_isImageOfBoy (zRI N [] M0 (0) (1) (fun _ _ => True)) (120, [some (.ref 0), some (.int v120_1), some (.int u120_2), some (.int v120_3), some (.int v120_4), some (.int u120_5), some (.int v120_6), o120_7], [], M)) ∧
      (∀ (M : zM) (v134_1 : Int32) (u134_2 : Int32) (v134_3 : Int32) (v134_4 : Int32) (u134_5 : Int32) (v134_6 : Int32) (o134_7 : Option Value), zJ N [] M0 M → ((0 : Int) ≤ v134_1.toInt) → (v134_1.toInt ≤ 11) → ((0 : Int) ≤ v134_3.toInt) → (v134_3.toInt ≤ 1) → ((-1 : Int) ≤ v134_4.toInt) → (v134_4.toInt ≤ 5) → ((-1 : Int) ≤ v134_6.toInt) → (v134_6.toInt ≤ 5) → 2 < (n : Int) → ZW X (d + 2) 8 false (some .boolean) cX8_isImageOfBoy (zRI N [] M0 (0) (1) (fun _ _ => True)) (134, [some (.ref 0), some (.int v134_1), some (.int u134_2), some (.int v134_3), some (.int v134_4), some (.int u134_5), some (.int v134_6), o134_7], [], M)) ∧
      (∀ (M : zM) (v150_1 : Int32) (u150_2 : Int32) (v150_3 : Int32) (u150_4 : Int32) (u150_5 : Int32) (u150_6 : Int32) (o150_7 : Option Value), zJ N [] M0 M → ((0 : Int) ≤ v150_1.toInt) → (v150_1.toInt ≤ 11) → ((0 : Int) ≤ v150_3.toInt) → (v150_3.toInt ≤ 1) → 1 < (n : Int) → ZW X (d + 2) 8 false (some .boolean) cX8_isImageOfBoy (zRI N [] M0 (0) (1) (fun _ _ => True)) (150, [some (.ref 0), some (.int v150_1), some (.int u150_2), some (.int v150_3), some (.int u150_4), some (.int u150_5), some (.int u150_6), o150_7], [], M)) := by
    intro n
    induction n with
    | zero =>
      exact ⟨(fun M v120_1 u120_2 v120_3 v120_4 u120_5 v120_6 o120_7 hJ v120_10 v120_11 v120_30 v120_31 v120_40 v120_41 v120_60 v120_61 hn => absurd hn (by omega)), (fun M v134_1 u134_2 v134_3 v134_4 u134_5 v134_6 o134_7 hJ v134_10 v134_11 v134_30 v134_31 v134_40 v134_41 v134_60 v134_61 hn => absurd hn (by omega)), (fun M v150_1 u150_2 v150_3 u150_4 u150_5 u150_6 o150_7 hJ v150_10 v150_11 v150_30 v150_31 hn => absurd hn (by omega))⟩
    | succ n ih =>
      obtain ⟨ih120, ih134, ih150⟩ := ih
      refine ⟨?_, ?_, ?_⟩
      · intro M v120_1 u120_2 v120_3 v120_4 u120_5 v120_6 o120_7 hJ v120_10 v120_11 v120_30 v120_31 v120_40 v120_41 v120_60 v120_61 hn
        refine w_lo dX8_isImageOfBoy_120 rfl rfl rfl rfl ?_
        refine w_ic dX8_isImageOfBoy_122 zi_m1 ?_
        rcases Int.decEq v120_4.toInt (-1 : Int) with h1 | h1
        · skip
          refine w_ceq_f dX8_isImageOfBoy_123 (t := 134) rfl (by have := zt_m1; omega) ?_
          refine w_lo dX8_isImageOfBoy_126 rfl rfl rfl rfl ?_
          refine w_ic dX8_isImageOfBoy_128 zi_m1 ?_
          rcases Int.decEq v120_6.toInt (-1 : Int) with h2 | h2
          · skip
            refine w_ceq_f dX8_isImageOfBoy_129 (t := 134) rfl (by have := zt_m1; omega) ?_
            refine w_ic dX8_isImageOfBoy_132 zi_0 ?_
            refine w_en dX8_isImageOfBoy_133 rfl ?_
            exact ⟨_, _, rfl, (by have := zt_0; omega), (by have := zt_0; omega), hJ, trivial⟩
          · skip
            refine w_ceq_t dX8_isImageOfBoy_129 (t := 134) rfl (by have := zt_m1; omega) ?_
            exact ih134 M v120_1 u120_2 v120_3 v120_4 u120_5 v120_6 o120_7 hJ (by omega) (by omega) (by omega) (by omega) (by omega) (by omega) (by omega) (by omega) (by omega)
        · skip
          refine w_ceq_t dX8_isImageOfBoy_123 (t := 134) rfl (by have := zt_m1; omega) ?_
          exact ih134 M v120_1 u120_2 v120_3 v120_4 u120_5 v120_6 o120_7 hJ (by omega) (by omega) (by omega) (by omega) (by omega) (by omega) (by omega) (by omega) (by omega)
      · intro M v134_1 u134_2 v134_3 v134_4 u134_5 v134_6 o134_7 hJ v134_10 v134_11 v134_30 v134_31 v134_40 v134_41 v134_60 v134_61 hn
        refine w_lo dX8_isImageOfBoy_134 rfl rfl rfl rfl ?_
        refine w_ic dX8_isImageOfBoy_136 zi_m1 ?_
        rcases Int.decEq v134_4.toInt (-1 : Int) with h3 | h3
        · skip
          refine w_cne_t dX8_isImageOfBoy_137 (t := 150) rfl (by have := zt_m1; omega) ?_
          exact ih150 M v134_1 u134_2 v134_3 v134_4 u134_5 v134_6 o134_7 hJ (by omega) (by omega) (by omega) (by omega) (by omega)
        · skip
          refine w_cne_f dX8_isImageOfBoy_137 (t := 150) rfl (by have := zt_m1; omega) ?_
          refine w_lo dX8_isImageOfBoy_140 rfl rfl rfl rfl ?_
          refine w_ic dX8_isImageOfBoy_142 zi_m1 ?_
          rcases Int.decEq v134_6.toInt (-1 : Int) with h4 | h4
          · skip
            refine w_cne_t dX8_isImageOfBoy_143 (t := 150) rfl (by have := zt_m1; omega) ?_
            exact ih150 M v134_1 u134_2 v134_3 v134_4 u134_5 v134_6 o134_7 hJ (by omega) (by omega) (by omega) (by omega) (by omega)
          · skip
            refine w_cne_f dX8_isImageOfBoy_143 (t := 150) rfl (by have := zt_m1; omega) ?_
            refine w_ic dX8_isImageOfBoy_146 zi_1 ?_
            refine w_gt dX8_isImageOfBoy_147 (t := 151) rfl ?_
            refine w_lo (ml' := [some (.ref 0), some (.int v134_1), some (.int u134_2), some (.int v134_3), some (.int v134_4), some (.int u134_5), some (.int v134_6), some (.int 1)]) dX8_isImageOfBoy_151 rfl rfl rfl rfl ?_
            refine w_lo dX8_isImageOfBoy_153 rfl rfl rfl rfl ?_
            refine w_ine_t dX8_isImageOfBoy_155 (t := 174) rfl (by have := zt_1; omega) ?_
            refine w_ic dX8_isImageOfBoy_174 zi_1 ?_
            refine w_gt dX8_isImageOfBoy_175 (t := 179) rfl ?_
            refine w_en dX8_isImageOfBoy_179 rfl ?_
            exact ⟨_, _, rfl, (by have := zt_1; omega), (by have := zt_1; omega), hJ, trivial⟩
      · intro M v150_1 u150_2 v150_3 u150_4 u150_5 u150_6 o150_7 hJ v150_10 v150_11 v150_30 v150_31 hn
        refine w_ic dX8_isImageOfBoy_150 zi_0 ?_
        refine w_lo (ml' := [some (.ref 0), some (.int v150_1), some (.int u150_2), some (.int v150_3), some (.int u150_4), some (.int u150_5), some (.int u150_6), some (.int 0)]) dX8_isImageOfBoy_151 rfl rfl rfl rfl ?_
        refine w_lo dX8_isImageOfBoy_153 rfl rfl rfl rfl ?_
        refine w_ine_f dX8_isImageOfBoy_155 (t := 174) rfl (by have := zt_0; omega) ?_
        refine w_lo dX8_isImageOfBoy_158 rfl rfl rfl rfl ?_
        refine w_ic dX8_isImageOfBoy_159 zi_1 ?_
        rcases Int.decEq v150_3.toInt (1 : Int) with h5 | h5
        · skip
          refine w_cne_t dX8_isImageOfBoy_160 (t := 178) rfl (by have := zt_1; omega) ?_
          refine w_ic dX8_isImageOfBoy_178 zi_0 ?_
          refine w_en dX8_isImageOfBoy_179 rfl ?_
          exact ⟨_, _, rfl, (by have := zt_0; omega), (by have := zt_0; omega), hJ, trivial⟩
        · skip
          refine w_cne_f dX8_isImageOfBoy_160 (t := 178) rfl (by have := zt_1; omega) ?_
          refine w_lo dX8_isImageOfBoy_163 rfl rfl rfl rfl ?_
          obtain ⟨b6, f7, h8⟩ := zd_0_3 hJ.1
          have h9 := zDm_b h8
          refine w_gf dX8_isImageOfBoy_164 rfl hJ.1.1 zs_0 f7 ?_
          refine w_lo dX8_isImageOfBoy_167 rfl rfl rfl rfl ?_
          refine w_iv dX8_isImageOfBoy_168 rfl rfl (As := [.int v150_1]) rfl rfl hJ.1.1 (zs_1_0 h8) (Nat.le_of_ble_eq_true rfl) ?_
          refine ZV.imp (k_260 b6 h8 v150_1 (by omega) (by omega) hN hJ.1) ?_
          rintro _ ⟨x13, M10, rfl, h14, h15, hJ11, hq12⟩
          have hJ16 := zJ_trans hJ hJ11 zSub_nil
          show ZW _ _ _ _ _ _ _ (171, [some (.ref 0), some (.int v150_1), some (.int u150_2), some (.int v150_3), some (.int u150_4), some (.int u150_5), some (.int u150_6), some (.int 0)], [.int x13], M10)
          rcases Int.decEq x13.toInt (0 : Int) with h17 | h17
          · skip
            refine w_ine_t dX8_isImageOfBoy_171 (t := 178) rfl (by omega) ?_
            refine w_ic dX8_isImageOfBoy_178 zi_0 ?_
            refine w_en dX8_isImageOfBoy_179 rfl ?_
            exact ⟨_, _, rfl, (by have := zt_0; omega), (by have := zt_0; omega), hJ16, trivial⟩
          · skip
            refine w_ine_f dX8_isImageOfBoy_171 (t := 178) rfl (by omega) ?_
            refine w_ic dX8_isImageOfBoy_174 zi_1 ?_
            refine w_gt dX8_isImageOfBoy_175 (t := 179) rfl ?_
            refine w_en dX8_isImageOfBoy_179 rfl ?_
            exact ⟨_, _, rfl, (by have := zt_1; omega), (by have := zt_1; omega), hJ16, trivial⟩
  obtain ⟨ih120, ih134, ih150⟩ := main 8
  show ZW _ _ _ _ _ _ _ (0, [some (.ref 0), some (.int a0), some (.int a1), none, none, none, none, none], [], M0)
  refine w_lo dX8_isImageOfBoy_0 rfl rfl rfl rfl ?_
  refine w_lo dX8_isImageOfBoy_1 rfl rfl rfl rfl ?_
  refine w_ic dX8_isImageOfBoy_2 zi_1 ?_
  refine w_add dX8_isImageOfBoy_3 (by have := zt_1; omega) ?_
  intro x18 h19
  have := zt_1
  refine w_iv dX8_isImageOfBoy_4 rfl rfl (As := [.int x18]) rfl rfl hJ0.1.1 zs_0 (Nat.le_of_ble_eq_true rfl) ?_
  refine ZV.imp (k_2092 x18 (by omega) (by omega) hN hJ0.1) ?_
  rintro _ ⟨x23, M20, rfl, h24, h25, hJ21, hq22⟩
  have hJ26 := zJ_trans hJ0 hJ21 zSub_nil
  show ZW _ _ _ _ _ _ _ (7, [some (.ref 0), some (.int a0), some (.int a1), none, none, none, none, none], [.int x23], M20)
  refine w_lo (ml' := [some (.ref 0), some (.int a0), some (.int a1), some (.int x23), none, none, none, none]) dX8_isImageOfBoy_7 rfl rfl rfl rfl ?_
  refine w_lo dX8_isImageOfBoy_8 rfl rfl rfl rfl ?_
  refine w_lo dX8_isImageOfBoy_9 rfl rfl rfl rfl ?_
  refine w_ic dX8_isImageOfBoy_10 zi_2 ?_
  refine w_add dX8_isImageOfBoy_11 (by have := zt_2; omega) ?_
  intro x27 h28
  have := zt_2
  refine w_iv dX8_isImageOfBoy_12 rfl rfl (As := [.int x27]) rfl rfl hJ26.1.1 zs_0 (Nat.le_of_ble_eq_true rfl) ?_
  refine ZV.imp (k_2092 x27 (by omega) (by omega) hN hJ26.1) ?_
  rintro _ ⟨x32, M29, rfl, h33, h34, hJ30, hq31⟩
  have hJ35 := zJ_trans hJ26 hJ30 zSub_nil
  show ZW _ _ _ _ _ _ _ (15, [some (.ref 0), some (.int a0), some (.int a1), some (.int x23), none, none, none, none], [.int x32], M29)
  refine w_ic dX8_isImageOfBoy_15 zi_1 ?_
  refine w_sub dX8_isImageOfBoy_16 (by have := zt_1; omega) ?_
  intro x36 h37
  have := zt_1
  refine w_lo (ml' := [some (.ref 0), some (.int a0), some (.int a1), some (.int x23), some (.int x36), none, none, none]) dX8_isImageOfBoy_17 rfl rfl rfl rfl ?_
  refine w_lo dX8_isImageOfBoy_19 rfl rfl rfl rfl ?_
  refine w_lo dX8_isImageOfBoy_20 rfl rfl rfl rfl ?_
  refine w_ic dX8_isImageOfBoy_21 zi_3 ?_
  refine w_add dX8_isImageOfBoy_22 (by have := zt_3; omega) ?_
  intro x38 h39
  have := zt_3
  refine w_iv dX8_isImageOfBoy_23 rfl rfl (As := [.int x38]) rfl rfl hJ35.1.1 zs_0 (Nat.le_of_ble_eq_true rfl) ?_
  refine ZV.imp (k_2092 x38 (by omega) (by omega) hN hJ35.1) ?_
  rintro _ ⟨x43, M40, rfl, h44, h45, hJ41, hq42⟩
  have hJ46 := zJ_trans hJ35 hJ41 zSub_nil
  show ZW _ _ _ _ _ _ _ (26, [some (.ref 0), some (.int a0), some (.int a1), some (.int x23), some (.int x36), none, none, none], [.int x43], M40)
  refine w_lo (ml' := [some (.ref 0), some (.int a0), some (.int a1), some (.int x23), some (.int x36), some (.int x43), none, none]) dX8_isImageOfBoy_26 rfl rfl rfl rfl ?_
  refine w_lo dX8_isImageOfBoy_28 rfl rfl rfl rfl ?_
  refine w_lo dX8_isImageOfBoy_29 rfl rfl rfl rfl ?_
  refine w_ic dX8_isImageOfBoy_30 zi_4 ?_
  refine w_add dX8_isImageOfBoy_31 (by have := zt_4; omega) ?_
  intro x47 h48
  have := zt_4
  refine w_iv dX8_isImageOfBoy_32 rfl rfl (As := [.int x47]) rfl rfl hJ46.1.1 zs_0 (Nat.le_of_ble_eq_true rfl) ?_
  refine ZV.imp (k_2092 x47 (by omega) (by omega) hN hJ46.1) ?_
  rintro _ ⟨x52, M49, rfl, h53, h54, hJ50, hq51⟩
  have hJ55 := zJ_trans hJ46 hJ50 zSub_nil
  show ZW _ _ _ _ _ _ _ (35, [some (.ref 0), some (.int a0), some (.int a1), some (.int x23), some (.int x36), some (.int x43), none, none], [.int x52], M49)
  refine w_ic dX8_isImageOfBoy_35 zi_1 ?_
  refine w_sub dX8_isImageOfBoy_36 (by have := zt_1; omega) ?_
  intro x56 h57
  have := zt_1
  refine w_lo (ml' := [some (.ref 0), some (.int a0), some (.int a1), some (.int x23), some (.int x36), some (.int x43), some (.int x56), none]) dX8_isImageOfBoy_37 rfl rfl rfl rfl ?_
  refine w_lo dX8_isImageOfBoy_39 rfl rfl rfl rfl ?_
  refine w_ic dX8_isImageOfBoy_40 zi_1 ?_
  rcases zcut (1 : Int) x23.toInt with h58 | h58
  · skip
    refine w_cgt_t dX8_isImageOfBoy_41 (t := 81) rfl (by have := zt_1; omega) ?_
    refine w_ic dX8_isImageOfBoy_81 zi_0 ?_
    refine w_en dX8_isImageOfBoy_82 rfl ?_
    exact ⟨_, _, rfl, (by have := zt_0; omega), (by have := zt_0; omega), hJ55, trivial⟩
  · skip
    refine w_cgt_f dX8_isImageOfBoy_41 (t := 81) rfl (by have := zt_1; omega) ?_
    refine w_lo dX8_isImageOfBoy_44 rfl rfl rfl rfl ?_
    refine w_lo dX8_isImageOfBoy_46 rfl rfl rfl rfl ?_
    obtain ⟨b59, f60, h61⟩ := zd_0_3 hJ55.1
    have h62 := zDm_b h61
    refine w_gf dX8_isImageOfBoy_47 rfl hJ55.1.1 zs_0 f60 ?_
    refine w_gfi dX8_isImageOfBoy_50 rfl hJ55.1 (zs_1_0 h61) (Nat.le_of_ble_eq_true rfl) (zo_1_0_2 h61) ?_
    intro x63 f64 h65 h66
    rcases zcut x36.toInt x63.toInt with h67 | h67
    · skip
      refine w_cge_f dX8_isImageOfBoy_53 (t := 81) rfl (by omega) ?_
      refine w_lo dX8_isImageOfBoy_56 rfl rfl rfl rfl ?_
      refine w_lo dX8_isImageOfBoy_58 rfl rfl rfl rfl ?_
      refine w_gf dX8_isImageOfBoy_59 rfl hJ55.1.1 zs_0 f60 ?_
      refine w_gf dX8_isImageOfBoy_62 rfl hJ55.1.1 (zs_1_0 h61) f64 ?_
      rcases zcut x56.toInt x63.toInt with h68 | h68
      · skip
        refine w_cge_f dX8_isImageOfBoy_65 (t := 81) rfl (by omega) ?_
        refine w_lo dX8_isImageOfBoy_68 rfl rfl rfl rfl ?_
        refine w_lo dX8_isImageOfBoy_69 rfl rfl rfl rfl ?_
        refine w_ic dX8_isImageOfBoy_70 zi_5 ?_
        refine w_add dX8_isImageOfBoy_71 (by have := zt_5; omega) ?_
        intro x69 h70
        have := zt_5
        refine w_iv dX8_isImageOfBoy_72 rfl rfl (As := [.int x69]) rfl rfl hJ55.1.1 zs_0 (Nat.le_of_ble_eq_true rfl) ?_
        refine ZV.imp (k_2091 x69 (by omega) (by omega) hN hJ55.1) ?_
        rintro _ ⟨x74, M71, rfl, h75, h76, hJ72, hq73⟩
        have hJ77 := zJ_trans hJ55 hJ72 zSub_nil
        show ZW _ _ _ _ _ _ _ (75, [some (.ref 0), some (.int a0), some (.int a1), some (.int x23), some (.int x36), some (.int x43), some (.int x56), none], [.int x74], M71)
        refine w_si dX8_isImageOfBoy_75 (c := 9999) (by decide) ?_
        rcases zcut (9999 : Int) x74.toInt with h78 | h78
        · skip
          refine w_cle_f dX8_isImageOfBoy_78 (t := 83) rfl (by have := zt_9999; omega) ?_
          refine w_ic dX8_isImageOfBoy_81 zi_0 ?_
          refine w_en dX8_isImageOfBoy_82 rfl ?_
          exact ⟨_, _, rfl, (by have := zt_0; omega), (by have := zt_0; omega), hJ77, trivial⟩
        · skip
          refine w_cle_t dX8_isImageOfBoy_78 (t := 83) rfl (by have := zt_9999; omega) ?_
          refine w_lo dX8_isImageOfBoy_83 rfl rfl rfl rfl ?_
          refine w_ic dX8_isImageOfBoy_85 zi_m1 ?_
          rcases Int.decEq x36.toInt (-1 : Int) with h79 | h79
          · skip
            refine w_cne_t dX8_isImageOfBoy_86 (t := 97) rfl (by have := zt_m1; omega) ?_
            refine w_lo dX8_isImageOfBoy_97 rfl rfl rfl rfl ?_
            refine w_ic dX8_isImageOfBoy_99 zi_1 ?_
            rcases zcut x43.toInt (1 : Int) with h80 | h80
            · skip
              refine w_clt_t dX8_isImageOfBoy_100 (t := 118) rfl (by have := zt_1; omega) ?_
              refine w_ic dX8_isImageOfBoy_118 zi_0 ?_
              refine w_en dX8_isImageOfBoy_119 rfl ?_
              exact ⟨_, _, rfl, (by have := zt_0; omega), (by have := zt_0; omega), hJ77, trivial⟩
            · skip
              refine w_clt_f dX8_isImageOfBoy_100 (t := 118) rfl (by have := zt_1; omega) ?_
              refine w_lo dX8_isImageOfBoy_103 rfl rfl rfl rfl ?_
              refine w_lo dX8_isImageOfBoy_105 rfl rfl rfl rfl ?_
              have f81 := (hJ72.2 (0) 3 zNI_nil).trans (f60)
              refine w_gf dX8_isImageOfBoy_106 rfl hJ77.1.1 zs_0 f81 ?_
              refine w_gf dX8_isImageOfBoy_109 rfl hJ77.1.1 (zs_1_0 h61) (zr_1_0_11 h61 hJ77.1) ?_
              refine w_lo dX8_isImageOfBoy_112 rfl rfl rfl rfl ?_
              refine w_iai dX8_isImageOfBoy_114 hJ77.1 (zs_1_9 h61) (by omega) (by omega) (zu_1_9 h61) ?_
              intro x85 f82 h83 h84
              rcases zcut x85.toInt x43.toInt with h86 | h86
              · skip
                refine w_cle_f dX8_isImageOfBoy_115 (t := 120) rfl (by omega) ?_
                refine w_ic dX8_isImageOfBoy_118 zi_0 ?_
                refine w_en dX8_isImageOfBoy_119 rfl ?_
                exact ⟨_, _, rfl, (by have := zt_0; omega), (by have := zt_0; omega), hJ77, trivial⟩
              · skip
                refine w_cle_t dX8_isImageOfBoy_115 (t := 120) rfl (by omega) ?_
                exact ih120 M71 a0 a1 x23 x36 x43 x56 none hJ77 (by omega) (by omega) (by omega) (by omega) (by omega) (by omega) (by omega) (by omega) (by omega)
          · skip
            refine w_cne_f dX8_isImageOfBoy_86 (t := 97) rfl (by have := zt_m1; omega) ?_
            refine w_lo dX8_isImageOfBoy_89 rfl rfl rfl rfl ?_
            rcases Int.decEq x43.toInt (0 : Int) with h87 | h87
            · skip
              refine w_ieq_f dX8_isImageOfBoy_91 (t := 120) rfl (by omega) ?_
              refine w_gt dX8_isImageOfBoy_94 (t := 118) rfl ?_
              refine w_ic dX8_isImageOfBoy_118 zi_0 ?_
              refine w_en dX8_isImageOfBoy_119 rfl ?_
              exact ⟨_, _, rfl, (by have := zt_0; omega), (by have := zt_0; omega), hJ77, trivial⟩
            · skip
              refine w_ieq_t dX8_isImageOfBoy_91 (t := 120) rfl (by omega) ?_
              exact ih120 M71 a0 a1 x23 x36 x43 x56 none hJ77 (by omega) (by omega) (by omega) (by omega) (by omega) (by omega) (by omega) (by omega) (by omega)
      · skip
        refine w_cge_t dX8_isImageOfBoy_65 (t := 81) rfl (by omega) ?_
        refine w_ic dX8_isImageOfBoy_81 zi_0 ?_
        refine w_en dX8_isImageOfBoy_82 rfl ?_
        exact ⟨_, _, rfl, (by have := zt_0; omega), (by have := zt_0; omega), hJ55, trivial⟩
    · skip
      refine w_cge_t dX8_isImageOfBoy_53 (t := 81) rfl (by omega) ?_
      refine w_ic dX8_isImageOfBoy_81 zi_0 ?_
      refine w_en dX8_isImageOfBoy_82 rfl ?_
      exact ⟨_, _, rfl, (by have := zt_0; omega), (by have := zt_0; omega), hJ55, trivial⟩
set_option maxRecDepth 100000 in
theorem k_2111 {X : List Int32} {d N : Nat} {M0 : zM} (a0 : Int32) (ha00 : (0 : Int) ≤ a0.toInt) (ha01 : a0.toInt ≤ 1600) (hN : N ≤ 600) (hB0 : zB N M0) : ZV X (d + 4) 2111 [.ref 0, .int a0] M0 (zRI N [] M0 (0) (1) (fun _ _ => True)) := by
  have hJ0 : zJ N [] M0 M0 := zJ_refl hB0
  refine ZV.of (ini := false) rfl (Nat.le_of_ble_eq_true rfl) (by decide +kernel) ?_
  have main : ∀ n : Nat,
      (∀ (M : zM) (u77_1 : Int32) (v77_2 : Int32) (u77_3 : Int32) (v77_4 : Int32) (v77_5 : Int32) (o77_6 : Option Value), zJ N [] M0 M → ((0 : Int) ≤ v77_2.toInt) → (v77_2.toInt ≤ 11) → ((0 : Int) ≤ v77_4.toInt) → (v77_4.toInt ≤ 4095) → ((0 : Int) ≤ v77_5.toInt) → (v77_5.toInt ≤ 12) → 4 * (12 - v77_5.toInt) + 54 < (n : Int) → ZW X (d + 3) 8 false (some .boolean) cX8_isImage (zRI N [] M0 (0) (1) (fun _ _ => True)) (77, [some (.ref 0), some (.int u77_1), some (.int v77_2), some (.int u77_3), some (.int v77_4), some (.int v77_5), o77_6], [], M)) ∧
      (∀ (M : zM) (u158_1 : Int32) (v158_2 : Int32) (u158_3 : Int32) (u158_4 : Int32) (v158_5 : Int32) (o158_6 : Option Value), zJ N [] M0 M → ((0 : Int) ≤ v158_2.toInt) → (v158_2.toInt ≤ 11) → ((0 : Int) ≤ v158_5.toInt) → (v158_5.toInt ≤ 11) → 4 * (11 - v158_5.toInt) + 1 < (n : Int) → ZW X (d + 3) 8 false (some .boolean) cX8_isImage (zRI N [] M0 (0) (1) (fun _ _ => True)) (158, [some (.ref 0), some (.int u158_1), some (.int v158_2), some (.int u158_3), some (.int u158_4), some (.int v158_5), o158_6], [], M)) := by
    intro n
    induction n with
    | zero =>
      exact ⟨(fun M u77_1 v77_2 u77_3 v77_4 v77_5 o77_6 hJ v77_20 v77_21 v77_40 v77_41 v77_50 v77_51 hn => absurd hn (by omega)), (fun M u158_1 v158_2 u158_3 u158_4 v158_5 o158_6 hJ v158_20 v158_21 v158_50 v158_51 hn => absurd hn (by omega))⟩
    | succ n ih =>
      obtain ⟨ih77, ih158⟩ := ih
      refine ⟨?_, ?_⟩
      · intro M u77_1 v77_2 u77_3 v77_4 v77_5 o77_6 hJ v77_20 v77_21 v77_40 v77_41 v77_50 v77_51 hn
        refine w_lo dX8_isImage_77 rfl rfl rfl rfl ?_
        refine w_lo dX8_isImage_79 rfl rfl rfl rfl ?_
        refine w_gf dX8_isImage_80 rfl hJ.1.1 zs_0 (zr_0_4 hJ.1) ?_
        refine w_gfi dX8_isImage_83 rfl hJ.1 zs_49 (Nat.le_of_ble_eq_true rfl) zo_49_0 ?_
        intro x1 f2 h3 h4
        rcases zcut v77_5.toInt x1.toInt with h5 | h5
        · skip
          refine w_cge_f dX8_isImage_86 (t := 155) rfl (by omega) ?_
          refine w_lo dX8_isImage_89 rfl rfl rfl rfl ?_
          refine w_ic dX8_isImage_90 zi_2 ?_
          refine w_bi dX8_isImage_91 (c := 7) (by decide) ?_
          refine w_lo dX8_isImage_93 rfl rfl rfl rfl ?_
          refine w_mulc dX8_isImage_95 zt_7 (by have := zt_7; omega) ?_
          intro x6 h7
          have := zt_7
          refine w_add dX8_isImage_96 (by have := zt_2; omega) ?_
          intro x8 h9
          have := zt_2
          refine w_iv dX8_isImage_97 rfl rfl (As := [.int x8]) rfl rfl hJ.1.1 zs_0 (Nat.le_of_ble_eq_true rfl) ?_
          refine ZV.imp (k_2092 x8 (by omega) (by omega) hN hJ.1) ?_
          rintro _ ⟨x13, M10, rfl, h14, h15, hJ11, hq12⟩
          have hJ16 := zJ_trans hJ hJ11 zSub_nil
          show ZW _ _ _ _ _ _ _ (100, [some (.ref 0), some (.int u77_1), some (.int v77_2), some (.int u77_3), some (.int v77_4), some (.int v77_5), o77_6], [.int x13], M10)
          refine w_lo (ml' := [some (.ref 0), some (.int u77_1), some (.int v77_2), some (.int u77_3), some (.int v77_4), some (.int v77_5), some (.int x13)]) dX8_isImage_100 rfl rfl rfl rfl ?_
          refine w_lo dX8_isImage_102 rfl rfl rfl rfl ?_
          refine w_lo dX8_isImage_103 rfl rfl rfl rfl ?_
          refine w_iv dX8_isImage_105 rfl rfl (As := [.int x13]) rfl rfl hJ16.1.1 zs_0 (Nat.le_of_ble_eq_true rfl) ?_
          refine ZV.of (ini := false) rfl (Nat.le_of_ble_eq_true rfl) (by decide +kernel) ?_
          show ZW _ _ _ _ _ _ _ (0, [some (.ref 0), some (.int x13)], [], M10)
          refine w_lo dX8_isBoy_0 rfl rfl rfl rfl ?_
          refine w_ilt_f dX8_isBoy_1 (t := 19) rfl (by omega) ?_
          refine w_lo dX8_isBoy_4 rfl rfl rfl rfl ?_
          refine w_lo dX8_isBoy_5 rfl rfl rfl rfl ?_
          obtain ⟨b17, f18, h19⟩ := zd_0_3 hJ16.1
          have h20 := zDm_b h19
          refine w_gf dX8_isBoy_6 rfl hJ16.1.1 zs_0 f18 ?_
          refine w_gfi dX8_isBoy_9 rfl hJ16.1 (zs_1_0 h19) (Nat.le_of_ble_eq_true rfl) (zo_1_0_1 h19) ?_
          intro x21 f22 h23 h24
          rcases zcut x13.toInt x21.toInt with h25 | h25
          · skip
            refine w_cge_f dX8_isBoy_12 (t := 19) rfl (by omega) ?_
            refine w_ic dX8_isBoy_15 zi_1 ?_
            refine w_gt dX8_isBoy_16 (t := 20) rfl ?_
            refine w_en dX8_isBoy_20 rfl ?_
            show ZW _ _ _ _ _ _ _ (108, [some (.ref 0), some (.int u77_1), some (.int v77_2), some (.int u77_3), some (.int v77_4), some (.int v77_5), some (.int x13)], [.int 1], M10)
            refine w_ieq_f dX8_isImage_108 (t := 138) rfl (by have := zt_1; omega) ?_
            refine w_lo dX8_isImage_111 rfl rfl rfl rfl ?_
            refine w_lo dX8_isImage_113 rfl rfl rfl rfl ?_
            refine w_puI dX8_isImage_115 rfl rfl ?_
            intro x26
            refine w_ic dX8_isImage_116 zi_1 ?_
            refine w_and dX8_isImage_117 (m := 1) zt_1 (by omega) ?_
            intro x27 h28 h29
            refine w_ic dX8_isImage_118 zi_1 ?_
            rcases Int.decEq x27.toInt (1 : Int) with h30 | h30
            · skip
              refine w_ceq_f dX8_isImage_119 (t := 138) rfl (by have := zt_1; omega) ?_
              refine w_lo dX8_isImage_122 rfl rfl rfl rfl ?_
              refine w_lo dX8_isImage_123 rfl rfl rfl rfl ?_
              refine w_ic dX8_isImage_125 zi_2 ?_
              refine w_bi dX8_isImage_126 (c := 7) (by decide) ?_
              refine w_lo dX8_isImage_128 rfl rfl rfl rfl ?_
              refine w_mulc dX8_isImage_130 zt_7 (by have := zt_7; omega) ?_
              intro x31 h32
              have := zt_7
              refine w_add dX8_isImage_131 (by have := zt_2; omega) ?_
              intro x33 h34
              have := zt_2
              refine w_iv dX8_isImage_132 rfl rfl (As := [.int x13, .int x33]) rfl rfl hJ16.1.1 zs_0 (Nat.le_of_ble_eq_true rfl) ?_
              refine ZV.imp (k_2112 x13 (by omega) (by omega) x33 (by omega) (by omega) hN hJ16.1) ?_
              rintro _ ⟨x38, M35, rfl, h39, h40, hJ36, hq37⟩
              have hJ41 := zJ_trans hJ16 hJ36 zSub_nil
              show ZW _ _ _ _ _ _ _ (135, [some (.ref 0), some (.int u77_1), some (.int v77_2), some (.int u77_3), some (.int v77_4), some (.int v77_5), some (.int x13)], [.int x38], M35)
              rcases Int.decEq x38.toInt (0 : Int) with h42 | h42
              · skip
                refine w_ine_t dX8_isImage_135 (t := 140) rfl (by omega) ?_
                refine w_lo dX8_isImage_140 rfl rfl rfl rfl ?_
                refine w_ic dX8_isImage_142 zi_1 ?_
                refine w_lo dX8_isImage_143 rfl rfl rfl rfl ?_
                refine w_shl dX8_isImage_145 (by omega) (by omega) (m := 11) (by omega) ?_
                intro x43 h44 h45
                have : (2 : Int) ^ 11 = 2048 := by decide
                refine w_or dX8_isImage_146 (m := 12) (by decide) (by omega) (by omega) (by omega) (by omega) ?_
                intro x46 h47 h48
                have : (2 : Int) ^ 12 = 4096 := by decide
                refine w_lo (ml' := [some (.ref 0), some (.int u77_1), some (.int v77_2), some (.int u77_3), some (.int x46), some (.int v77_5), some (.int x13)]) dX8_isImage_147 rfl rfl rfl rfl ?_
                refine w_inc (kk := 5) dX8_isImage_149 rfl (m := 1) (by decide) (by omega) ?_
                intro x49 h50
                refine ⟨_, rfl, ?_⟩
                show ZW _ _ _ _ _ _ _ (152, [some (.ref 0), some (.int u77_1), some (.int v77_2), some (.int u77_3), some (.int x46), some (.int x49), some (.int x13)], [], M35)
                refine w_gt dX8_isImage_152 (t := 77) rfl ?_
                exact ih77 M35 u77_1 v77_2 u77_3 x46 x49 (some (.int x13)) hJ41 (by omega) (by omega) (by omega) (by omega) (by omega) (by omega) (by omega)
              · skip
                refine w_ine_f dX8_isImage_135 (t := 140) rfl (by omega) ?_
                refine w_ic dX8_isImage_138 zi_0 ?_
                refine w_en dX8_isImage_139 rfl ?_
                exact ⟨_, _, rfl, (by have := zt_0; omega), (by have := zt_0; omega), hJ41, trivial⟩
            · skip
              refine w_ceq_t dX8_isImage_119 (t := 138) rfl (by have := zt_1; omega) ?_
              refine w_ic dX8_isImage_138 zi_0 ?_
              refine w_en dX8_isImage_139 rfl ?_
              exact ⟨_, _, rfl, (by have := zt_0; omega), (by have := zt_0; omega), hJ16, trivial⟩
          · skip
            refine w_cge_t dX8_isBoy_12 (t := 19) rfl (by omega) ?_
            refine w_ic dX8_isBoy_19 zi_0 ?_
            refine w_en dX8_isBoy_20 rfl ?_
            show ZW _ _ _ _ _ _ _ (108, [some (.ref 0), some (.int u77_1), some (.int v77_2), some (.int u77_3), some (.int v77_4), some (.int v77_5), some (.int x13)], [.int 0], M10)
            refine w_ieq_t dX8_isImage_108 (t := 138) rfl (by have := zt_0; omega) ?_
            refine w_ic dX8_isImage_138 zi_0 ?_
            refine w_en dX8_isImage_139 rfl ?_
            exact ⟨_, _, rfl, (by have := zt_0; omega), (by have := zt_0; omega), hJ16, trivial⟩
        · skip
          refine w_cge_t dX8_isImage_86 (t := 155) rfl (by omega) ?_
          refine w_ic dX8_isImage_155 zi_0 ?_
          refine w_lo (ml' := [some (.ref 0), some (.int u77_1), some (.int v77_2), some (.int u77_3), some (.int v77_4), some (.int 0), o77_6]) dX8_isImage_156 rfl rfl rfl rfl ?_
          exact ih158 M u77_1 v77_2 u77_3 v77_4 0 o77_6 hJ (by omega) (by omega) (by have := zt_0; omega) (by have := zt_0; omega) (by have := zt_0; omega)
      · intro M u158_1 v158_2 u158_3 u158_4 v158_5 o158_6 hJ v158_20 v158_21 v158_50 v158_51 hn
        refine w_lo dX8_isImage_158 rfl rfl rfl rfl ?_
        refine w_lo dX8_isImage_160 rfl rfl rfl rfl ?_
        rcases zcut v158_5.toInt v158_2.toInt with h51 | h51
        · skip
          refine w_cge_f dX8_isImage_161 (t := 214) rfl (by omega) ?_
          refine w_ic dX8_isImage_164 zi_2 ?_
          refine w_bi dX8_isImage_165 (c := 7) (by decide) ?_
          refine w_lo dX8_isImage_167 rfl rfl rfl rfl ?_
          refine w_gf dX8_isImage_168 rfl hJ.1.1 zs_0 (zr_0_4 hJ.1) ?_
          refine w_gfi dX8_isImage_171 rfl hJ.1 zs_49 (Nat.le_of_ble_eq_true rfl) zo_49_0 ?_
          intro x52 f53 h54 h55
          refine w_mulc dX8_isImage_174 zt_7 (by have := zt_7; omega) ?_
          intro x56 h57
          have := zt_7
          refine w_add dX8_isImage_175 (by have := zt_2; omega) ?_
          intro x58 h59
          have := zt_2
          refine w_ic dX8_isImage_176 zi_2 ?_
          refine w_lo dX8_isImage_177 rfl rfl rfl rfl ?_
          refine w_mulc dX8_isImage_179 zt_2 (by have := zt_2; omega) ?_
          intro x60 h61
          have := zt_2
          refine w_add dX8_isImage_180 (by omega) ?_
          intro x62 h63
          refine w_lo (ml' := [some (.ref 0), some (.int u158_1), some (.int v158_2), some (.int u158_3), some (.int u158_4), some (.int v158_5), some (.int x62)]) dX8_isImage_181 rfl rfl rfl rfl ?_
          refine w_lo dX8_isImage_183 rfl rfl rfl rfl ?_
          refine w_lo dX8_isImage_184 rfl rfl rfl rfl ?_
          refine w_iv dX8_isImage_186 rfl rfl (As := [.int x62]) rfl rfl hJ.1.1 zs_0 (Nat.le_of_ble_eq_true rfl) ?_
          refine ZV.imp (k_2092 x62 (by omega) (by omega) hN hJ.1) ?_
          rintro _ ⟨x67, M64, rfl, h68, h69, hJ65, hq66⟩
          have hJ70 := zJ_trans hJ hJ65 zSub_nil
          show ZW _ _ _ _ _ _ _ (189, [some (.ref 0), some (.int u158_1), some (.int v158_2), some (.int u158_3), some (.int u158_4), some (.int v158_5), some (.int x62)], [.int x67], M64)
          refine w_ic dX8_isImage_189 zi_1 ?_
          rcases zcut (1 : Int) x67.toInt with h71 | h71
          · skip
            refine w_cgt_t dX8_isImage_190 (t := 206) rfl (by have := zt_1; omega) ?_
            refine w_ic dX8_isImage_206 zi_0 ?_
            refine w_en dX8_isImage_207 rfl ?_
            exact ⟨_, _, rfl, (by have := zt_0; omega), (by have := zt_0; omega), hJ70, trivial⟩
          · skip
            refine w_cgt_f dX8_isImage_190 (t := 206) rfl (by have := zt_1; omega) ?_
            refine w_lo dX8_isImage_193 rfl rfl rfl rfl ?_
            refine w_lo dX8_isImage_194 rfl rfl rfl rfl ?_
            refine w_ic dX8_isImage_196 zi_1 ?_
            refine w_add dX8_isImage_197 (by have := zt_1; omega) ?_
            intro x72 h73
            have := zt_1
            refine w_iv dX8_isImage_198 rfl rfl (As := [.int x72]) rfl rfl hJ70.1.1 zs_0 (Nat.le_of_ble_eq_true rfl) ?_
            refine ZV.imp (k_2092 x72 (by omega) (by omega) hN hJ70.1) ?_
            rintro _ ⟨x77, M74, rfl, h78, h79, hJ75, hq76⟩
            have hJ80 := zJ_trans hJ70 hJ75 zSub_nil
            show ZW _ _ _ _ _ _ _ (201, [some (.ref 0), some (.int u158_1), some (.int v158_2), some (.int u158_3), some (.int u158_4), some (.int v158_5), some (.int x62)], [.int x77], M74)
            refine w_bi dX8_isImage_201 (c := 99) (by decide) ?_
            rcases zcut (99 : Int) x77.toInt with h81 | h81
            · skip
              refine w_cle_f dX8_isImage_203 (t := 208) rfl (by have := zt_99; omega) ?_
              refine w_ic dX8_isImage_206 zi_0 ?_
              refine w_en dX8_isImage_207 rfl ?_
              exact ⟨_, _, rfl, (by have := zt_0; omega), (by have := zt_0; omega), hJ80, trivial⟩
            · skip
              refine w_cle_t dX8_isImage_203 (t := 208) rfl (by have := zt_99; omega) ?_
              refine w_inc (kk := 5) dX8_isImage_208 rfl (m := 1) (by decide) (by omega) ?_
              intro x82 h83
              refine ⟨_, rfl, ?_⟩
              show ZW _ _ _ _ _ _ _ (211, [some (.ref 0), some (.int u158_1), some (.int v158_2), some (.int u158_3), some (.int u158_4), some (.int x82), some (.int x62)], [], M74)
              refine w_gt dX8_isImage_211 (t := 158) rfl ?_
              exact ih158 M74 u158_1 v158_2 u158_3 u158_4 x82 (some (.int x62)) hJ80 (by omega) (by omega) (by omega) (by omega) (by omega)
        · skip
          refine w_cge_t dX8_isImage_161 (t := 214) rfl (by omega) ?_
          refine w_ic dX8_isImage_214 zi_1 ?_
          refine w_en dX8_isImage_215 rfl ?_
          exact ⟨_, _, rfl, (by have := zt_1; omega), (by have := zt_1; omega), hJ, trivial⟩
  obtain ⟨ih77, ih158⟩ := main 115
  show ZW _ _ _ _ _ _ _ (0, [some (.ref 0), some (.int a0), none, none, none, none, none], [], M0)
  refine w_ic dX8_isImage_0 zi_0 ?_
  refine w_lo dX8_isImage_1 rfl rfl rfl rfl ?_
  refine w_gf dX8_isImage_2 rfl hJ0.1.1 zs_0 (zr_0_4 hJ0.1) ?_
  refine w_gfi dX8_isImage_5 rfl hJ0.1 zs_49 (Nat.le_of_ble_eq_true rfl) zo_49_0 ?_
  intro x84 f85 h86 h87
  refine w_ic dX8_isImage_8 zi_1 ?_
  refine w_sub dX8_isImage_9 (by have := zt_1; omega) ?_
  intro x88 h89
  have := zt_1
  refine w_mxI dX8_isImage_10 rfl (Nat.le_of_ble_eq_true rfl) ?_
  intro x90 h91 h92 h93
  have := zt_0
  show ZW _ _ _ _ _ _ _ (13, [some (.ref 0), some (.int a0), none, none, none, none, none], [.int x90], M0)
  refine w_lo (ml' := [some (.ref 0), some (.int a0), some (.int x90), none, none, none, none]) dX8_isImage_13 rfl rfl rfl rfl ?_
  refine w_ic dX8_isImage_14 zi_2 ?_
  refine w_bi dX8_isImage_15 (c := 7) (by decide) ?_
  refine w_lo dX8_isImage_17 rfl rfl rfl rfl ?_
  refine w_gf dX8_isImage_18 rfl hJ0.1.1 zs_0 (zr_0_4 hJ0.1) ?_
  refine w_gf dX8_isImage_21 rfl hJ0.1.1 zs_49 f85 ?_
  refine w_mulc dX8_isImage_24 zt_7 (by have := zt_7; omega) ?_
  intro x94 h95
  have := zt_7
  refine w_add dX8_isImage_25 (by have := zt_2; omega) ?_
  intro x96 h97
  have := zt_2
  refine w_ic dX8_isImage_26 zi_2 ?_
  refine w_lo dX8_isImage_27 rfl rfl rfl rfl ?_
  refine w_mulc dX8_isImage_28 zt_2 (by have := zt_2; omega) ?_
  intro x98 h99
  have := zt_2
  refine w_add dX8_isImage_29 (by omega) ?_
  intro x100 h101
  refine w_ic dX8_isImage_30 zi_1 ?_
  refine w_add dX8_isImage_31 (by have := zt_1; omega) ?_
  intro x102 h103
  have := zt_1
  refine w_lo (ml' := [some (.ref 0), some (.int a0), some (.int x90), some (.int x102), none, none, none]) dX8_isImage_32 rfl rfl rfl rfl ?_
  refine w_lo dX8_isImage_33 rfl rfl rfl rfl ?_
  refine w_lo dX8_isImage_34 rfl rfl rfl rfl ?_
  rcases Int.decEq a0.toInt x102.toInt with h104 | h104
  · skip
    refine w_cne_t dX8_isImage_35 (t := 69) rfl (by omega) ?_
    refine w_ic dX8_isImage_69 zi_0 ?_
    refine w_en dX8_isImage_70 rfl ?_
    exact ⟨_, _, rfl, (by have := zt_0; omega), (by have := zt_0; omega), hJ0, trivial⟩
  · skip
    refine w_cne_f dX8_isImage_35 (t := 69) rfl (by omega) ?_
    refine w_lo dX8_isImage_38 rfl rfl rfl rfl ?_
    refine w_lo dX8_isImage_39 rfl rfl rfl rfl ?_
    refine w_ic dX8_isImage_40 zi_1 ?_
    refine w_sub dX8_isImage_41 (by have := zt_1; omega) ?_
    intro x105 h106
    have := zt_1
    refine w_iv dX8_isImage_42 rfl rfl (As := [.int x105]) rfl rfl hJ0.1.1 zs_0 (Nat.le_of_ble_eq_true rfl) ?_
    refine ZV.imp (k_2092 x105 (by omega) (by omega) hN hJ0.1) ?_
    rintro _ ⟨x110, M107, rfl, h111, h112, hJ108, hq109⟩
    have hJ113 := zJ_trans hJ0 hJ108 zSub_nil
    show ZW _ _ _ _ _ _ _ (45, [some (.ref 0), some (.int a0), some (.int x90), some (.int x102), none, none, none], [.int x110], M107)
    refine w_lo dX8_isImage_45 rfl rfl rfl rfl ?_
    refine w_gf dX8_isImage_46 rfl hJ113.1.1 zs_0 (zr_0_0 hJ113.1) ?_
    refine w_lo dX8_isImage_49 rfl rfl rfl rfl ?_
    refine w_ic dX8_isImage_50 zi_1 ?_
    refine w_sub dX8_isImage_51 (by have := zt_1; omega) ?_
    intro x114 h115
    have := zt_1
    refine w_ss dX8_isImage_52 rfl rfl (As := [.ref 1, .int x114]) rfl rfl (Nat.le_of_ble_eq_true rfl) ?_
    refine ZV.imp (k_2108 1 _ _ _ zs_1 zu_1 (Nat.le_of_ble_eq_true rfl) (by decide) (by decide) x114 (by omega) (by omega) hN hJ113.1) ?_
    rintro _ ⟨x119, M116, rfl, h120, h121, hJ117, hq118⟩
    have hJ122 := zJ_trans hJ113 hJ117 zSub_nil
    show ZW _ _ _ _ _ _ _ (55, [some (.ref 0), some (.int a0), some (.int x90), some (.int x102), none, none, none], [.int x119, .int x110], M116)
    rcases Int.decEq x110.toInt x119.toInt with h123 | h123
    · skip
      refine w_cne_t dX8_isImage_55 (t := 69) rfl (by omega) ?_
      refine w_ic dX8_isImage_69 zi_0 ?_
      refine w_en dX8_isImage_70 rfl ?_
      exact ⟨_, _, rfl, (by have := zt_0; omega), (by have := zt_0; omega), hJ122, trivial⟩
    · skip
      refine w_cne_f dX8_isImage_55 (t := 69) rfl (by omega) ?_
      refine w_lo dX8_isImage_58 rfl rfl rfl rfl ?_
      refine w_ic dX8_isImage_59 zi_0 ?_
      refine w_iv dX8_isImage_60 rfl rfl (As := [.int 0]) rfl rfl hJ122.1.1 zs_0 (Nat.le_of_ble_eq_true rfl) ?_
      refine ZV.imp (k_2091 0 (by have := zt_0; omega) (by have := zt_0; omega) hN hJ122.1) ?_
      rintro _ ⟨x127, M124, rfl, h128, h129, hJ125, hq126⟩
      have hJ130 := zJ_trans hJ122 hJ125 zSub_nil
      show ZW _ _ _ _ _ _ _ (63, [some (.ref 0), some (.int a0), some (.int x90), some (.int x102), none, none, none], [.int x127], M124)
      refine w_si dX8_isImage_63 (c := 999) (by decide) ?_
      rcases zcut (999 : Int) x127.toInt with h131 | h131
      · skip
        refine w_cle_f dX8_isImage_66 (t := 71) rfl (by have := zt_999; omega) ?_
        refine w_ic dX8_isImage_69 zi_0 ?_
        refine w_en dX8_isImage_70 rfl ?_
        exact ⟨_, _, rfl, (by have := zt_0; omega), (by have := zt_0; omega), hJ130, trivial⟩
      · skip
        refine w_cle_t dX8_isImage_66 (t := 71) rfl (by have := zt_999; omega) ?_
        refine w_ic dX8_isImage_71 zi_0 ?_
        refine w_lo (ml' := [some (.ref 0), some (.int a0), some (.int x90), some (.int x102), some (.int 0), none, none]) dX8_isImage_72 rfl rfl rfl rfl ?_
        refine w_ic dX8_isImage_74 zi_0 ?_
        refine w_lo (ml' := [some (.ref 0), some (.int a0), some (.int x90), some (.int x102), some (.int 0), some (.int 0), none]) dX8_isImage_75 rfl rfl rfl rfl ?_
        exact ih77 M124 a0 x90 x102 0 0 none hJ130 (by omega) (by omega) (by have := zt_0; omega) (by have := zt_0; omega) (by have := zt_0; omega) (by have := zt_0; omega) (by have := zt_0; omega)
set_option maxRecDepth 100000 in
theorem k_2113 {X : List Int32} {d N : Nat} {M0 : zM} (a0 : Int32) (hN : N ≤ 600) (hB0 : zB N M0) : ZV X (d + 1) 2113 [.ref 0, .int a0] M0 (zRI N [] M0 (-2147483648) (2147483647) (fun _ _ => True)) := by
  have hJ0 : zJ N [] M0 M0 := zJ_refl hB0
  refine ZV.of (ini := false) rfl (Nat.le_of_ble_eq_true rfl) (by decide +kernel) ?_
  show ZW _ _ _ _ _ _ _ (0, [some (.ref 0), some (.int a0)], [], M0)
  refine w_lo dX8_status_0 rfl rfl rfl rfl ?_
  rcases zcut a0.toInt (0 : Int) with h1 | h1
  · skip
    refine w_ilt_t dX8_status_1 (t := 10) rfl (by omega) ?_
    refine w_ic dX8_status_10 zi_m1 ?_
    refine w_gt dX8_status_11 (t := 20) rfl ?_
    refine w_en dX8_status_20 rfl ?_
    exact ⟨_, _, rfl, (zbot _), (ztop _), hJ0, trivial⟩
  · skip
    refine w_ilt_f dX8_status_1 (t := 10) rfl (by omega) ?_
    refine w_lo dX8_status_4 rfl rfl rfl rfl ?_
    refine w_bi dX8_status_5 (c := 6) (by decide) ?_
    rcases zcut a0.toInt (6 : Int) with h2 | h2
    · skip
      refine w_clt_t dX8_status_7 (t := 14) rfl (by have := zt_6; omega) ?_
      refine w_lo dX8_status_14 rfl rfl rfl rfl ?_
      refine w_gf dX8_status_15 rfl hJ0.1.1 zs_0 (zr_0_14 hJ0.1) ?_
      refine w_lo dX8_status_18 rfl rfl rfl rfl ?_
      refine w_iai dX8_status_19 hJ0.1 zs_385 (by omega) (by omega) zu_385 ?_
      intro x6 f3 h4 h5
      refine w_eni dX8_status_20 rfl rfl ?_
      exact ⟨_, _, rfl, (zbot _), (ztop _), hJ0, trivial⟩
    · skip
      refine w_clt_f dX8_status_7 (t := 14) rfl (by have := zt_6; omega) ?_
      refine w_ic dX8_status_10 zi_m1 ?_
      refine w_gt dX8_status_11 (t := 20) rfl ?_
      refine w_en dX8_status_20 rfl ?_
      exact ⟨_, _, rfl, (zbot _), (ztop _), hJ0, trivial⟩
