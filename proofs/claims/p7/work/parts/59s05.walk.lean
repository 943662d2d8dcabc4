/-! walks by pure conditions (wip/safe/vcp.py) -/
set_option maxRecDepth 100000 in
theorem u_2427 {X : List Int32} {d N : Nat} {M0 : zM} (a0 : Int32) (ha00 : (0 : Int) ≤ a0.toInt) (ha01 : a0.toInt ≤ 1600) (hN : N ≤ 600) (hB0 : zB N M0) {Q : Int → zF → Prop} (hb : b_2427 (zi M0) a0.toInt Q) : ZV X (d + 3) 2427 [.ref 386, .int a0] M0 (zRI N [] M0 (0) (1) (fun v M' => Q v.toInt (zi M'))) := by
  have hJ0 : zJ N [] M0 M0 := zJ_refl hB0
  refine ZV.of (ini := false) rfl (Nat.le_of_ble_eq_true rfl) (by decide +kernel) ?_
  obtain ⟨I27, I93, I119, I167, hbE, hb27, hb93, hb119, hb167⟩ := hb
  replace hbE : zHd _ := hbE
  replace hb27 : zHd _ := hb27
  replace hb93 : zHd _ := hb93
  replace hb119 : zHd _ := hb119
  replace hb167 : zHd _ := hb167
  have main : ∀ n : Nat,
      (∀ (M : zM) (v27_1 : Int32) (v27_2 : Int32) (v27_3 : Int32) (o27_4 : Option Value), zJ N [] M0 M → ((3 : Int) ≤ v27_1.toInt) → (v27_1.toInt ≤ 109) → ((0 : Int) ≤ v27_2.toInt) → (v27_2.toInt ≤ 250) → ((0 : Int) ≤ v27_3.toInt) → (v27_3.toInt ≤ 108) → I27 n (zi M) v27_1.toInt v27_2.toInt v27_3.toInt → ZW X (d + 2) 9 false (some .boolean) cX9_isImage (zRI N [] M0 (0) (1) (fun v M' => Q v.toInt (zi M'))) (27, [some (.ref 386), some (.int v27_1), some (.int v27_2), some (.int v27_3), o27_4], [], M)) ∧
      (∀ (M : zM) (u93_1 : Int32) (u93_2 : Int32) (v93_3 : Int32) (o93_4 : Option Value), zJ N [] M0 M → ((0 : Int) ≤ v93_3.toInt) → (v93_3.toInt ≤ 12) → I93 n (zi M) v93_3.toInt → ZW X (d + 2) 9 false (some .boolean) cX9_isImage (zRI N [] M0 (0) (1) (fun v M' => Q v.toInt (zi M'))) (93, [some (.ref 386), some (.int u93_1), some (.int u93_2), some (.int v93_3), o93_4], [], M)) ∧
      (∀ (M : zM) (u119_1 : Int32) (u119_2 : Int32) (v119_3 : Int32) (v119_4 : Int32), zJ N [] M0 M → ((0 : Int) ≤ v119_3.toInt) → (v119_3.toInt ≤ 11) → ((0 : Int) ≤ v119_4.toInt) → (v119_4.toInt ≤ 11) → I119 n (zi M) v119_3.toInt v119_4.toInt → ZW X (d + 2) 9 false (some .boolean) cX9_isImage (zRI N [] M0 (0) (1) (fun v M' => Q v.toInt (zi M'))) (119, [some (.ref 386), some (.int u119_1), some (.int u119_2), some (.int v119_3), some (.int v119_4)], [], M)) ∧
      (∀ (M : zM) (u167_1 : Int32) (u167_2 : Int32) (v167_3 : Int32) (o167_4 : Option Value), zJ N [] M0 M → ((0 : Int) ≤ v167_3.toInt) → (v167_3.toInt ≤ 11) → I167 n (zi M) v167_3.toInt → ZW X (d + 2) 9 false (some .boolean) cX9_isImage (zRI N [] M0 (0) (1) (fun v M' => Q v.toInt (zi M'))) (167, [some (.ref 386), some (.int u167_1), some (.int u167_2), some (.int v167_3), o167_4], [], M)) := by
    intro n
    induction n using Nat.strongRecOn with
    | _ n ih =>
      refine ⟨?_, ?_, ?_, ?_⟩
      · intro M v27_1 v27_2 v27_3 o27_4 hJ v27_10 v27_11 v27_20 v27_21 v27_30 v27_31 hI
        have hb : zHd _ := hb27 n (zi M) v27_1.toInt v27_2.toInt v27_3.toInt (zi_fr hJ.2) v27_10 v27_11 v27_20 v27_21 v27_30 v27_31 hI
        refine w_lo dX9_isImage_27 rfl rfl rfl rfl ?_
        refine w_lo dX9_isImage_28 rfl rfl rfl rfl ?_
        refine w_ic dX9_isImage_29 zi_1 ?_
        refine w_sub dX9_isImage_30 (by have := zt_1; omega) ?_
        intro x1 h2
        have := zt_1
        replace hb : zHd _ := hb x1.toInt (by have := zt_1; omega)
        rcases zcut v27_3.toInt x1.toInt with h3 | h3
        · skip
          replace hb : zHd _ := hb.1 h3
          refine w_cge_f dX9_isImage_31 (t := 55) rfl (by omega) ?_
          refine w_ic dX9_isImage_34 zi_5 ?_
          refine w_lo dX9_isImage_35 rfl rfl rfl rfl ?_
          refine w_mulc dX9_isImage_36 zt_5 (by have := zt_5; omega) ?_
          intro x4 h5
          have := zt_5
          replace hb : zHd _ := hb x4.toInt (by have := zt_5; omega)
          refine w_lo dX9_isImage_37 rfl rfl rfl rfl ?_
          refine w_gf dX9_isImage_38 rfl hJ.1.1 zs_386 (zr_386_0 hJ.1) ?_
          refine w_lo dX9_isImage_41 rfl rfl rfl rfl ?_
          refine w_iai dX9_isImage_42 hJ.1 zs_387 (by omega) (by omega) zu_387 ?_
          intro x9 f6 h7 h8
          replace hb : zHd _ := hb x9.toInt (ziEk f6 rfl) h7 h8
          refine w_add dX9_isImage_43 (by omega) ?_
          intro x10 h11
          replace hb : zHd _ := hb x10.toInt (by omega)
          refine w_si dX9_isImage_44 (c := 251) (by decide) ?_
          refine w_remE dX9_isImage_47 (by omega) (by have := zt_251; omega) ?_
          intro x12 h13 h14 h15
          have := zt_251
          replace hb : zHd _ := hb x12.toInt h13 (by omega) (by rw [h15, zt_251])
          refine w_lo (ml' := [some (.ref 386), some (.int v27_1), some (.int x12), some (.int v27_3), o27_4]) dX9_isImage_48 rfl rfl rfl rfl ?_
          refine w_inc (kk := 3) dX9_isImage_49 rfl (m := 1) (by decide) (by omega) ?_
          intro x16 h17
          refine ⟨_, rfl, ?_⟩
          replace hb : zHd _ := hb x16.toInt h17
          show ZW _ _ _ _ _ _ _ (52, [some (.ref 386), some (.int v27_1), some (.int x12), some (.int x16), o27_4], [], M)
          refine w_gt dX9_isImage_52 (t := 27) rfl ?_
          obtain ⟨m, hm, hI⟩ := hb
          exact (ih m hm).1 M v27_1 x12 x16 o27_4 hJ (by omega) (by omega) (by omega) (by omega) (by omega) (by omega) hI
        · skip
          replace hb : zHd _ := hb.2 h3
          refine w_cge_t dX9_isImage_31 (t := 55) rfl (by omega) ?_
          refine w_lo dX9_isImage_55 rfl rfl rfl rfl ?_
          refine w_gf dX9_isImage_56 rfl hJ.1.1 zs_386 (zr_386_0 hJ.1) ?_
          refine w_lo dX9_isImage_59 rfl rfl rfl rfl ?_
          refine w_ic dX9_isImage_60 zi_1 ?_
          refine w_sub dX9_isImage_61 (by have := zt_1; omega) ?_
          intro x18 h19
          have := zt_1
          replace hb : zHd _ := hb x18.toInt (by have := zt_1; omega)
          refine w_iai dX9_isImage_62 hJ.1 zs_387 (by omega) (by omega) zu_387 ?_
          intro x23 f20 h21 h22
          replace hb : zHd _ := hb x23.toInt (ziEk f20 rfl) h21 h22
          refine w_lo dX9_isImage_63 rfl rfl rfl rfl ?_
          rcases Int.decEq x23.toInt v27_2.toInt with h24 | h24
          · skip
            replace hb : zHd _ := hb.1 h24
            refine w_cne_t dX9_isImage_64 (t := 89) rfl (by omega) ?_
            refine w_ic dX9_isImage_89 zi_0 ?_
            refine w_en dX9_isImage_90 rfl ?_
            exact ⟨_, _, rfl, (by have := zt_0; omega), (by have := zt_0; omega), hJ, hb⟩
          · skip
            replace hb : zHd _ := hb.2 h24
            refine w_cne_f dX9_isImage_64 (t := 89) rfl (by omega) ?_
            refine w_lo dX9_isImage_67 rfl rfl rfl rfl ?_
            refine w_gf dX9_isImage_68 rfl hJ.1.1 zs_386 (zr_386_0 hJ.1) ?_
            refine w_ic dX9_isImage_71 zi_0 ?_
            refine w_iai dX9_isImage_72 hJ.1 zs_387 (by have := zt_0; omega) (by have := zt_0; omega) zu_387 ?_
            intro x28 f25 h26 h27
            replace hb : zHd _ := hb x28.toInt (ziEk f25 (by decide)) h26 h27
            refine w_bi dX9_isImage_73 (c := 8) (by decide) ?_
            refine w_puI dX9_isImage_75 rfl rfl ?_
            intro x29
            replace hb : zHd _ := hb x29.toInt 
            refine w_lo dX9_isImage_76 rfl rfl rfl rfl ?_
            refine w_gf dX9_isImage_77 rfl hJ.1.1 zs_386 (zr_386_0 hJ.1) ?_
            refine w_ic dX9_isImage_80 zi_1 ?_
            refine w_iai dX9_isImage_81 hJ.1 zs_387 (by have := zt_1; omega) (by have := zt_1; omega) zu_387 ?_
            intro x33 f30 h31 h32
            replace hb : zHd _ := hb x33.toInt (ziEk f30 (by decide)) h31 h32
            refine w_puI dX9_isImage_82 rfl rfl ?_
            intro x34
            replace hb : zHd _ := hb x34.toInt 
            refine w_si dX9_isImage_83 (c := 999) (by decide) ?_
            rcases zcut (999 : Int) x34.toInt with h35 | h35
            · skip
              replace hb : zHd _ := hb.1 h35
              refine w_cle_f dX9_isImage_86 (t := 91) rfl (by have := zt_999; omega) ?_
              refine w_ic dX9_isImage_89 zi_0 ?_
              refine w_en dX9_isImage_90 rfl ?_
              exact ⟨_, _, rfl, (by have := zt_0; omega), (by have := zt_0; omega), hJ, hb⟩
            · skip
              replace hb : zHd _ := hb.2 h35
              refine w_cle_t dX9_isImage_86 (t := 91) rfl (by have := zt_999; omega) ?_
              refine w_ic dX9_isImage_91 zi_0 ?_
              refine w_lo (ml' := [some (.ref 386), some (.int v27_1), some (.int v27_2), some (.int 0), o27_4]) dX9_isImage_92 rfl rfl rfl rfl ?_
              obtain ⟨m, hm, hI⟩ := hb
              exact (ih m hm).2.1 M v27_1 v27_2 0 o27_4 hJ (by have := zt_0; omega) (by have := zt_0; omega) hI
      · intro M u93_1 u93_2 v93_3 o93_4 hJ v93_30 v93_31 hI
        have hb : zHd _ := hb93 n (zi M) v93_3.toInt (zi_fr hJ.2) v93_30 v93_31 hI
        refine w_lo dX9_isImage_93 rfl rfl rfl rfl ?_
        refine w_lo dX9_isImage_94 rfl rfl rfl rfl ?_
        refine w_iv dX9_isImage_95 rfl rfl (As := []) rfl rfl hJ.1.1 zs_386 (Nat.le_of_ble_eq_true rfl) ?_
        refine ZV.of (ini := false) rfl (Nat.le_of_ble_eq_true rfl) (by decide +kernel) ?_
        show ZW _ _ _ _ _ _ _ (0, [some (.ref 386)], [], M)
        refine w_lo dX9_many_0 rfl rfl rfl rfl ?_
        refine w_gf dX9_many_1 rfl hJ.1.1 zs_386 (zr_386_13 hJ.1) ?_
        refine w_lo dX9_many_4 rfl rfl rfl rfl ?_
        refine w_gfi dX9_many_5 rfl hJ.1 zs_386 (Nat.le_of_ble_eq_true rfl) zo_386_12 ?_
        intro x36 f37 h38 h39
        replace hb : zHd _ := hb x36.toInt (ziE f37) h38 h39
        refine w_iai dX9_many_8 hJ.1 zs_388 (by omega) (by omega) zu_388 ?_
        intro x43 f40 h41 h42
        replace hb : zHd _ := hb x43.toInt (ziEk f40 rfl) h41 h42
        refine w_eni dX9_many_9 rfl rfl ?_
        show ZW _ _ _ _ _ _ _ (98, [some (.ref 386), some (.int u93_1), some (.int u93_2), some (.int v93_3), o93_4], [.int x43, .int v93_3], M)
        rcases zcut v93_3.toInt x43.toInt with h44 | h44
        · skip
          replace hb : zHd _ := hb.1 h44
          refine w_cge_f dX9_isImage_98 (t := 165) rfl (by omega) ?_
          refine w_lo dX9_isImage_101 rfl rfl rfl rfl ?_
          refine w_ic dX9_isImage_102 zi_2 ?_
          refine w_bi dX9_isImage_103 (c := 7) (by decide) ?_
          refine w_lo dX9_isImage_105 rfl rfl rfl rfl ?_
          refine w_mulc dX9_isImage_106 zt_7 (by have := zt_7; omega) ?_
          intro x45 h46
          have := zt_7
          replace hb : zHd _ := hb x45.toInt (by have := zt_7; omega)
          refine w_add dX9_isImage_107 (by have := zt_2; omega) ?_
          intro x47 h48
          have := zt_2
          replace hb : zHd _ := hb x47.toInt (by have := zt_2; omega)
          refine w_iv dX9_isImage_108 rfl rfl (As := [.int x47]) rfl rfl hJ.1.1 zs_386 (Nat.le_of_ble_eq_true rfl) ?_
          obtain ⟨P51, hp52, hb⟩ := hb
          replace hb : zHd _ := hb
          refine ZV.imp (u_2429 x47 (by omega) (by omega) hN hJ.1 hp52) ?_
          rintro _ ⟨x54, M49, rfl, h55, h56, hJ50, hq53⟩
          replace hb : zHd _ := hb x54.toInt h55 h56 (zi M49) (zi_fr hJ50.2) hq53
          have hJ58 := zJ_trans hJ hJ50 zSub_nil
          show ZW _ _ _ _ _ _ _ (111, [some (.ref 386), some (.int u93_1), some (.int u93_2), some (.int v93_3), o93_4], [.int x54], M49)
          rcases Int.decEq x54.toInt (0 : Int) with h59 | h59
          · skip
            replace hb : zHd _ := hb.1 h59
            refine w_ine_t dX9_isImage_111 (t := 116) rfl (by omega) ?_
            refine w_ic dX9_isImage_116 zi_0 ?_
            refine w_lo (ml' := [some (.ref 386), some (.int u93_1), some (.int u93_2), some (.int v93_3), some (.int 0)]) dX9_isImage_117 rfl rfl rfl rfl ?_
            obtain ⟨m, hm, hI⟩ := hb
            exact (ih m hm).2.2.1 M49 u93_1 u93_2 v93_3 0 hJ58 (by omega) (by omega) (by have := zt_0; omega) (by have := zt_0; omega) hI
          · skip
            replace hb : zHd _ := hb.2 h59
            refine w_ine_f dX9_isImage_111 (t := 116) rfl (by omega) ?_
            refine w_ic dX9_isImage_114 zi_0 ?_
            refine w_en dX9_isImage_115 rfl ?_
            exact ⟨_, _, rfl, (by have := zt_0; omega), (by have := zt_0; omega), hJ58, hb⟩
        · skip
          replace hb : zHd _ := hb.2 h44
          refine w_cge_t dX9_isImage_98 (t := 165) rfl (by omega) ?_
          refine w_ic dX9_isImage_165 zi_0 ?_
          refine w_lo (ml' := [some (.ref 386), some (.int u93_1), some (.int u93_2), some (.int 0), o93_4]) dX9_isImage_166 rfl rfl rfl rfl ?_
          obtain ⟨m, hm, hI⟩ := hb
          exact (ih m hm).2.2.2 M u93_1 u93_2 0 o93_4 hJ (by have := zt_0; omega) (by have := zt_0; omega) hI
      · intro M u119_1 u119_2 v119_3 v119_4 hJ v119_30 v119_31 v119_40 v119_41 hI
        have hb : zHd _ := hb119 n (zi M) v119_3.toInt v119_4.toInt (zi_fr hJ.2) v119_30 v119_31 v119_40 v119_41 hI
        refine w_lo dX9_isImage_119 rfl rfl rfl rfl ?_
        refine w_lo dX9_isImage_121 rfl rfl rfl rfl ?_
        rcases zcut v119_4.toInt v119_3.toInt with h60 | h60
        · skip
          replace hb : zHd _ := hb.1 h60
          refine w_cge_f dX9_isImage_122 (t := 159) rfl (by omega) ?_
          refine w_lo dX9_isImage_125 rfl rfl rfl rfl ?_
          refine w_gf dX9_isImage_126 rfl hJ.1.1 zs_386 (zr_386_0 hJ.1) ?_
          refine w_ic dX9_isImage_129 zi_2 ?_
          refine w_bi dX9_isImage_130 (c := 7) (by decide) ?_
          refine w_lo dX9_isImage_132 rfl rfl rfl rfl ?_
          refine w_mulc dX9_isImage_134 zt_7 (by have := zt_7; omega) ?_
          intro x61 h62
          have := zt_7
          replace hb : zHd _ := hb x61.toInt (by have := zt_7; omega)
          refine w_add dX9_isImage_135 (by have := zt_2; omega) ?_
          intro x63 h64
          have := zt_2
          replace hb : zHd _ := hb x63.toInt (by have := zt_2; omega)
          refine w_iai dX9_isImage_136 hJ.1 zs_387 (by omega) (by omega) zu_387 ?_
          intro x68 f65 h66 h67
          replace hb : zHd _ := hb x68.toInt (ziEk f65 rfl) h66 h67
          refine w_lo dX9_isImage_137 rfl rfl rfl rfl ?_
          refine w_gf dX9_isImage_138 rfl hJ.1.1 zs_386 (zr_386_0 hJ.1) ?_
          refine w_ic dX9_isImage_141 zi_2 ?_
          refine w_bi dX9_isImage_142 (c := 7) (by decide) ?_
          refine w_lo dX9_isImage_144 rfl rfl rfl rfl ?_
          refine w_mulc dX9_isImage_145 zt_7 (by have := zt_7; omega) ?_
          intro x69 h70
          have := zt_7
          replace hb : zHd _ := hb x69.toInt (by have := zt_7; omega)
          refine w_add dX9_isImage_146 (by have := zt_2; omega) ?_
          intro x71 h72
          have := zt_2
          replace hb : zHd _ := hb x71.toInt (by have := zt_2; omega)
          refine w_iai dX9_isImage_147 hJ.1 zs_387 (by omega) (by omega) zu_387 ?_
          intro x76 f73 h74 h75
          replace hb : zHd _ := hb x76.toInt (ziEk f73 rfl) h74 h75
          rcases Int.decEq x68.toInt x76.toInt with h77 | h77
          · skip
            replace hb : zHd _ := hb.1 h77
            refine w_cne_t dX9_isImage_148 (t := 153) rfl (by omega) ?_
            refine w_inc (kk := 4) dX9_isImage_153 rfl (m := 1) (by decide) (by omega) ?_
            intro x78 h79
            refine ⟨_, rfl, ?_⟩
            replace hb : zHd _ := hb x78.toInt h79
            show ZW _ _ _ _ _ _ _ (156, [some (.ref 386), some (.int u119_1), some (.int u119_2), some (.int v119_3), some (.int x78)], [], M)
            refine w_gt dX9_isImage_156 (t := 119) rfl ?_
            obtain ⟨m, hm, hI⟩ := hb
            exact (ih m hm).2.2.1 M u119_1 u119_2 v119_3 x78 hJ (by omega) (by omega) (by omega) (by omega) hI
          · skip
            replace hb : zHd _ := hb.2 h77
            refine w_cne_f dX9_isImage_148 (t := 153) rfl (by omega) ?_
            refine w_ic dX9_isImage_151 zi_0 ?_
            refine w_en dX9_isImage_152 rfl ?_
            exact ⟨_, _, rfl, (by have := zt_0; omega), (by have := zt_0; omega), hJ, hb⟩
        · skip
          replace hb : zHd _ := hb.2 h60
          refine w_cge_t dX9_isImage_122 (t := 159) rfl (by omega) ?_
          refine w_inc (kk := 3) dX9_isImage_159 rfl (m := 1) (by decide) (by omega) ?_
          intro x80 h81
          refine ⟨_, rfl, ?_⟩
          replace hb : zHd _ := hb x80.toInt h81
          show ZW _ _ _ _ _ _ _ (162, [some (.ref 386), some (.int u119_1), some (.int u119_2), some (.int x80), some (.int v119_4)], [], M)
          refine w_gt dX9_isImage_162 (t := 93) rfl ?_
          obtain ⟨m, hm, hI⟩ := hb
          exact (ih m hm).2.1 M u119_1 u119_2 x80 (some (.int v119_4)) hJ (by omega) (by omega) hI
      · intro M u167_1 u167_2 v167_3 o167_4 hJ v167_30 v167_31 hI
        have hb : zHd _ := hb167 n (zi M) v167_3.toInt (zi_fr hJ.2) v167_30 v167_31 hI
        refine w_lo dX9_isImage_167 rfl rfl rfl rfl ?_
        refine w_lo dX9_isImage_168 rfl rfl rfl rfl ?_
        refine w_iv dX9_isImage_169 rfl rfl (As := []) rfl rfl hJ.1.1 zs_386 (Nat.le_of_ble_eq_true rfl) ?_
        refine ZV.imp (k_2428 hN hJ.1) ?_
        rintro _ ⟨x85, M82, rfl, h86, h87, hJ83, hq84⟩
        replace hb : zHd _ := hb x85.toInt h86 h87 (zi M82) (zi_fr hJ83.2)
        have hJ89 := zJ_trans hJ hJ83 zSub_nil
        show ZW _ _ _ _ _ _ _ (172, [some (.ref 386), some (.int u167_1), some (.int u167_2), some (.int v167_3), o167_4], [.int x85, .int v167_3], M82)
        rcases zcut v167_3.toInt x85.toInt with h90 | h90
        · skip
          replace hb : zHd _ := hb.1 h90
          refine w_cge_f dX9_isImage_172 (t := 223) rfl (by omega) ?_
          refine w_ic dX9_isImage_175 zi_2 ?_
          refine w_bi dX9_isImage_176 (c := 7) (by decide) ?_
          refine w_lo dX9_isImage_178 rfl rfl rfl rfl ?_
          refine w_iv dX9_isImage_179 rfl rfl (As := []) rfl rfl hJ89.1.1 zs_386 (Nat.le_of_ble_eq_true rfl) ?_
          refine ZV.of (ini := false) rfl (Nat.le_of_ble_eq_true rfl) (by decide +kernel) ?_
          show ZW _ _ _ _ _ _ _ (0, [some (.ref 386)], [], M82)
          refine w_lo dX9_many_0 rfl rfl rfl rfl ?_
          refine w_gf dX9_many_1 rfl hJ89.1.1 zs_386 (zr_386_13 hJ89.1) ?_
          refine w_lo dX9_many_4 rfl rfl rfl rfl ?_
          refine w_gfi dX9_many_5 rfl hJ89.1 zs_386 (Nat.le_of_ble_eq_true rfl) zo_386_12 ?_
          intro x91 f92 h93 h94
          replace hb : zHd _ := hb x91.toInt (ziE f92) h93 h94
          refine w_iai dX9_many_8 hJ89.1 zs_388 (by omega) (by omega) zu_388 ?_
          intro x98 f95 h96 h97
          replace hb : zHd _ := hb x98.toInt (ziEk f95 rfl) h96 h97
          refine w_eni dX9_many_9 rfl rfl ?_
          show ZW _ _ _ _ _ _ _ (182, [some (.ref 386), some (.int u167_1), some (.int u167_2), some (.int v167_3), o167_4], [.int x98, .int 7, .int 2], M82)
          refine w_mulc dX9_isImage_182 zt_7 (by have := zt_7; omega) ?_
          intro x99 h100
          have := zt_7
          replace hb : zHd _ := hb x99.toInt (by have := zt_7; omega)
          refine w_add dX9_isImage_183 (by have := zt_2; omega) ?_
          intro x101 h102
          have := zt_2
          replace hb : zHd _ := hb x101.toInt (by have := zt_2; omega)
          refine w_ic dX9_isImage_184 zi_2 ?_
          refine w_lo dX9_isImage_185 rfl rfl rfl rfl ?_
          refine w_mulc dX9_isImage_186 zt_2 (by have := zt_2; omega) ?_
          intro x103 h104
          have := zt_2
          replace hb : zHd _ := hb x103.toInt (by have := zt_2; omega)
          refine w_add dX9_isImage_187 (by omega) ?_
          intro x105 h106
          replace hb : zHd _ := hb x105.toInt (by omega)
          refine w_lo (ml' := [some (.ref 386), some (.int u167_1), some (.int u167_2), some (.int v167_3), some (.int x105)]) dX9_isImage_188 rfl rfl rfl rfl ?_
          refine w_lo dX9_isImage_190 rfl rfl rfl rfl ?_
          refine w_gf dX9_isImage_191 rfl hJ89.1.1 zs_386 (zr_386_0 hJ89.1) ?_
          refine w_lo dX9_isImage_194 rfl rfl rfl rfl ?_
          refine w_iai dX9_isImage_196 hJ89.1 zs_387 (by omega) (by omega) zu_387 ?_
          intro x110 f107 h108 h109
          replace hb : zHd _ := hb x110.toInt (ziEk f107 rfl) h108 h109
          refine w_ic dX9_isImage_197 zi_1 ?_
          rcases zcut (1 : Int) x110.toInt with h111 | h111
          · skip
            replace hb : zHd _ := hb.1 h111
            refine w_cgt_t dX9_isImage_198 (t := 215) rfl (by have := zt_1; omega) ?_
            refine w_ic dX9_isImage_215 zi_0 ?_
            refine w_en dX9_isImage_216 rfl ?_
            exact ⟨_, _, rfl, (by have := zt_0; omega), (by have := zt_0; omega), hJ89, hb⟩
          · skip
            replace hb : zHd _ := hb.2 h111
            refine w_cgt_f dX9_isImage_198 (t := 215) rfl (by have := zt_1; omega) ?_
            refine w_lo dX9_isImage_201 rfl rfl rfl rfl ?_
            refine w_gf dX9_isImage_202 rfl hJ89.1.1 zs_386 (zr_386_0 hJ89.1) ?_
            refine w_lo dX9_isImage_205 rfl rfl rfl rfl ?_
            refine w_ic dX9_isImage_207 zi_1 ?_
            refine w_add dX9_isImage_208 (by have := zt_1; omega) ?_
            intro x112 h113
            have := zt_1
            replace hb : zHd _ := hb x112.toInt (by have := zt_1; omega)
            refine w_iai dX9_isImage_209 hJ89.1 zs_387 (by omega) (by omega) zu_387 ?_
            intro x117 f114 h115 h116
            replace hb : zHd _ := hb x117.toInt (ziEk f114 rfl) h115 h116
            refine w_bi dX9_isImage_210 (c := 99) (by decide) ?_
            rcases zcut (99 : Int) x117.toInt with h118 | h118
            · skip
              replace hb : zHd _ := hb.1 h118
              refine w_cle_f dX9_isImage_212 (t := 217) rfl (by have := zt_99; omega) ?_
              refine w_ic dX9_isImage_215 zi_0 ?_
              refine w_en dX9_isImage_216 rfl ?_
              exact ⟨_, _, rfl, (by have := zt_0; omega), (by have := zt_0; omega), hJ89, hb⟩
            · skip
              replace hb : zHd _ := hb.2 h118
              refine w_cle_t dX9_isImage_212 (t := 217) rfl (by have := zt_99; omega) ?_
              refine w_inc (kk := 3) dX9_isImage_217 rfl (m := 1) (by decide) (by omega) ?_
              intro x119 h120
              refine ⟨_, rfl, ?_⟩
              replace hb : zHd _ := hb x119.toInt h120
              show ZW _ _ _ _ _ _ _ (220, [some (.ref 386), some (.int u167_1), some (.int u167_2), some (.int x119), some (.int x105)], [], M82)
              refine w_gt dX9_isImage_220 (t := 167) rfl ?_
              obtain ⟨m, hm, hI⟩ := hb
              exact (ih m hm).2.2.2 M82 u167_1 u167_2 x119 (some (.int x105)) hJ89 (by omega) (by omega) hI
        · skip
          replace hb : zHd _ := hb.2 h90
          refine w_cge_t dX9_isImage_172 (t := 223) rfl (by omega) ?_
          refine w_ic dX9_isImage_223 zi_1 ?_
          refine w_en dX9_isImage_224 rfl ?_
          exact ⟨_, _, rfl, (by have := zt_1; omega), (by have := zt_1; omega), hJ89, hb⟩
  have hb : zHd _ := hbE
  show ZW _ _ _ _ _ _ _ (0, [some (.ref 386), some (.int a0), none, none, none], [], M0)
  refine w_lo dX9_isImage_0 rfl rfl rfl rfl ?_
  refine w_ic dX9_isImage_1 zi_3 ?_
  refine w_bi dX9_isImage_2 (c := 7) (by decide) ?_
  refine w_lo dX9_isImage_4 rfl rfl rfl rfl ?_
  refine w_iv dX9_isImage_5 rfl rfl (As := []) rfl rfl hJ0.1.1 zs_386 (Nat.le_of_ble_eq_true rfl) ?_
  refine ZV.of (ini := false) rfl (Nat.le_of_ble_eq_true rfl) (by decide +kernel) ?_
  show ZW _ _ _ _ _ _ _ (0, [some (.ref 386)], [], M0)
  refine w_lo dX9_many_0 rfl rfl rfl rfl ?_
  refine w_gf dX9_many_1 rfl hJ0.1.1 zs_386 (zr_386_13 hJ0.1) ?_
  refine w_lo dX9_many_4 rfl rfl rfl rfl ?_
  refine w_gfi dX9_many_5 rfl hJ0.1 zs_386 (Nat.le_of_ble_eq_true rfl) zo_386_12 ?_
  intro x121 f122 h123 h124
  replace hb : zHd _ := hb x121.toInt (ziE f122) h123 h124
  refine w_iai dX9_many_8 hJ0.1 zs_388 (by omega) (by omega) zu_388 ?_
  intro x128 f125 h126 h127
  replace hb : zHd _ := hb x128.toInt (ziEk f125 rfl) h126 h127
  refine w_eni dX9_many_9 rfl rfl ?_
  show ZW _ _ _ _ _ _ _ (8, [some (.ref 386), some (.int a0), none, none, none], [.int x128, .int 7, .int 3, .int a0], M0)
  refine w_mulc dX9_isImage_8 zt_7 (by have := zt_7; omega) ?_
  intro x129 h130
  have := zt_7
  replace hb : zHd _ := hb x129.toInt (by have := zt_7; omega)
  refine w_add dX9_isImage_9 (by have := zt_3; omega) ?_
  intro x131 h132
  have := zt_3
  replace hb : zHd _ := hb x131.toInt (by have := zt_3; omega)
  refine w_ic dX9_isImage_10 zi_2 ?_
  refine w_lo dX9_isImage_11 rfl rfl rfl rfl ?_
  refine w_iv dX9_isImage_12 rfl rfl (As := []) rfl rfl hJ0.1.1 zs_386 (Nat.le_of_ble_eq_true rfl) ?_
  refine ZV.imp (k_2428 hN hJ0.1) ?_
  rintro _ ⟨x136, M133, rfl, h137, h138, hJ134, hq135⟩
  replace hb : zHd _ := hb x136.toInt h137 h138 (zi M133) (zi_fr hJ134.2)
  have hJ140 := zJ_trans hJ0 hJ134 zSub_nil
  show ZW _ _ _ _ _ _ _ (15, [some (.ref 386), some (.int a0), none, none, none], [.int x136, .int 2, .int x131, .int a0], M133)
  refine w_mulc dX9_isImage_15 zt_2 (by have := zt_2; omega) ?_
  intro x141 h142
  have := zt_2
  replace hb : zHd _ := hb x141.toInt (by have := zt_2; omega)
  refine w_add dX9_isImage_16 (by omega) ?_
  intro x143 h144
  replace hb : zHd _ := hb x143.toInt (by omega)
  rcases Int.decEq a0.toInt x143.toInt with h145 | h145
  · skip
    replace hb : zHd _ := hb.1 h145
    refine w_ceq_f dX9_isImage_17 (t := 22) rfl (by omega) ?_
    refine w_ic dX9_isImage_20 zi_0 ?_
    refine w_en dX9_isImage_21 rfl ?_
    exact ⟨_, _, rfl, (by have := zt_0; omega), (by have := zt_0; omega), hJ140, hb⟩
  · skip
    replace hb : zHd _ := hb.2 h145
    refine w_ceq_t dX9_isImage_17 (t := 22) rfl (by omega) ?_
    refine w_bi dX9_isImage_22 (c := 89) (by decide) ?_
    refine w_lo (ml' := [some (.ref 386), some (.int a0), some (.int 89), none, none]) dX9_isImage_24 rfl rfl rfl rfl ?_
    refine w_ic dX9_isImage_25 zi_0 ?_
    refine w_lo (ml' := [some (.ref 386), some (.int a0), some (.int 89), some (.int 0), none]) dX9_isImage_26 rfl rfl rfl rfl ?_
    obtain ⟨m, hI⟩ := hb
    exact (main m).1 M133 a0 89 0 none hJ140 (by omega) (by omega) (by have := zt_89; omega) (by have := zt_89; omega) (by have := zt_0; omega) (by have := zt_0; omega) hI
set_option maxRecDepth 100000 in
theorem u_2426 {X : List Int32} {d N : Nat} {M0 : zM}  (hN : N ≤ 600) (hB0 : zB N M0) {Q : Int → zF → Prop} (hb : b_2426 (zi M0) Q) : ZV X (d + 4) 2426 [.ref 386] M0 (zRI N [(386, 387, 1), (415, 416, 1000), (418, 432, 1000), (386, 387, 65), (386, 387, 68)] M0 (0) (1) (fun v M' => Q v.toInt (zi M'))) := by
  have hJ0 : zJ N [(386, 387, 1), (415, 416, 1000), (418, 432, 1000), (386, 387, 65), (386, 387, 68)] M0 M0 := zJ_refl hB0
  refine ZV.of (ini := false) rfl (Nat.le_of_ble_eq_true rfl) (by decide +kernel) ?_
  obtain ⟨I56, I209, hbE, hb56, hb209⟩ := hb
  replace hbE : zHd _ := hbE
  replace hb56 : zHd _ := hb56
  replace hb209 : zHd _ := hb209
  have main : ∀ n : Nat,
      (∀ (M : zM) (u56_1 : Int32) (v56_2 : Int32) (o56_3 : Option Value) (o56_4 : Option Value), zJ N [(386, 387, 1), (415, 416, 1000), (418, 432, 1000), (386, 387, 65), (386, 387, 68)] M0 M → ((0 : Int) ≤ v56_2.toInt) → (v56_2.toInt ≤ 12) → I56 n (zi M) v56_2.toInt → ZW X (d + 3) 9 false (some .boolean) cX9_on (zRI N [(386, 387, 1), (415, 416, 1000), (418, 432, 1000), (386, 387, 65), (386, 387, 68)] M0 (0) (1) (fun v M' => Q v.toInt (zi M'))) (56, [some (.ref 386), some (.int u56_1), some (.int v56_2), o56_3, o56_4], [], M)) ∧
      (∀ (M : zM) (u209_1 : Int32) (v209_2 : Int32) (o209_3 : Option Value) (o209_4 : Option Value), zJ N [(386, 387, 1), (415, 416, 1000), (418, 432, 1000), (386, 387, 65), (386, 387, 68)] M0 M → ((0 : Int) ≤ v209_2.toInt) → (v209_2.toInt ≤ 11) → I209 n (zi M) v209_2.toInt → ZW X (d + 3) 9 false (some .boolean) cX9_on (zRI N [(386, 387, 1), (415, 416, 1000), (418, 432, 1000), (386, 387, 65), (386, 387, 68)] M0 (0) (1) (fun v M' => Q v.toInt (zi M'))) (209, [some (.ref 386), some (.int u209_1), some (.int v209_2), o209_3, o209_4], [], M)) := by
    intro n
    induction n using Nat.strongRecOn with
    | _ n ih =>
      refine ⟨?_, ?_⟩
      · intro M u56_1 v56_2 o56_3 o56_4 hJ v56_20 v56_21 hI
        have hb : zHd _ := hb56 n (zi M) v56_2.toInt (zi_fr hJ.2) v56_20 v56_21 hI
        refine w_lo dX9_on_56 rfl rfl rfl rfl ?_
        refine w_lo dX9_on_57 rfl rfl rfl rfl ?_
        refine w_iv dX9_on_58 rfl rfl (As := []) rfl rfl hJ.1.1 zs_386 (Nat.le_of_ble_eq_true rfl) ?_
        refine ZV.of (ini := false) rfl (Nat.le_of_ble_eq_true rfl) (by decide +kernel) ?_
        show ZW _ _ _ _ _ _ _ (0, [some (.ref 386)], [], M)
        refine w_lo dX9_many_0 rfl rfl rfl rfl ?_
        refine w_gf dX9_many_1 rfl hJ.1.1 zs_386 (zr_386_13 hJ.1) ?_
        refine w_lo dX9_many_4 rfl rfl rfl rfl ?_
        refine w_gfi dX9_many_5 rfl hJ.1 zs_386 (Nat.le_of_ble_eq_true rfl) zo_386_12 ?_
        intro x1 f2 h3 h4
        replace hb : zHd _ := hb x1.toInt (ziE f2) h3 h4
        refine w_iai dX9_many_8 hJ.1 zs_388 (by omega) (by omega) zu_388 ?_
        intro x8 f5 h6 h7
        replace hb : zHd _ := hb x8.toInt (ziEk f5 rfl) h6 h7
        refine w_eni dX9_many_9 rfl rfl ?_
        show ZW _ _ _ _ _ _ _ (61, [some (.ref 386), some (.int u56_1), some (.int v56_2), o56_3, o56_4], [.int x8, .int v56_2], M)
        rcases zcut v56_2.toInt x8.toInt with h9 | h9
        · skip
          replace hb : zHd _ := hb.1 h9
          refine w_cge_f dX9_on_61 (t := 207) rfl (by omega) ?_
          refine w_ic dX9_on_64 zi_2 ?_
          refine w_bi dX9_on_65 (c := 7) (by decide) ?_
          refine w_lo dX9_on_67 rfl rfl rfl rfl ?_
          refine w_mulc dX9_on_68 zt_7 (by have := zt_7; omega) ?_
          intro x10 h11
          have := zt_7
          replace hb : zHd _ := hb x10.toInt (by have := zt_7; omega)
          refine w_add dX9_on_69 (by have := zt_2; omega) ?_
          intro x12 h13
          have := zt_2
          replace hb : zHd _ := hb x12.toInt (by have := zt_2; omega)
          refine w_lo (ml' := [some (.ref 386), some (.int u56_1), some (.int v56_2), some (.int x12), o56_4]) dX9_on_70 rfl rfl rfl rfl ?_
          refine w_lo dX9_on_71 rfl rfl rfl rfl ?_
          refine w_gf dX9_on_72 rfl hJ.1.1 zs_386 (zr_386_0 hJ.1) ?_
          refine w_lo dX9_on_75 rfl rfl rfl rfl ?_
          refine w_iai dX9_on_76 hJ.1 zs_387 (by omega) (by omega) zu_387 ?_
          intro x17 f14 h15 h16
          replace hb : zHd _ := hb x17.toInt (ziEk f14 rfl) h15 h16
          refine w_lo (ml' := [some (.ref 386), some (.int u56_1), some (.int v56_2), some (.int x12), some (.int x17)]) dX9_on_77 rfl rfl rfl rfl ?_
          refine w_lo dX9_on_79 rfl rfl rfl rfl ?_
          refine w_lo dX9_on_80 rfl rfl rfl rfl ?_
          refine w_iv dX9_on_82 rfl rfl (As := [.int x17]) rfl rfl hJ.1.1 zs_386 (Nat.le_of_ble_eq_true rfl) ?_
          refine ZV.imp (k_2342 x17 (by omega) (by omega) hN hJ.1) ?_
          rintro _ ⟨M18, rfl, hJ19, hq20⟩
          replace hb : zHd _ := hb  (zi M18) (zi_fr hJ19.2)
          have hJ22 := zJ_trans hJ hJ19 (zSub_cons (fun _ _ h h' hk => zIR_s (zIR_s (zIR_a (by omega) (by omega)))) (zSub_cons (fun _ _ h h' hk => zIR_s (zIR_s (zIR_a (by omega) (by omega)))) zSub_nil))
          show ZW _ _ _ _ _ _ _ (85, [some (.ref 386), some (.int u56_1), some (.int v56_2), some (.int x12), some (.int x17)], [], M18)
          refine w_lo dX9_on_85 rfl rfl rfl rfl ?_
          refine w_gf dX9_on_86 rfl hJ22.1.1 zs_386 (zr_386_50 hJ22.1) ?_
          refine w_lo dX9_on_89 rfl rfl rfl rfl ?_
          refine w_lo dX9_on_90 rfl rfl rfl rfl ?_
          have h23 := hb.1
          replace hb : zHd _ := hb.2
          refine w_isi dX9_on_92 hJ22 zs_419 (by omega) (by omega) zu_419 (by omega) (by omega) (zIR_s (zIR_s (zIR_a (by omega) (by omega)))) ?_
          intro M24 hJ25 f26 hn27
          replace hb : zHd _ := hb (zi M24) (zi_zup hn27 f26 rfl rfl)
          refine w_lo dX9_on_93 rfl rfl rfl rfl ?_
          refine w_gf dX9_on_94 rfl hJ25.1.1 zs_386 (zr_386_51 hJ25.1) ?_
          refine w_lo dX9_on_97 rfl rfl rfl rfl ?_
          refine w_lo dX9_on_99 rfl rfl rfl rfl ?_
          refine w_gf dX9_on_100 rfl hJ25.1.1 zs_386 (zr_386_0 hJ25.1) ?_
          refine w_lo dX9_on_103 rfl rfl rfl rfl ?_
          refine w_ic dX9_on_104 zi_1 ?_
          refine w_add dX9_on_105 (by have := zt_1; omega) ?_
          intro x29 h30
          have := zt_1
          replace hb : zHd _ := hb x29.toInt (by have := zt_1; omega)
          refine w_iai dX9_on_106 hJ25.1 zs_387 (by omega) (by omega) zu_387 ?_
          intro x34 f31 h32 h33
          replace hb : zHd _ := hb x34.toInt (ziEk f31 rfl) h32 h33
          refine w_isi dX9_on_107 hJ25 zs_420 (by omega) (by omega) zu_420 (by omega) (by omega) (zIR_s (zIR_s (zIR_a (by omega) (by omega)))) ?_
          intro M35 hJ36 f37 hn38
          replace hb : zHd _ := hb (zi M35) (zi_zup hn38 f37 rfl rfl)
          refine w_lo dX9_on_108 rfl rfl rfl rfl ?_
          refine w_gf dX9_on_109 rfl hJ36.1.1 zs_386 (zr_386_52 hJ36.1) ?_
          refine w_lo dX9_on_112 rfl rfl rfl rfl ?_
          refine w_lo dX9_on_114 rfl rfl rfl rfl ?_
          refine w_gf dX9_on_115 rfl hJ36.1.1 zs_386 (zr_386_0 hJ36.1) ?_
          refine w_lo dX9_on_118 rfl rfl rfl rfl ?_
          refine w_ic dX9_on_119 zi_2 ?_
          refine w_add dX9_on_120 (by have := zt_2; omega) ?_
          intro x40 h41
          have := zt_2
          replace hb : zHd _ := hb x40.toInt (by have := zt_2; omega)
          refine w_iai dX9_on_121 hJ36.1 zs_387 (by omega) (by omega) zu_387 ?_
          intro x45 f42 h43 h44
          replace hb : zHd _ := hb x45.toInt (ziEk f42 rfl) h43 h44
          refine w_ic dX9_on_122 zi_1 ?_
          refine w_sub dX9_on_123 (by have := zt_1; omega) ?_
          intro x46 h47
          have := zt_1
          replace hb : zHd _ := hb x46.toInt (by have := zt_1; omega)
          have h48 := hb.1
          replace hb : zHd _ := hb.2
          refine w_isi dX9_on_124 hJ36 zs_421 (by omega) (by omega) zu_421 (by omega) (by omega) (zIR_s (zIR_s (zIR_a (by omega) (by omega)))) ?_
          intro M49 hJ50 f51 hn52
          replace hb : zHd _ := hb (zi M49) (zi_zup hn52 f51 rfl rfl)
          refine w_lo dX9_on_125 rfl rfl rfl rfl ?_
          refine w_gf dX9_on_126 rfl hJ50.1.1 zs_386 (zr_386_53 hJ50.1) ?_
          refine w_lo dX9_on_129 rfl rfl rfl rfl ?_
          refine w_lo dX9_on_131 rfl rfl rfl rfl ?_
          refine w_gf dX9_on_132 rfl hJ50.1.1 zs_386 (zr_386_0 hJ50.1) ?_
          refine w_lo dX9_on_135 rfl rfl rfl rfl ?_
          refine w_ic dX9_on_136 zi_3 ?_
          refine w_add dX9_on_137 (by have := zt_3; omega) ?_
          intro x54 h55
          have := zt_3
          replace hb : zHd _ := hb x54.toInt (by have := zt_3; omega)
          refine w_iai dX9_on_138 hJ50.1 zs_387 (by omega) (by omega) zu_387 ?_
          intro x59 f56 h57 h58
          replace hb : zHd _ := hb x59.toInt (ziEk f56 rfl) h57 h58
          refine w_isi dX9_on_139 hJ50 zs_422 (by omega) (by omega) zu_422 (zbot _) (ztop _) (zIR_s (zIR_s (zIR_a (by omega) (by omega)))) ?_
          intro M60 hJ61 f62 hn63
          replace hb : zHd _ := hb (zi M60) (zi_zup hn63 f62 rfl rfl)
          refine w_lo dX9_on_140 rfl rfl rfl rfl ?_
          refine w_gf dX9_on_141 rfl hJ61.1.1 zs_386 (zr_386_54 hJ61.1) ?_
          refine w_lo dX9_on_144 rfl rfl rfl rfl ?_
          refine w_lo dX9_on_146 rfl rfl rfl rfl ?_
          refine w_gf dX9_on_147 rfl hJ61.1.1 zs_386 (zr_386_0 hJ61.1) ?_
          refine w_lo dX9_on_150 rfl rfl rfl rfl ?_
          refine w_ic dX9_on_151 zi_4 ?_
          refine w_add dX9_on_152 (by have := zt_4; omega) ?_
          intro x65 h66
          have := zt_4
          replace hb : zHd _ := hb x65.toInt (by have := zt_4; omega)
          refine w_iai dX9_on_153 hJ61.1 zs_387 (by omega) (by omega) zu_387 ?_
          intro x70 f67 h68 h69
          replace hb : zHd _ := hb x70.toInt (ziEk f67 rfl) h68 h69
          refine w_ic dX9_on_154 zi_1 ?_
          refine w_sub dX9_on_155 (by have := zt_1; omega) ?_
          intro x71 h72
          have := zt_1
          replace hb : zHd _ := hb x71.toInt (by have := zt_1; omega)
          have h73 := hb.1
          replace hb : zHd _ := hb.2
          refine w_isi dX9_on_156 hJ61 zs_423 (by omega) (by omega) zu_423 (by omega) (by omega) (zIR_s (zIR_s (zIR_a (by omega) (by omega)))) ?_
          intro M74 hJ75 f76 hn77
          replace hb : zHd _ := hb (zi M74) (zi_zup hn77 f76 rfl rfl)
          refine w_lo dX9_on_157 rfl rfl rfl rfl ?_
          refine w_gf dX9_on_158 rfl hJ75.1.1 zs_386 (zr_386_57 hJ75.1) ?_
          refine w_lo dX9_on_161 rfl rfl rfl rfl ?_
          refine w_lo dX9_on_163 rfl rfl rfl rfl ?_
          refine w_gf dX9_on_164 rfl hJ75.1.1 zs_386 (zr_386_0 hJ75.1) ?_
          refine w_lo dX9_on_167 rfl rfl rfl rfl ?_
          refine w_ic dX9_on_168 zi_5 ?_
          refine w_add dX9_on_169 (by have := zt_5; omega) ?_
          intro x79 h80
          have := zt_5
          replace hb : zHd _ := hb x79.toInt (by have := zt_5; omega)
          refine w_iai dX9_on_170 hJ75.1 zs_387 (by omega) (by omega) zu_387 ?_
          intro x84 f81 h82 h83
          replace hb : zHd _ := hb x84.toInt (ziEk f81 rfl) h82 h83
          refine w_bi dX9_on_171 (c := 8) (by decide) ?_
          refine w_puI dX9_on_173 rfl rfl ?_
          intro x85
          replace hb : zHd _ := hb x85.toInt 
          refine w_lo dX9_on_174 rfl rfl rfl rfl ?_
          refine w_gf dX9_on_175 rfl hJ75.1.1 zs_386 (zr_386_0 hJ75.1) ?_
          refine w_lo dX9_on_178 rfl rfl rfl rfl ?_
          refine w_bi dX9_on_179 (c := 6) (by decide) ?_
          refine w_add dX9_on_181 (by have := zt_6; omega) ?_
          intro x86 h87
          have := zt_6
          replace hb : zHd _ := hb x86.toInt (by have := zt_6; omega)
          refine w_iai dX9_on_182 hJ75.1 zs_387 (by omega) (by omega) zu_387 ?_
          intro x91 f88 h89 h90
          replace hb : zHd _ := hb x91.toInt (ziEk f88 rfl) h89 h90
          refine w_puI dX9_on_183 rfl rfl ?_
          intro x92
          replace hb : zHd _ := hb x92.toInt 
          refine w_isi dX9_on_184 hJ75 zs_426 (by omega) (by omega) zu_426 (zbot _) (ztop _) (zIR_s (zIR_s (zIR_a (by omega) (by omega)))) ?_
          intro M93 hJ94 f95 hn96
          replace hb : zHd _ := hb (zi M93) (zi_zup hn96 f95 rfl rfl)
          refine w_lo dX9_on_185 rfl rfl rfl rfl ?_
          refine w_gf dX9_on_186 rfl hJ94.1.1 zs_386 (zr_386_55 hJ94.1) ?_
          refine w_lo dX9_on_189 rfl rfl rfl rfl ?_
          refine w_ic dX9_on_191 zi_m1 ?_
          refine w_isi dX9_on_192 hJ94 zs_424 (by omega) (by omega) zu_424 (zbot _) (ztop _) (zIR_s (zIR_s (zIR_a (by omega) (by omega)))) ?_
          intro M98 hJ99 f100 hn101
          replace hb : zHd _ := hb (zi M98) (zi_zup hn101 f100 rfl zt_m1)
          refine w_lo dX9_on_193 rfl rfl rfl rfl ?_
          refine w_gf dX9_on_194 rfl hJ99.1.1 zs_386 (zr_386_56 hJ99.1) ?_
          refine w_lo dX9_on_197 rfl rfl rfl rfl ?_
          refine w_ic dX9_on_199 zi_m1 ?_
          refine w_isi dX9_on_200 hJ99 zs_425 (by omega) (by omega) zu_425 (by have := zt_m1; omega) (by have := zt_m1; omega) (zIR_s (zIR_s (zIR_a (by omega) (by omega)))) ?_
          intro M103 hJ104 f105 hn106
          replace hb : zHd _ := hb (zi M103) (zi_zup hn106 f105 rfl zt_m1)
          refine w_inc (kk := 2) dX9_on_201 rfl (m := 1) (by decide) (by omega) ?_
          intro x108 h109
          refine ⟨_, rfl, ?_⟩
          replace hb : zHd _ := hb x108.toInt h109
          show ZW _ _ _ _ _ _ _ (204, [some (.ref 386), some (.int u56_1), some (.int x108), some (.int x12), some (.int x17)], [], M103)
          refine w_gt dX9_on_204 (t := 56) rfl ?_
          obtain ⟨m, hm, hI⟩ := hb
          exact (ih m hm).1 M103 u56_1 x108 (some (.int x12)) (some (.int x17)) hJ104 (by omega) (by omega) hI
        · skip
          replace hb : zHd _ := hb.2 h9
          refine w_cge_t dX9_on_61 (t := 207) rfl (by omega) ?_
          refine w_ic dX9_on_207 zi_0 ?_
          refine w_lo (ml' := [some (.ref 386), some (.int u56_1), some (.int 0), o56_3, o56_4]) dX9_on_208 rfl rfl rfl rfl ?_
          obtain ⟨m, hm, hI⟩ := hb
          exact (ih m hm).2 M u56_1 0 o56_3 o56_4 hJ (by have := zt_0; omega) (by have := zt_0; omega) hI
      · intro M u209_1 v209_2 o209_3 o209_4 hJ v209_20 v209_21 hI
        have hb : zHd _ := hb209 n (zi M) v209_2.toInt (zi_fr hJ.2) v209_20 v209_21 hI
        refine w_lo dX9_on_209 rfl rfl rfl rfl ?_
        refine w_lo dX9_on_210 rfl rfl rfl rfl ?_
        refine w_iv dX9_on_211 rfl rfl (As := []) rfl rfl hJ.1.1 zs_386 (Nat.le_of_ble_eq_true rfl) ?_
        refine ZV.imp (k_2428 hN hJ.1) ?_
        rintro _ ⟨x113, M110, rfl, h114, h115, hJ111, hq112⟩
        replace hb : zHd _ := hb x113.toInt h114 h115 (zi M110) (zi_fr hJ111.2)
        have hJ117 := zJ_trans hJ hJ111 zSub_nil
        show ZW _ _ _ _ _ _ _ (214, [some (.ref 386), some (.int u209_1), some (.int v209_2), o209_3, o209_4], [.int x113, .int v209_2], M110)
        rcases zcut v209_2.toInt x113.toInt with h118 | h118
        · skip
          replace hb : zHd _ := hb.1 h118
          refine w_cge_f dX9_on_214 (t := 271) rfl (by omega) ?_
          refine w_lo dX9_on_217 rfl rfl rfl rfl ?_
          refine w_gf dX9_on_218 rfl hJ117.1.1 zs_386 (zr_386_60 hJ117.1) ?_
          refine w_lo dX9_on_221 rfl rfl rfl rfl ?_
          refine w_lo dX9_on_222 rfl rfl rfl rfl ?_
          refine w_gf dX9_on_223 rfl hJ117.1.1 zs_386 (zr_386_0 hJ117.1) ?_
          refine w_ic dX9_on_226 zi_2 ?_
          refine w_bi dX9_on_227 (c := 7) (by decide) ?_
          refine w_lo dX9_on_229 rfl rfl rfl rfl ?_
          refine w_iv dX9_on_230 rfl rfl (As := []) rfl rfl hJ117.1.1 zs_386 (Nat.le_of_ble_eq_true rfl) ?_
          refine ZV.of (ini := false) rfl (Nat.le_of_ble_eq_true rfl) (by decide +kernel) ?_
          show ZW _ _ _ _ _ _ _ (0, [some (.ref 386)], [], M110)
          refine w_lo dX9_many_0 rfl rfl rfl rfl ?_
          refine w_gf dX9_many_1 rfl hJ117.1.1 zs_386 (zr_386_13 hJ117.1) ?_
          refine w_lo dX9_many_4 rfl rfl rfl rfl ?_
          refine w_gfi dX9_many_5 rfl hJ117.1 zs_386 (Nat.le_of_ble_eq_true rfl) zo_386_12 ?_
          intro x119 f120 h121 h122
          replace hb : zHd _ := hb x119.toInt (ziE f120) h121 h122
          refine w_iai dX9_many_8 hJ117.1 zs_388 (by omega) (by omega) zu_388 ?_
          intro x126 f123 h124 h125
          replace hb : zHd _ := hb x126.toInt (ziEk f123 rfl) h124 h125
          refine w_eni dX9_many_9 rfl rfl ?_
          show ZW _ _ _ _ _ _ _ (233, [some (.ref 386), some (.int u209_1), some (.int v209_2), o209_3, o209_4], [.int x126, .int 7, .int 2, .ref 387, .int v209_2, .ref 429], M110)
          refine w_mulc dX9_on_233 zt_7 (by have := zt_7; omega) ?_
          intro x127 h128
          have := zt_7
          replace hb : zHd _ := hb x127.toInt (by have := zt_7; omega)
          refine w_add dX9_on_234 (by have := zt_2; omega) ?_
          intro x129 h130
          have := zt_2
          replace hb : zHd _ := hb x129.toInt (by have := zt_2; omega)
          refine w_ic dX9_on_235 zi_2 ?_
          refine w_lo dX9_on_236 rfl rfl rfl rfl ?_
          refine w_mulc dX9_on_237 zt_2 (by have := zt_2; omega) ?_
          intro x131 h132
          have := zt_2
          replace hb : zHd _ := hb x131.toInt (by have := zt_2; omega)
          refine w_add dX9_on_238 (by omega) ?_
          intro x133 h134
          replace hb : zHd _ := hb x133.toInt (by omega)
          refine w_iai dX9_on_239 hJ117.1 zs_387 (by omega) (by omega) zu_387 ?_
          intro x138 f135 h136 h137
          replace hb : zHd _ := hb x138.toInt (ziEk f135 rfl) h136 h137
          refine w_isi dX9_on_240 hJ117 zs_429 (by omega) (by omega) zu_429 (by omega) (by omega) (zIR_s (zIR_s (zIR_a (by omega) (by omega)))) ?_
          intro M139 hJ140 f141 hn142
          replace hb : zHd _ := hb (zi M139) (zi_zup hn142 f141 rfl rfl)
          refine w_lo dX9_on_241 rfl rfl rfl rfl ?_
          refine w_gf dX9_on_242 rfl hJ140.1.1 zs_386 (zr_386_61 hJ140.1) ?_
          refine w_lo dX9_on_245 rfl rfl rfl rfl ?_
          refine w_lo dX9_on_246 rfl rfl rfl rfl ?_
          refine w_gf dX9_on_247 rfl hJ140.1.1 zs_386 (zr_386_0 hJ140.1) ?_
          refine w_ic dX9_on_250 zi_3 ?_
          refine w_bi dX9_on_251 (c := 7) (by decide) ?_
          refine w_lo dX9_on_253 rfl rfl rfl rfl ?_
          refine w_iv dX9_on_254 rfl rfl (As := []) rfl rfl hJ140.1.1 zs_386 (Nat.le_of_ble_eq_true rfl) ?_
          refine ZV.of (ini := false) rfl (Nat.le_of_ble_eq_true rfl) (by decide +kernel) ?_
          show ZW _ _ _ _ _ _ _ (0, [some (.ref 386)], [], M139)
          refine w_lo dX9_many_0 rfl rfl rfl rfl ?_
          refine w_gf dX9_many_1 rfl hJ140.1.1 zs_386 (zr_386_13 hJ140.1) ?_
          refine w_lo dX9_many_4 rfl rfl rfl rfl ?_
          have f144 := (hn142 (386) 12 (Or.inl (by omega))).trans (f120)
          refine w_gf dX9_many_5 rfl hJ140.1.1 zs_386 f144 ?_
          have f148 := (hn142 (388) (x119 : Int32).toInt.toNat (Or.inl (by omega))).trans (f123)
          refine w_ia dX9_many_8 hJ140.1.1 zs_388 (znat (by omega)) f148 ?_
          refine w_eni dX9_many_9 rfl rfl ?_
          show ZW _ _ _ _ _ _ _ (257, [some (.ref 386), some (.int u209_1), some (.int v209_2), o209_3, o209_4], [.int x126, .int 7, .int 3, .ref 387, .int v209_2, .ref 430], M139)
          refine w_mulc dX9_on_257 zt_7 (by have := zt_7; omega) ?_
          intro x149 h150
          have := zt_7
          replace hb : zHd _ := hb x149.toInt (by have := zt_7; omega)
          refine w_add dX9_on_258 (by have := zt_3; omega) ?_
          intro x151 h152
          have := zt_3
          replace hb : zHd _ := hb x151.toInt (by have := zt_3; omega)
          refine w_ic dX9_on_259 zi_2 ?_
          refine w_lo dX9_on_260 rfl rfl rfl rfl ?_
          refine w_mulc dX9_on_261 zt_2 (by have := zt_2; omega) ?_
          intro x153 h154
          have := zt_2
          replace hb : zHd _ := hb x153.toInt (by have := zt_2; omega)
          refine w_add dX9_on_262 (by omega) ?_
          intro x155 h156
          replace hb : zHd _ := hb x155.toInt (by omega)
          refine w_iai dX9_on_263 hJ140.1 zs_387 (by omega) (by omega) zu_387 ?_
          intro x160 f157 h158 h159
          replace hb : zHd _ := hb x160.toInt (ziEk f157 rfl) h158 h159
          refine w_isi dX9_on_264 hJ140 zs_430 (by omega) (by omega) zu_430 (zbot _) (ztop _) (zIR_s (zIR_s (zIR_a (by omega) (by omega)))) ?_
          intro M161 hJ162 f163 hn164
          replace hb : zHd _ := hb (zi M161) (zi_zup hn164 f163 rfl rfl)
          refine w_inc (kk := 2) dX9_on_265 rfl (m := 1) (by decide) (by omega) ?_
          intro x166 h167
          refine ⟨_, rfl, ?_⟩
          replace hb : zHd _ := hb x166.toInt h167
          show ZW _ _ _ _ _ _ _ (268, [some (.ref 386), some (.int u209_1), some (.int x166), o209_3, o209_4], [], M161)
          refine w_gt dX9_on_268 (t := 209) rfl ?_
          obtain ⟨m, hm, hI⟩ := hb
          exact (ih m hm).2 M161 u209_1 x166 o209_3 o209_4 hJ162 (by omega) (by omega) hI
        · skip
          replace hb : zHd _ := hb.2 h118
          refine w_cge_t dX9_on_214 (t := 271) rfl (by omega) ?_
          refine w_lo dX9_on_271 rfl rfl rfl rfl ?_
          refine w_gf dX9_on_272 rfl hJ117.1.1 zs_386 (zr_386_62 hJ117.1) ?_
          refine w_ic dX9_on_275 zi_0 ?_
          refine w_ic dX9_on_276 zi_0 ?_
          refine w_isi dX9_on_277 hJ117 zs_431 (by have := zt_0; omega) (by have := zt_0; omega) zu_431 (by have := zt_0; omega) (by have := zt_0; omega) (zIR_s (zIR_s (zIR_a (by omega) (by omega)))) ?_
          intro M168 hJ169 f170 hn171
          replace hb : zHd _ := hb (zi M168) (zi_zup hn171 f170 (by decide) zt_0)
          refine w_lo dX9_on_278 rfl rfl rfl rfl ?_
          refine w_ic dX9_on_279 zi_0 ?_
          refine w_pfi dX9_on_280 rfl hJ169 zs_386 (Nat.le_of_ble_eq_true rfl) zo_386_65 (by have := zt_0; omega) (by have := zt_0; omega) (zIR_s (zIR_s (zIR_s (zIR_k (by omega) (by omega))))) rfl rfl rfl ?_
          intro M173 hJ174 f175 hn176
          replace hb : zHd _ := hb (zi M173) (zi_zup hn176 f175 rfl zt_0)
          refine w_lo dX9_on_283 rfl rfl rfl rfl ?_
          refine w_ic dX9_on_284 zi_0 ?_
          refine w_pfi dX9_on_285 rfl hJ174 zs_386 (Nat.le_of_ble_eq_true rfl) zo_386_68 (by have := zt_0; omega) (by have := zt_0; omega) (zIR_s (zIR_s (zIR_s (zIR_s (zIR_k (by omega) (by omega)))))) rfl rfl rfl ?_
          intro M178 hJ179 f180 hn181
          replace hb : zHd _ := hb (zi M178) (zi_zup hn181 f180 rfl zt_0)
          refine w_ic dX9_on_288 zi_1 ?_
          refine w_en dX9_on_289 rfl ?_
          exact ⟨_, _, rfl, (by have := zt_1; omega), (by have := zt_1; omega), hJ179, hb⟩
  have hb : zHd _ := hbE
  show ZW _ _ _ _ _ _ _ (0, [some (.ref 386), none, none, none, none], [], M0)
  refine w_lo dX9_on_0 rfl rfl rfl rfl ?_
  refine w_gfi dX9_on_1 rfl hJ0.1 zs_386 (Nat.le_of_ble_eq_true rfl) zo_386_1 ?_
  intro x183 f184 h185 h186
  replace hb : zHd _ := hb x183.toInt (ziE f184) h185 h186
  refine w_lo (ml' := [some (.ref 386), some (.int x183), none, none, none]) dX9_on_4 rfl rfl rfl rfl ?_
  refine w_lo dX9_on_5 rfl rfl rfl rfl ?_
  refine w_ic dX9_on_6 zi_0 ?_
  refine w_pfi dX9_on_7 rfl hJ0 zs_386 (Nat.le_of_ble_eq_true rfl) zo_386_1 (by have := zt_0; omega) (by have := zt_0; omega) (zIR_k (by omega) (by omega)) rfl rfl rfl ?_
  intro M187 hJ188 f189 hn190
  replace hb : zHd _ := hb (zi M187) (zi_zup hn190 f189 rfl zt_0)
  refine w_lo dX9_on_10 rfl rfl rfl rfl ?_
  refine w_lo dX9_on_11 rfl rfl rfl rfl ?_
  refine w_iv dX9_on_12 rfl rfl (As := [.int x183]) rfl rfl hJ188.1.1 zs_386 (Nat.le_of_ble_eq_true rfl) ?_
  obtain ⟨P194, hp195, hb⟩ := hb
  replace hb : zHd _ := hb
  refine ZV.imp (u_2427 x183 (by omega) (by omega) hN hJ188.1 hp195) ?_
  rintro _ ⟨x197, M192, rfl, h198, h199, hJ193, hq196⟩
  replace hb : zHd _ := hb x197.toInt h198 h199 (zi M192) (zi_fr hJ193.2) hq196
  have hJ201 := zJ_trans hJ188 hJ193 zSub_nil
  show ZW _ _ _ _ _ _ _ (15, [some (.ref 386), some (.int x183), none, none, none], [.int x197], M192)
  rcases Int.decEq x197.toInt (0 : Int) with h202 | h202
  · skip
    replace hb : zHd _ := hb.1 h202
    refine w_ine_t dX9_on_15 (t := 32) rfl (by omega) ?_
    refine w_lo dX9_on_32 rfl rfl rfl rfl ?_
    refine w_gf dX9_on_33 rfl hJ201.1.1 zs_386 (zr_386_49 hJ201.1) ?_
    refine w_ic dX9_on_36 zi_0 ?_
    refine w_lo dX9_on_37 rfl rfl rfl rfl ?_
    refine w_gf dX9_on_38 rfl hJ201.1.1 zs_386 (zr_386_0 hJ201.1) ?_
    refine w_ic dX9_on_41 zi_0 ?_
    refine w_iai dX9_on_42 hJ201.1 zs_387 (by have := zt_0; omega) (by have := zt_0; omega) zu_387 ?_
    intro x206 f203 h204 h205
    replace hb : zHd _ := hb x206.toInt (ziEk f203 (by decide)) h204 h205
    refine w_bi dX9_on_43 (c := 8) (by decide) ?_
    refine w_puI dX9_on_45 rfl rfl ?_
    intro x207
    replace hb : zHd _ := hb x207.toInt 
    refine w_lo dX9_on_46 rfl rfl rfl rfl ?_
    refine w_gf dX9_on_47 rfl hJ201.1.1 zs_386 (zr_386_0 hJ201.1) ?_
    refine w_ic dX9_on_50 zi_1 ?_
    refine w_iai dX9_on_51 hJ201.1 zs_387 (by have := zt_1; omega) (by have := zt_1; omega) zu_387 ?_
    intro x211 f208 h209 h210
    replace hb : zHd _ := hb x211.toInt (ziEk f208 (by decide)) h209 h210
    refine w_puI dX9_on_52 rfl rfl ?_
    intro x212
    replace hb : zHd _ := hb x212.toInt 
    refine w_isi dX9_on_53 hJ201 zs_418 (by have := zt_0; omega) (by have := zt_0; omega) zu_418 (zbot _) (ztop _) (zIR_s (zIR_s (zIR_a (by omega) (by omega)))) ?_
    intro M213 hJ214 f215 hn216
    replace hb : zHd _ := hb (zi M213) (zi_zup hn216 f215 (by decide) rfl)
    refine w_ic dX9_on_54 zi_0 ?_
    refine w_lo (ml' := [some (.ref 386), some (.int x183), some (.int 0), none, none]) dX9_on_55 rfl rfl rfl rfl ?_
    obtain ⟨m, hI⟩ := hb
    exact (main m).1 M213 x183 0 none none hJ214 (by have := zt_0; omega) (by have := zt_0; omega) hI
  · skip
    replace hb : zHd _ := hb.2 h202
    refine w_ine_f dX9_on_15 (t := 32) rfl (by omega) ?_
    refine w_lo dX9_on_18 rfl rfl rfl rfl ?_
    refine w_ic dX9_on_19 zi_5 ?_
    refine w_iv dX9_on_20 rfl rfl (As := [.int 5]) rfl rfl hJ201.1.1 zs_386 (Nat.le_of_ble_eq_true rfl) ?_
    refine ZV.imp (k_2306 5 (by have := zt_5; omega) (by have := zt_5; omega) hN hJ201.1) ?_
    rintro _ ⟨x221, M218, rfl, h222, h223, hJ219, hq220⟩
    replace hb : zHd _ := hb x221.toInt h222 h223 (zi M218) (zi_fr hJ219.2)
    have hJ225 := zJ_trans hJ201 hJ219 (zSub_cons (fun _ _ h h' hk => zIR_s (zIR_a (by omega) (by omega))) zSub_nil)
    show ZW _ _ _ _ _ _ _ (23, [some (.ref 386), some (.int x183), none, none, none], [.int x221], M218)
    refine w_ilt_t dX9_on_23 (t := 30) rfl (by omega) ?_
    refine w_ic dX9_on_30 zi_0 ?_
    refine w_en dX9_on_31 rfl ?_
    exact ⟨_, _, rfl, (by have := zt_0; omega), (by have := zt_0; omega), hJ225, hb⟩
theorem k_2370 {X : List Int32} {d N : Nat} {M0 : zM} (a0 : Int32) (ha00 : (0 : Int) ≤ a0.toInt) (ha01 : a0.toInt ≤ 1) (a1 : Int32) (ha10 : (1 : Int) ≤ a1.toInt) (ha11 : a1.toInt ≤ 2147483647) (a2 : Int32) (hN : N ≤ 600) (hB0 : zB N M0) (hP0 : zIa (zi M0)) : ZV X (d + 4) 2370 [.ref 386, .int a0, .int a1, .int a2] M0 (zRI N [(416, 417, 1000)] M0 (-2147483648) (2147483647) (fun _ _ => True)) := ZV.imp (u_2370 a0 ha00 ha01 a1 ha10 ha11 a2 hN hB0 (v_2370 hP0)) (fun r ⟨v, M1, h1, h2, h3, h4, h5⟩ => ⟨v, M1, h1, h2, h3, h4, trivial⟩)
set_option maxRecDepth 100000 in
theorem k_2364 {X : List Int32} {d N : Nat} {M0 : zM} (a0 : Int32) (ha00 : (0 : Int) ≤ a0.toInt) (ha01 : a0.toInt ≤ 11) (a1 : Int32) (ha10 : (1 : Int) ≤ a1.toInt) (ha11 : a1.toInt ≤ 2147483647) (hN : N ≤ 600) (hB0 : zB N M0) (hP0 : zIa (zi M0)) : ZV X (d + 5) 2364 [.ref 386, .int a0, .int a1] M0 (zRI N [(416, 418, 1000)] M0 (-2147483648) (2147483647) (fun _ _ => True)) := by
  have hJ0 : zJ N [(416, 418, 1000)] M0 M0 := zJ_refl hB0
  refine ZV.of (ini := false) rfl (Nat.le_of_ble_eq_true rfl) (by decide +kernel) ?_
  show ZW _ _ _ _ _ _ _ (0, [some (.ref 386), some (.int a0), some (.int a1), none], [], M0)
  refine w_lo dX9_passedOf_0 rfl rfl rfl rfl ?_
  refine w_lo dX9_passedOf_1 rfl rfl rfl rfl ?_
  refine w_gf dX9_passedOf_2 rfl hJ0.1.1 zs_386 (zr_386_69 hJ0.1) ?_
  refine w_lo dX9_passedOf_5 rfl rfl rfl rfl ?_
  refine w_iai dX9_passedOf_6 hJ0.1 zs_434 (by omega) (by omega) zu_434 ?_
  intro x4 f1 h2 h3
  refine w_iv dX9_passedOf_7 rfl rfl (As := [.int x4]) rfl rfl hJ0.1.1 zs_386 (Nat.le_of_ble_eq_true rfl) ?_
  refine ZV.of (ini := false) rfl (Nat.le_of_ble_eq_true rfl) (by decide +kernel) ?_
  show ZW _ _ _ _ _ _ _ (0, [some (.ref 386), some (.int x4)], [], M0)
  refine w_lo dX9_isGhost_0 rfl rfl rfl rfl ?_
  refine w_gf dX9_isGhost_1 rfl hJ0.1.1 zs_386 (zr_386_19 hJ0.1) ?_
  refine w_bi dX9_isGhost_4 (c := 12) (by decide) ?_
  refine w_lo dX9_isGhost_6 rfl rfl rfl rfl ?_
  refine w_gfi dX9_isGhost_7 rfl hJ0.1 zs_386 (Nat.le_of_ble_eq_true rfl) zo_386_12 ?_
  intro x5 f6 h7 h8
  refine w_mulc dX9_isGhost_10 zt_12 (by have := zt_12; omega) ?_
  intro x9 h10
  have := zt_12
  refine w_lo dX9_isGhost_11 rfl rfl rfl rfl ?_
  refine w_add dX9_isGhost_12 (by omega) ?_
  intro x11 h12
  refine w_iai dX9_isGhost_13 hJ0.1 zs_394 (by omega) (by omega) zu_394 ?_
  intro x16 f13 h14 h15
  refine w_ic dX9_isGhost_14 zi_2 ?_
  refine w_and dX9_isGhost_15 (m := 2) zt_2 (by omega) ?_
  intro x17 h18 h19
  rcases Int.decEq x17.toInt (0 : Int) with h20 | h20
  · skip
    refine w_ieq_f dX9_isGhost_16 (t := 23) rfl (by omega) ?_
    refine w_ic dX9_isGhost_19 zi_1 ?_
    refine w_gt dX9_isGhost_20 (t := 24) rfl ?_
    refine w_en dX9_isGhost_24 rfl ?_
    show ZW _ _ _ _ _ _ _ (10, [some (.ref 386), some (.int a0), some (.int a1), none], [.int 1], M0)
    refine w_ieq_f dX9_passedOf_10 (t := 15) rfl (by have := zt_1; omega) ?_
    refine w_lo dX9_passedOf_13 rfl rfl rfl rfl ?_
    refine w_eni dX9_passedOf_14 rfl rfl ?_
    exact ⟨_, _, rfl, (zbot _), (ztop _), hJ0, trivial⟩
  · skip
    refine w_ieq_t dX9_isGhost_16 (t := 23) rfl (by omega) ?_
    refine w_ic dX9_isGhost_23 zi_0 ?_
    refine w_en dX9_isGhost_24 rfl ?_
    show ZW _ _ _ _ _ _ _ (10, [some (.ref 386), some (.int a0), some (.int a1), none], [.int 0], M0)
    refine w_ieq_t dX9_passedOf_10 (t := 15) rfl (by have := zt_0; omega) ?_
    refine w_lo dX9_passedOf_15 rfl rfl rfl rfl ?_
    refine w_lo dX9_passedOf_16 rfl rfl rfl rfl ?_
    refine w_lo dX9_passedOf_17 rfl rfl rfl rfl ?_
    refine w_iv dX9_passedOf_18 rfl rfl (As := [.int a0, .int a1]) rfl rfl hJ0.1.1 zs_386 (Nat.le_of_ble_eq_true rfl) ?_
    refine ZV.imp (k_2366 a0 (by omega) (by omega) a1 (by omega) (ztop _) hN hJ0.1) ?_
    rintro _ ⟨M21, rfl, hJ22, hq23⟩
    have hJ24 := zJ_trans hJ0 hJ22 (zSub_cons (fun _ _ h h' hk => zIR_a (by omega) (by omega)) zSub_nil)
    show ZW _ _ _ _ _ _ _ (21, [some (.ref 386), some (.int a0), some (.int a1), none], [], M21)
    refine w_lo dX9_passedOf_21 rfl rfl rfl rfl ?_
    refine w_lo dX9_passedOf_22 rfl rfl rfl rfl ?_
    refine w_gf dX9_passedOf_23 rfl hJ24.1.1 zs_386 (zr_386_15 hJ24.1) ?_
    refine w_bi dX9_passedOf_26 (c := 12) (by decide) ?_
    refine w_lo dX9_passedOf_28 rfl rfl rfl rfl ?_
    have f25 := (hJ22.2 (386) 12 (zNI (by omega) zNI_nil)).trans (f6)
    refine w_gf dX9_passedOf_29 rfl hJ24.1.1 zs_386 f25 ?_
    refine w_mulc dX9_passedOf_32 zt_12 (by have := zt_12; omega) ?_
    intro x26 h27
    have := zt_12
    refine w_lo dX9_passedOf_33 rfl rfl rfl rfl ?_
    refine w_gf dX9_passedOf_34 rfl hJ24.1.1 zs_386 (zr_386_69 hJ24.1) ?_
    refine w_lo dX9_passedOf_37 rfl rfl rfl rfl ?_
    have f31 := (hJ22.2 (434) (a0 : Int32).toInt.toNat (zNI (by omega) zNI_nil)).trans (f1)
    refine w_ia dX9_passedOf_38 hJ24.1.1 zs_434 (znat (by omega)) f31 ?_
    refine w_add dX9_passedOf_39 (by omega) ?_
    intro x32 h33
    refine w_iai dX9_passedOf_40 hJ24.1 zs_390 (by omega) (by omega) zu_390 ?_
    intro x37 f34 h35 h36
    refine w_puI dX9_passedOf_41 rfl rfl ?_
    intro x38
    refine w_lo (ml' := [some (.ref 386), some (.int a0), some (.int a1), some (.int x38)]) dX9_passedOf_42 rfl rfl rfl rfl ?_
    refine w_lo dX9_passedOf_43 rfl rfl rfl rfl ?_
    refine w_ic dX9_passedOf_44 zi_0 ?_
    refine w_lo dX9_passedOf_45 rfl rfl rfl rfl ?_
    refine w_lo dX9_passedOf_46 rfl rfl rfl rfl ?_
    rcases zcut x38.toInt (0 : Int) with h39 | h39
    · skip
      refine w_ige_f dX9_passedOf_47 (t := 54) rfl (by omega) ?_
      refine w_ic dX9_passedOf_50 zi_0 ?_
      refine w_gt dX9_passedOf_51 (t := 55) rfl ?_
      refine w_iv dX9_passedOf_55 rfl rfl (As := [.int 0, .int a1, .int 0]) rfl rfl hJ24.1.1 zs_386 (Nat.le_of_ble_eq_true rfl) ?_
      refine ZV.imp (k_2370 0 (by have := zt_0; omega) (by have := zt_0; omega) a1 (by omega) (ztop _) 0 hN hJ24.1 (zIa_fr hP0 (zi_fr hJ24.2) rfl)) ?_
      rintro _ ⟨x43, M40, rfl, h44, h45, hJ41, hq42⟩
      have hJ46 := zJ_trans hJ24 hJ41 (zSub_cons (fun _ _ h h' hk => zIR_a (by omega) (by omega)) zSub_nil)
      show ZW _ _ _ _ _ _ _ (58, [some (.ref 386), some (.int a0), some (.int a1), some (.int x38)], [.int x43], M40)
      refine w_eni dX9_passedOf_58 rfl rfl ?_
      exact ⟨_, _, rfl, (zbot _), (ztop _), hJ46, trivial⟩
    · skip
      refine w_ige_t dX9_passedOf_47 (t := 54) rfl (by omega) ?_
      refine w_lo dX9_passedOf_54 rfl rfl rfl rfl ?_
      refine w_iv dX9_passedOf_55 rfl rfl (As := [.int 0, .int a1, .int x38]) rfl rfl hJ24.1.1 zs_386 (Nat.le_of_ble_eq_true rfl) ?_
      refine ZV.imp (k_2370 0 (by have := zt_0; omega) (by have := zt_0; omega) a1 (by omega) (ztop _) x38 hN hJ24.1 (zIa_fr hP0 (zi_fr hJ24.2) rfl)) ?_
      rintro _ ⟨x50, M47, rfl, h51, h52, hJ48, hq49⟩
      have hJ53 := zJ_trans hJ24 hJ48 (zSub_cons (fun _ _ h h' hk => zIR_a (by omega) (by omega)) zSub_nil)
      show ZW _ _ _ _ _ _ _ (58, [some (.ref 386), some (.int a0), some (.int a1), some (.int x38)], [.int x50], M47)
      refine w_eni dX9_passedOf_58 rfl rfl ?_
      exact ⟨_, _, rfl, (zbot _), (ztop _), hJ53, trivial⟩
set_option maxRecDepth 100000 in
theorem k_2375 {X : List Int32} {d N : Nat} {M0 : zM} (a0 : Int32) (ha00 : (0 : Int) ≤ a0.toInt) (ha01 : a0.toInt ≤ 11) (a1 : Int32) (ha10 : (1 : Int) ≤ a1.toInt) (ha11 : a1.toInt ≤ 2147483647) (hN : N ≤ 600) (hB0 : zB N M0) (hP0 : zIa (zi M0)) : ZV X (d + 5) 2375 [.ref 386, .int a0, .int a1] M0 (zRI N [(416, 418, 1000)] M0 (-2147483648) (2147483647) (fun _ _ => True)) := by
  have hJ0 : zJ N [(416, 418, 1000)] M0 M0 := zJ_refl hB0
  refine ZV.of (ini := false) rfl (Nat.le_of_ble_eq_true rfl) (by decide +kernel) ?_
  show ZW _ _ _ _ _ _ _ (0, [some (.ref 386), some (.int a0), some (.int a1)], [], M0)
  refine w_lo dX9_deepOf_0 rfl rfl rfl rfl ?_
  refine w_lo dX9_deepOf_1 rfl rfl rfl rfl ?_
  refine w_lo dX9_deepOf_2 rfl rfl rfl rfl ?_
  refine w_iv dX9_deepOf_3 rfl rfl (As := [.int a0, .int a1]) rfl rfl hJ0.1.1 zs_386 (Nat.le_of_ble_eq_true rfl) ?_
  refine ZV.imp (k_2366 a0 (by omega) (by omega) a1 (by omega) (ztop _) hN hJ0.1) ?_
  rintro _ ⟨M1, rfl, hJ2, hq3⟩
  have hJ4 := zJ_trans hJ0 hJ2 (zSub_cons (fun _ _ h h' hk => zIR_a (by omega) (by omega)) zSub_nil)
  show ZW _ _ _ _ _ _ _ (6, [some (.ref 386), some (.int a0), some (.int a1)], [], M1)
  refine w_lo dX9_deepOf_6 rfl rfl rfl rfl ?_
  refine w_ic dX9_deepOf_7 zi_1 ?_
  refine w_si dX9_deepOf_8 (c := 9999) (by decide) ?_
  refine w_lo dX9_deepOf_11 rfl rfl rfl rfl ?_
  refine w_gf dX9_deepOf_12 rfl hJ4.1.1 zs_386 (zr_386_16 hJ4.1) ?_
  refine w_bi dX9_deepOf_15 (c := 12) (by decide) ?_
  refine w_lo dX9_deepOf_17 rfl rfl rfl rfl ?_
  refine w_gfi dX9_deepOf_18 rfl hJ4.1 zs_386 (Nat.le_of_ble_eq_true rfl) zo_386_12 ?_
  intro x5 f6 h7 h8
  refine w_mulc dX9_deepOf_21 zt_12 (by have := zt_12; omega) ?_
  intro x9 h10
  have := zt_12
  refine w_lo dX9_deepOf_22 rfl rfl rfl rfl ?_
  refine w_gf dX9_deepOf_23 rfl hJ4.1.1 zs_386 (zr_386_69 hJ4.1) ?_
  refine w_lo dX9_deepOf_26 rfl rfl rfl rfl ?_
  refine w_iai dX9_deepOf_27 hJ4.1 zs_434 (by omega) (by omega) zu_434 ?_
  intro x14 f11 h12 h13
  refine w_add dX9_deepOf_28 (by omega) ?_
  intro x15 h16
  refine w_iai dX9_deepOf_29 hJ4.1 zs_391 (by omega) (by omega) zu_391 ?_
  intro x20 f17 h18 h19
  refine w_iv dX9_deepOf_30 rfl rfl (As := [.int 1, .int 9999, .int x20]) rfl rfl hJ4.1.1 zs_386 (Nat.le_of_ble_eq_true rfl) ?_
  refine ZV.imp (k_2370 1 (by have := zt_1; omega) (by have := zt_1; omega) 9999 (by have := zt_9999; omega) (ztop _) x20 hN hJ4.1 (zIa_fr hP0 (zi_fr hJ4.2) rfl)) ?_
  rintro _ ⟨x24, M21, rfl, h25, h26, hJ22, hq23⟩
  have hJ27 := zJ_trans hJ4 hJ22 (zSub_cons (fun _ _ h h' hk => zIR_a (by omega) (by omega)) zSub_nil)
  show ZW _ _ _ _ _ _ _ (33, [some (.ref 386), some (.int a0), some (.int a1)], [.int x24], M21)
  refine w_eni dX9_deepOf_33 rfl rfl ?_
  exact ⟨_, _, rfl, (zbot _), (ztop _), hJ27, trivial⟩
set_option maxRecDepth 100000 in
theorem k_2362 {X : List Int32} {d N : Nat} {M0 : zM} (a0 : Int32) (a1 : Int32) (a2 : Int32) (ha20 : (0 : Int) ≤ a2.toInt) (ha21 : a2.toInt ≤ 1) (hN : N ≤ 600) (hB0 : zB N M0) (hP0 : zIa (zi M0)) : ZV X (d + 6) 2362 [.ref 386, .int a0, .int a1, .int a2] M0 (zRI N [(416, 418, 1000), (434, 435, 1000), (386, 387, 70), (386, 387, 71), (386, 387, 72)] M0 (-2147483648) (2147483647) (fun _ _ => True)) := by
  have hJ0 : zJ N [(416, 418, 1000), (434, 435, 1000), (386, 387, 70), (386, 387, 71), (386, 387, 72)] M0 M0 := zJ_refl hB0
  refine ZV.of (ini := false) rfl (Nat.le_of_ble_eq_true rfl) (by decide +kernel) ?_
  show ZW _ _ _ _ _ _ _ (0, [some (.ref 386), some (.int a0), some (.int a1), some (.int a2)], [], M0)
  refine w_lo dX9_law_0 rfl rfl rfl rfl ?_
  refine w_lo dX9_law_1 rfl rfl rfl rfl ?_
  refine w_iv dX9_law_2 rfl rfl (As := [.int a0]) rfl rfl hJ0.1.1 zs_386 (Nat.le_of_ble_eq_true rfl) ?_
  refine ZV.of (ini := false) rfl (Nat.le_of_ble_eq_true rfl) (by decide +kernel) ?_
  show ZW _ _ _ _ _ _ _ (0, [some (.ref 386), some (.int a0)], [], M0)
  refine w_lo dX9_isBoy_0 rfl rfl rfl rfl ?_
  rcases zcut a0.toInt (0 : Int) with h1 | h1
  · skip
    refine w_ilt_t dX9_isBoy_1 (t := 21) rfl (by omega) ?_
    refine w_ic dX9_isBoy_21 zi_0 ?_
    refine w_en dX9_isBoy_22 rfl ?_
    show ZW _ _ _ _ _ _ _ (5, [some (.ref 386), some (.int a0), some (.int a1), some (.int a2)], [.int 0], M0)
    refine w_ieq_t dX9_law_5 (t := 19) rfl (by have := zt_0; omega) ?_
    refine w_ic dX9_law_19 zi_m1 ?_
    refine w_en dX9_law_20 rfl ?_
    exact ⟨_, _, rfl, (zbot _), (ztop _), hJ0, trivial⟩
  · skip
    refine w_ilt_f dX9_isBoy_1 (t := 21) rfl (by omega) ?_
    refine w_lo dX9_isBoy_4 rfl rfl rfl rfl ?_
    refine w_lo dX9_isBoy_5 rfl rfl rfl rfl ?_
    refine w_gf dX9_isBoy_6 rfl hJ0.1.1 zs_386 (zr_386_13 hJ0.1) ?_
    refine w_lo dX9_isBoy_9 rfl rfl rfl rfl ?_
    refine w_gfi dX9_isBoy_10 rfl hJ0.1 zs_386 (Nat.le_of_ble_eq_true rfl) zo_386_12 ?_
    intro x2 f3 h4 h5
    refine w_iai dX9_isBoy_13 hJ0.1 zs_388 (by omega) (by omega) zu_388 ?_
    intro x9 f6 h7 h8
    rcases zcut a0.toInt x9.toInt with h10 | h10
    · skip
      refine w_cge_f dX9_isBoy_14 (t := 21) rfl (by omega) ?_
      refine w_ic dX9_isBoy_17 zi_1 ?_
      refine w_gt dX9_isBoy_18 (t := 22) rfl ?_
      refine w_en dX9_isBoy_22 rfl ?_
      show ZW _ _ _ _ _ _ _ (5, [some (.ref 386), some (.int a0), some (.int a1), some (.int a2)], [.int 1], M0)
      refine w_ieq_f dX9_law_5 (t := 19) rfl (by have := zt_1; omega) ?_
      refine w_lo dX9_law_8 rfl rfl rfl rfl ?_
      refine w_ic dX9_law_9 zi_1 ?_
      refine w_si dX9_law_10 (c := 9999) (by decide) ?_
      refine w_ss dX9_law_13 rfl rfl (As := [.int a1, .int 1, .int 9999]) rfl rfl (Nat.le_of_ble_eq_true rfl) ?_
      refine ZV.of (ini := false) rfl (Nat.le_of_ble_eq_true rfl) (by decide +kernel) ?_
      show ZW _ _ _ _ _ _ _ (0, [some (.int a1), some (.int 1), some (.int 9999)], [], M0)
      refine w_lo dX9_is_0 rfl rfl rfl rfl ?_
      refine w_lo dX9_is_1 rfl rfl rfl rfl ?_
      rcases zcut a1.toInt (1 : Int) with h11 | h11
      · skip
        refine w_clt_t dX9_is_2 (t := 14) rfl (by have := zt_1; omega) ?_
        refine w_ic dX9_is_14 zi_0 ?_
        refine w_en dX9_is_15 rfl ?_
        show ZW _ _ _ _ _ _ _ (16, [some (.ref 386), some (.int a0), some (.int a1), some (.int a2)], [.int 0], M0)
        refine w_ine_f dX9_law_16 (t := 21) rfl (by have := zt_0; omega) ?_
        refine w_ic dX9_law_19 zi_m1 ?_
        refine w_en dX9_law_20 rfl ?_
        exact ⟨_, _, rfl, (zbot _), (ztop _), hJ0, trivial⟩
      · skip
        refine w_clt_f dX9_is_2 (t := 14) rfl (by have := zt_1; omega) ?_
        refine w_lo dX9_is_5 rfl rfl rfl rfl ?_
        refine w_lo dX9_is_6 rfl rfl rfl rfl ?_
        rcases zcut (9999 : Int) a1.toInt with h12 | h12
        · skip
          refine w_cgt_t dX9_is_7 (t := 14) rfl (by have := zt_9999; omega) ?_
          refine w_ic dX9_is_14 zi_0 ?_
          refine w_en dX9_is_15 rfl ?_
          show ZW _ _ _ _ _ _ _ (16, [some (.ref 386), some (.int a0), some (.int a1), some (.int a2)], [.int 0], M0)
          refine w_ine_f dX9_law_16 (t := 21) rfl (by have := zt_0; omega) ?_
          refine w_ic dX9_law_19 zi_m1 ?_
          refine w_en dX9_law_20 rfl ?_
          exact ⟨_, _, rfl, (zbot _), (ztop _), hJ0, trivial⟩
        · skip
          refine w_cgt_f dX9_is_7 (t := 14) rfl (by have := zt_9999; omega) ?_
          refine w_ic dX9_is_10 zi_1 ?_
          refine w_gt dX9_is_11 (t := 15) rfl ?_
          refine w_en dX9_is_15 rfl ?_
          show ZW _ _ _ _ _ _ _ (16, [some (.ref 386), some (.int a0), some (.int a1), some (.int a2)], [.int 1], M0)
          refine w_ine_t dX9_law_16 (t := 21) rfl (by have := zt_1; omega) ?_
          refine w_lo dX9_law_21 rfl rfl rfl rfl ?_
          refine w_ic dX9_law_22 zi_0 ?_
          refine w_iv dX9_law_23 rfl rfl (As := [.int 0]) rfl rfl hJ0.1.1 zs_386 (Nat.le_of_ble_eq_true rfl) ?_
          refine ZV.imp (k_2363 0 (by have := zt_0; omega) (by have := zt_0; omega) hN hJ0.1) ?_
          rintro _ ⟨M13, rfl, hJ14, hq15⟩
          have hJ16 := zJ_trans hJ0 hJ14 (zSub_cons (fun _ _ h h' hk => zIR_s (zIR_a (by omega) (by omega))) (zSub_cons (fun _ _ h h' hk => zIR_s (zIR_s (zIR_e (by omega) (by omega) hk))) (zSub_cons (fun _ _ h h' hk => zIR_s (zIR_s (zIR_s (zIR_e (by omega) (by omega) hk)))) (zSub_cons (fun _ _ h h' hk => zIR_s (zIR_s (zIR_s (zIR_s (zIR_e (by omega) (by omega) hk))))) zSub_nil))))
          show ZW _ _ _ _ _ _ _ (26, [some (.ref 386), some (.int a0), some (.int a1), some (.int a2)], [], M13)
          refine w_lo dX9_law_26 rfl rfl rfl rfl ?_
          rcases Int.decEq a2.toInt (0 : Int) with h17 | h17
          · skip
            refine w_ieq_f dX9_law_27 (t := 39) rfl (by omega) ?_
            refine w_lo dX9_law_30 rfl rfl rfl rfl ?_
            refine w_lo dX9_law_31 rfl rfl rfl rfl ?_
            refine w_lo dX9_law_32 rfl rfl rfl rfl ?_
            refine w_iv dX9_law_33 rfl rfl (As := [.int a0, .int a1]) rfl rfl hJ16.1.1 zs_386 (Nat.le_of_ble_eq_true rfl) ?_
            refine ZV.imp (k_2364 a0 (by omega) (by omega) a1 (by omega) (ztop _) hN hJ16.1 (zIa_fr hP0 (zi_fr hJ16.2) rfl)) ?_
            rintro _ ⟨x21, M18, rfl, h22, h23, hJ19, hq20⟩
            have hJ24 := zJ_trans hJ16 hJ19 (zSub_cons (fun _ _ h h' hk => zIR_a (by omega) (by omega)) zSub_nil)
            show ZW _ _ _ _ _ _ _ (36, [some (.ref 386), some (.int a0), some (.int a1), some (.int a2)], [.int x21], M18)
            refine w_gt dX9_law_36 (t := 45) rfl ?_
            refine w_eni dX9_law_45 rfl rfl ?_
            exact ⟨_, _, rfl, (zbot _), (ztop _), hJ24, trivial⟩
          · skip
            refine w_ieq_t dX9_law_27 (t := 39) rfl (by omega) ?_
            refine w_lo dX9_law_39 rfl rfl rfl rfl ?_
            refine w_lo dX9_law_40 rfl rfl rfl rfl ?_
            refine w_lo dX9_law_41 rfl rfl rfl rfl ?_
            refine w_iv dX9_law_42 rfl rfl (As := [.int a0, .int a1]) rfl rfl hJ16.1.1 zs_386 (Nat.le_of_ble_eq_true rfl) ?_
            refine ZV.imp (k_2375 a0 (by omega) (by omega) a1 (by omega) (ztop _) hN hJ16.1 (zIa_fr hP0 (zi_fr hJ16.2) rfl)) ?_
            rintro _ ⟨x28, M25, rfl, h29, h30, hJ26, hq27⟩
            have hJ31 := zJ_trans hJ16 hJ26 (zSub_cons (fun _ _ h h' hk => zIR_a (by omega) (by omega)) zSub_nil)
            show ZW _ _ _ _ _ _ _ (45, [some (.ref 386), some (.int a0), some (.int a1), some (.int a2)], [.int x28], M25)
            refine w_eni dX9_law_45 rfl rfl ?_
            exact ⟨_, _, rfl, (zbot _), (ztop _), hJ31, trivial⟩
    · skip
      refine w_cge_t dX9_isBoy_14 (t := 21) rfl (by omega) ?_
      refine w_ic dX9_isBoy_21 zi_0 ?_
      refine w_en dX9_isBoy_22 rfl ?_
      show ZW _ _ _ _ _ _ _ (5, [some (.ref 386), some (.int a0), some (.int a1), some (.int a2)], [.int 0], M0)
      refine w_ieq_t dX9_law_5 (t := 19) rfl (by have := zt_0; omega) ?_
      refine w_ic dX9_law_19 zi_m1 ?_
      refine w_en dX9_law_20 rfl ?_
      exact ⟨_, _, rfl, (zbot _), (ztop _), hJ0, trivial⟩
set_option maxRecDepth 100000 in
theorem k_2384 {X : List Int32} {d N : Nat} {M0 : zM} (a0 : Int32) (ha00 : (0 : Int) ≤ a0.toInt) (ha01 : a0.toInt ≤ 11) (a1 : Int32) (ha10 : (1 : Int) ≤ a1.toInt) (ha11 : a1.toInt ≤ 2147483647) (hN : N ≤ 600) (hB0 : zB N M0) (hP0 : zIa (zi M0)) : ZV X (d + 6) 2384 [.ref 386, .int a0, .int a1] M0 (zRI N [(416, 418, 1000), (435, 436, 1000), (386, 387, 74)] M0 (-2147483648) (2147483647) (fun _ _ => True)) := by
  have hJ0 : zJ N [(416, 418, 1000), (435, 436, 1000), (386, 387, 74)] M0 M0 := zJ_refl hB0
  refine ZV.of (ini := false) rfl (Nat.le_of_ble_eq_true rfl) (by decide +kernel) ?_
  have main : ∀ n : Nat,
      (∀ (M : zM) (v50_1 : Int32) (v50_2 : Int32) (u50_3 : Int32), zJ N [(416, 418, 1000), (435, 436, 1000), (386, 387, 74)] M0 M → ((0 : Int) ≤ v50_1.toInt) → (v50_1.toInt ≤ 11) → ((1 : Int) ≤ v50_2.toInt) → (v50_2.toInt ≤ 2147483647) → 1 < (n : Int) → ZW X (d + 5) 9 false (some .int) cX9_comes (zRI N [(416, 418, 1000), (435, 436, 1000), (386, 387, 74)] M0 (-2147483648) (2147483647) (fun _ _ => True)) (50, [some (.ref 386), some (.int v50_1), some (.int v50_2), some (.int u50_3)], [], M)) := by
    intro n
    induction n with
    | zero =>
      exact (fun M v50_1 v50_2 u50_3 hJ v50_10 v50_11 v50_20 v50_21 hn => absurd hn (by omega))
    | succ n ih =>
      have ih50 := ih
      · intro M v50_1 v50_2 u50_3 hJ v50_10 v50_11 v50_20 v50_21 hn
        refine w_lo dX9_comes_50 rfl rfl rfl rfl ?_
        refine w_lo dX9_comes_51 rfl rfl rfl rfl ?_
        refine w_lo dX9_comes_52 rfl rfl rfl rfl ?_
        refine w_lo dX9_comes_53 rfl rfl rfl rfl ?_
        refine w_iv dX9_comes_54 rfl rfl (As := [.int v50_1, .int v50_2]) rfl rfl hJ.1.1 zs_386 (Nat.le_of_ble_eq_true rfl) ?_
        refine ZV.imp (k_2375 v50_1 (by omega) (by omega) v50_2 (by omega) (ztop _) hN hJ.1 (zIa_fr hP0 (zi_fr hJ.2) rfl)) ?_
        rintro _ ⟨x4, M1, rfl, h5, h6, hJ2, hq3⟩
        have hJ7 := zJ_trans hJ hJ2 (zSub_cons (fun _ _ h h' hk => zIR_a (by omega) (by omega)) zSub_nil)
        show ZW _ _ _ _ _ _ _ (57, [some (.ref 386), some (.int v50_1), some (.int v50_2), some (.int u50_3)], [.int x4, .int v50_2], M1)
        rcases zcut x4.toInt v50_2.toInt with h8 | h8
        · skip
          refine w_cle_f dX9_comes_57 (t := 74) rfl (by omega) ?_
          refine w_lo dX9_comes_60 rfl rfl rfl rfl ?_
          refine w_pu dX9_comes_61 rfl rfl ?_
          refine w_gfi dX9_comes_62 rfl hJ7.1 zs_386 (Nat.le_of_ble_eq_true rfl) zo_386_74 ?_
          intro x9 f10 h11 h12
          refine w_ic dX9_comes_65 zi_1 ?_
          refine w_lo dX9_comes_66 rfl rfl rfl rfl ?_
          refine w_shl dX9_comes_67 (by omega) (by omega) (m := 11) (by omega) ?_
          intro x13 h14 h15
          have : (2 : Int) ^ 11 = 2048 := by decide
          refine w_or dX9_comes_68 (m := 12) (by decide) (by omega) (by omega) (by omega) (by omega) ?_
          intro x16 h17 h18
          have : (2 : Int) ^ 12 = 4096 := by decide
          refine w_pfi dX9_comes_69 rfl hJ7 zs_386 (Nat.le_of_ble_eq_true rfl) zo_386_74 (by omega) (by omega) (zIR_s (zIR_s (zIR_k (by omega) (by omega)))) rfl rfl rfl ?_
          intro M19 hJ20 f21 hn22
          refine w_ic dX9_comes_72 zi_0 ?_
          refine w_en dX9_comes_73 rfl ?_
          exact ⟨_, _, rfl, (zbot _), (ztop _), hJ20, trivial⟩
        · skip
          refine w_cle_t dX9_comes_57 (t := 74) rfl (by omega) ?_
          refine w_lo dX9_comes_74 rfl rfl rfl rfl ?_
          refine w_lo dX9_comes_75 rfl rfl rfl rfl ?_
          refine w_lo dX9_comes_76 rfl rfl rfl rfl ?_
          refine w_iv dX9_comes_77 rfl rfl (As := [.int v50_1, .int v50_2]) rfl rfl hJ7.1.1 zs_386 (Nat.le_of_ble_eq_true rfl) ?_
          refine ZV.imp (k_2364 v50_1 (by omega) (by omega) v50_2 (by omega) (ztop _) hN hJ7.1 (zIa_fr hP0 (zi_fr hJ7.2) rfl)) ?_
          rintro _ ⟨x26, M23, rfl, h27, h28, hJ24, hq25⟩
          have hJ29 := zJ_trans hJ7 hJ24 (zSub_cons (fun _ _ h h' hk => zIR_a (by omega) (by omega)) zSub_nil)
          show ZW _ _ _ _ _ _ _ (80, [some (.ref 386), some (.int v50_1), some (.int v50_2), some (.int u50_3)], [.int x26], M23)
          refine w_eni dX9_comes_80 rfl rfl ?_
          exact ⟨_, _, rfl, (zbot _), (ztop _), hJ29, trivial⟩
  have ih50 := main 6
  show ZW _ _ _ _ _ _ _ (0, [some (.ref 386), some (.int a0), some (.int a1), none], [], M0)
  refine w_lo dX9_comes_0 rfl rfl rfl rfl ?_
  refine w_gf dX9_comes_1 rfl hJ0.1.1 zs_386 (zr_386_69 hJ0.1) ?_
  refine w_lo dX9_comes_4 rfl rfl rfl rfl ?_
  refine w_iai dX9_comes_5 hJ0.1 zs_434 (by omega) (by omega) zu_434 ?_
  intro x33 f30 h31 h32
  refine w_lo (ml' := [some (.ref 386), some (.int a0), some (.int a1), some (.int x33)]) dX9_comes_6 rfl rfl rfl rfl ?_
  refine w_lo dX9_comes_7 rfl rfl rfl rfl ?_
  refine w_gf dX9_comes_8 rfl hJ0.1.1 zs_386 (zr_386_73 hJ0.1) ?_
  refine w_lo dX9_comes_11 rfl rfl rfl rfl ?_
  refine w_lo dX9_comes_12 rfl rfl rfl rfl ?_
  refine w_isi dX9_comes_13 hJ0 zs_435 (by omega) (by omega) zu_435 (by omega) (ztop _) (zIR_s (zIR_a (by omega) (by omega))) ?_
  intro M34 hJ35 f36 hn37
  refine w_lo dX9_comes_14 rfl rfl rfl rfl ?_
  refine w_lo dX9_comes_15 rfl rfl rfl rfl ?_
  refine w_iv dX9_comes_16 rfl rfl (As := [.int x33]) rfl rfl hJ35.1.1 zs_386 (Nat.le_of_ble_eq_true rfl) ?_
  refine ZV.of (ini := false) rfl (Nat.le_of_ble_eq_true rfl) (by decide +kernel) ?_
  show ZW _ _ _ _ _ _ _ (0, [some (.ref 386), some (.int x33)], [], M34)
  refine w_lo dX9_isGhost_0 rfl rfl rfl rfl ?_
  refine w_gf dX9_isGhost_1 rfl hJ35.1.1 zs_386 (zr_386_19 hJ35.1) ?_
  refine w_bi dX9_isGhost_4 (c := 12) (by decide) ?_
  refine w_lo dX9_isGhost_6 rfl rfl rfl rfl ?_
  refine w_gfi dX9_isGhost_7 rfl hJ35.1 zs_386 (Nat.le_of_ble_eq_true rfl) zo_386_12 ?_
  intro x38 f39 h40 h41
  refine w_mulc dX9_isGhost_10 zt_12 (by have := zt_12; omega) ?_
  intro x42 h43
  have := zt_12
  refine w_lo dX9_isGhost_11 rfl rfl rfl rfl ?_
  refine w_add dX9_isGhost_12 (by omega) ?_
  intro x44 h45
  refine w_iai dX9_isGhost_13 hJ35.1 zs_394 (by omega) (by omega) zu_394 ?_
  intro x49 f46 h47 h48
  refine w_ic dX9_isGhost_14 zi_2 ?_
  refine w_and dX9_isGhost_15 (m := 2) zt_2 (by omega) ?_
  intro x50 h51 h52
  rcases Int.decEq x50.toInt (0 : Int) with h53 | h53
  · skip
    refine w_ieq_f dX9_isGhost_16 (t := 23) rfl (by omega) ?_
    refine w_ic dX9_isGhost_19 zi_1 ?_
    refine w_gt dX9_isGhost_20 (t := 24) rfl ?_
    refine w_en dX9_isGhost_24 rfl ?_
    show ZW _ _ _ _ _ _ _ (19, [some (.ref 386), some (.int a0), some (.int a1), some (.int x33)], [.int 1], M34)
    refine w_ieq_f dX9_comes_19 (t := 24) rfl (by have := zt_1; omega) ?_
    refine w_lo dX9_comes_22 rfl rfl rfl rfl ?_
    refine w_eni dX9_comes_23 rfl rfl ?_
    exact ⟨_, _, rfl, (zbot _), (ztop _), hJ35, trivial⟩
  · skip
    refine w_ieq_t dX9_isGhost_16 (t := 23) rfl (by omega) ?_
    refine w_ic dX9_isGhost_23 zi_0 ?_
    refine w_en dX9_isGhost_24 rfl ?_
    show ZW _ _ _ _ _ _ _ (19, [some (.ref 386), some (.int a0), some (.int a1), some (.int x33)], [.int 0], M34)
    refine w_ieq_t dX9_comes_19 (t := 24) rfl (by have := zt_0; omega) ?_
    refine w_lo dX9_comes_24 rfl rfl rfl rfl ?_
    refine w_gfi dX9_comes_25 rfl hJ35.1 zs_386 (Nat.le_of_ble_eq_true rfl) zo_386_71 ?_
    intro x54 f55 h56 h57
    rcases Int.decEq x54.toInt (0 : Int) with h58 | h58
    · skip
      refine w_ine_t dX9_comes_28 (t := 50) rfl (by omega) ?_
      exact ih50 M34 a0 a1 x33 hJ35 (by omega) (by omega) (by omega) (ztop _) (by omega)
    · skip
      refine w_ine_f dX9_comes_28 (t := 50) rfl (by omega) ?_
      refine w_lo dX9_comes_31 rfl rfl rfl rfl ?_
      refine w_gf dX9_comes_32 rfl hJ35.1.1 zs_386 (zr_386_51 hJ35.1) ?_
      refine w_bi dX9_comes_35 (c := 12) (by decide) ?_
      refine w_lo dX9_comes_37 rfl rfl rfl rfl ?_
      refine w_gfi dX9_comes_38 rfl hJ35.1 zs_386 (Nat.le_of_ble_eq_true rfl) zo_386_72 ?_
      intro x59 f60 h61 h62
      refine w_mulc dX9_comes_41 zt_12 (by have := zt_12; omega) ?_
      intro x63 h64
      have := zt_12
      refine w_lo dX9_comes_42 rfl rfl rfl rfl ?_
      refine w_add dX9_comes_43 (by omega) ?_
      intro x65 h66
      refine w_iai dX9_comes_44 hJ35.1 zs_420 (by omega) (by omega) zu_420 ?_
      intro x70 f67 h68 h69
      rcases Int.decEq x70.toInt (0 : Int) with h71 | h71
      · skip
        refine w_ine_t dX9_comes_45 (t := 50) rfl (by omega) ?_
        exact ih50 M34 a0 a1 x33 hJ35 (by omega) (by omega) (by omega) (ztop _) (by omega)
      · skip
        refine w_ine_f dX9_comes_45 (t := 50) rfl (by omega) ?_
        refine w_ic dX9_comes_48 zi_0 ?_
        refine w_en dX9_comes_49 rfl ?_
        exact ⟨_, _, rfl, (zbot _), (ztop _), hJ35, trivial⟩
set_option maxRecDepth 100000 in
theorem k_2382 {X : List Int32} {d N : Nat} {M0 : zM} (a0 : Int32) (ha00 : (0 : Int) ≤ a0.toInt) (ha01 : a0.toInt ≤ 11) (a1 : Int32) (hN : N ≤ 600) (hB0 : zB N M0) (hP0 : zIa (zi M0)) : ZV X (d + 7) 2382 [.ref 386, .int a0, .int a1] M0 (zRV N [(416, 418, 1000), (435, 436, 1000), (386, 387, 74)] M0 (fun _ => True)) := by
  have hJ0 : zJ N [(416, 418, 1000), (435, 436, 1000), (386, 387, 74)] M0 M0 := zJ_refl hB0
  refine ZV.of (ini := false) rfl (Nat.le_of_ble_eq_true rfl) (by decide +kernel) ?_
  have main : ∀ n : Nat,
      (∀ (M : zM) (v7_1 : Int32) (v7_2 : Int32) (v7_3 : Int32) (o7_4 : Option Value), zJ N [(416, 418, 1000), (435, 436, 1000), (386, 387, 74)] M0 M → ((0 : Int) ≤ v7_1.toInt) → (v7_1.toInt ≤ 11) → ((-2147483648 : Int) ≤ v7_2.toInt) → (v7_2.toInt ≤ 2147483647) → ((0 : Int) ≤ v7_3.toInt) → (v7_3.toInt ≤ 12) → 5 * (12 - v7_3.toInt) + 133 < (n : Int) → ZW X (d + 6) 9 false none cX9_tugs (zRV N [(416, 418, 1000), (435, 436, 1000), (386, 387, 74)] M0 (fun _ => True)) (7, [some (.ref 386), some (.int v7_1), some (.int v7_2), some (.int v7_3), o7_4], [], M)) ∧
      (∀ (M : zM) (v33_1 : Int32) (v33_2 : Int32) (v33_3 : Int32) (v33_4 : Int32), zJ N [(416, 418, 1000), (435, 436, 1000), (386, 387, 74)] M0 M → ((0 : Int) ≤ v33_1.toInt) → (v33_1.toInt ≤ 11) → ((-2147483648 : Int) ≤ v33_2.toInt) → (v33_2.toInt ≤ 2147483647) → ((-2147483648 : Int) ≤ v33_3.toInt) → (v33_3.toInt ≤ 2147483647) → ((1 : Int) ≤ v33_4.toInt) → (v33_4.toInt ≤ 12) → 5 * (12 - v33_4.toInt) + 67 < (n : Int) → ZW X (d + 6) 9 false none cX9_tugs (zRV N [(416, 418, 1000), (435, 436, 1000), (386, 387, 74)] M0 (fun _ => True)) (33, [some (.ref 386), some (.int v33_1), some (.int v33_2), some (.int v33_3), some (.int v33_4)], [], M)) ∧
      (∀ (M : zM) (u93_1 : Int32) (u93_2 : Int32) (v93_3 : Int32) (v93_4 : Int32), zJ N [(416, 418, 1000), (435, 436, 1000), (386, 387, 74)] M0 M → ((-2147483648 : Int) ≤ v93_3.toInt) → (v93_3.toInt ≤ 2147483647) → ((-1 : Int) ≤ v93_4.toInt) → (v93_4.toInt ≤ 10) → 5 * (v93_4.toInt - (-1)) + 1 < (n : Int) → ZW X (d + 6) 9 false none cX9_tugs (zRV N [(416, 418, 1000), (435, 436, 1000), (386, 387, 74)] M0 (fun _ => True)) (93, [some (.ref 386), some (.int u93_1), some (.int u93_2), some (.int v93_3), some (.int v93_4)], [], M)) := by
    intro n
    induction n with
    | zero =>
      exact ⟨(fun M v7_1 v7_2 v7_3 o7_4 hJ v7_10 v7_11 v7_20 v7_21 v7_30 v7_31 hn => absurd hn (by omega)), (fun M v33_1 v33_2 v33_3 v33_4 hJ v33_10 v33_11 v33_20 v33_21 v33_30 v33_31 v33_40 v33_41 hn => absurd hn (by omega)), (fun M u93_1 u93_2 v93_3 v93_4 hJ v93_30 v93_31 v93_40 v93_41 hn => absurd hn (by omega))⟩
    | succ n ih =>
      obtain ⟨ih7, ih33, ih93⟩ := ih
      refine ⟨?_, ?_, ?_⟩
      · intro M v7_1 v7_2 v7_3 o7_4 hJ v7_10 v7_11 v7_20 v7_21 v7_30 v7_31 hn
        refine w_lo dX9_tugs_7 rfl rfl rfl rfl ?_
        refine w_bi dX9_tugs_8 (c := 12) (by decide) ?_
        rcases zcut v7_3.toInt (12 : Int) with h1 | h1
        · skip
          refine w_cge_f dX9_tugs_10 (t := 26) rfl (by have := zt_12; omega) ?_
          refine w_lo dX9_tugs_13 rfl rfl rfl rfl ?_
          refine w_gf dX9_tugs_14 rfl hJ.1.1 zs_386 (zr_386_73 hJ.1) ?_
          refine w_lo dX9_tugs_17 rfl rfl rfl rfl ?_
          refine w_ic dX9_tugs_18 zi_0 ?_
          refine w_isi dX9_tugs_19 hJ zs_435 (by omega) (by omega) zu_435 (by have := zt_0; omega) (ztop _) (zIR_s (zIR_a (by omega) (by omega))) ?_
          intro M2 hJ3 f4 hn5
          refine w_inc (kk := 3) dX9_tugs_20 rfl (m := 1) (by decide) (by omega) ?_
          intro x6 h7
          refine ⟨_, rfl, ?_⟩
          show ZW _ _ _ _ _ _ _ (23, [some (.ref 386), some (.int v7_1), some (.int v7_2), some (.int x6), o7_4], [], M2)
          refine w_gt dX9_tugs_23 (t := 7) rfl ?_
          exact ih7 M2 v7_1 v7_2 x6 o7_4 hJ3 (by omega) (by omega) (zbot _) (ztop _) (by omega) (by omega) (by omega)
        · skip
          refine w_cge_t dX9_tugs_10 (t := 26) rfl (by have := zt_12; omega) ?_
          refine w_lo dX9_tugs_26 rfl rfl rfl rfl ?_
          refine w_lo (ml' := [some (.ref 386), some (.int v7_1), some (.int v7_2), some (.int v7_2), o7_4]) dX9_tugs_27 rfl rfl rfl rfl ?_
          refine w_lo dX9_tugs_28 rfl rfl rfl rfl ?_
          refine w_ic dX9_tugs_29 zi_1 ?_
          refine w_add dX9_tugs_30 (by have := zt_1; omega) ?_
          intro x8 h9
          have := zt_1
          refine w_lo (ml' := [some (.ref 386), some (.int v7_1), some (.int v7_2), some (.int v7_2), some (.int x8)]) dX9_tugs_31 rfl rfl rfl rfl ?_
          exact ih33 M v7_1 v7_2 v7_2 x8 hJ (by omega) (by omega) (zbot _) (ztop _) (zbot _) (ztop _) (by omega) (by omega) (by omega)
      · intro M v33_1 v33_2 v33_3 v33_4 hJ v33_10 v33_11 v33_20 v33_21 v33_30 v33_31 v33_40 v33_41 hn
        refine w_lo dX9_tugs_33 rfl rfl rfl rfl ?_
        refine w_lo dX9_tugs_35 rfl rfl rfl rfl ?_
        refine w_gfi dX9_tugs_36 rfl hJ.1 zs_386 (Nat.le_of_ble_eq_true rfl) zo_386_70 ?_
        intro x10 f11 h12 h13
        rcases zcut v33_4.toInt x10.toInt with h14 | h14
        · skip
          refine w_cge_f dX9_tugs_39 (t := 86) rfl (by omega) ?_
          refine w_lo dX9_tugs_42 rfl rfl rfl rfl ?_
          rcases zcut (0 : Int) v33_3.toInt with h15 | h15
          · skip
            refine w_ile_f dX9_tugs_43 (t := 86) rfl (by omega) ?_
            refine w_lo dX9_tugs_46 rfl rfl rfl rfl ?_
            refine w_lo dX9_tugs_47 rfl rfl rfl rfl ?_
            refine w_ic dX9_tugs_49 zi_1 ?_
            refine w_sub dX9_tugs_50 (by have := zt_1; omega) ?_
            intro x16 h17
            have := zt_1
            refine w_iv dX9_tugs_51 rfl rfl (As := [.int x16]) rfl rfl hJ.1.1 zs_386 (Nat.le_of_ble_eq_true rfl) ?_
            refine ZV.of (ini := false) rfl (Nat.le_of_ble_eq_true rfl) (by decide +kernel) ?_
            show ZW _ _ _ _ _ _ _ (0, [some (.ref 386), some (.int x16)], [], M)
            refine w_lo dX9_isTied_0 rfl rfl rfl rfl ?_
            refine w_gf dX9_isTied_1 rfl hJ.1.1 zs_386 (zr_386_60 hJ.1) ?_
            refine w_bi dX9_isTied_4 (c := 11) (by decide) ?_
            refine w_lo dX9_isTied_6 rfl rfl rfl rfl ?_
            refine w_gfi dX9_isTied_7 rfl hJ.1 zs_386 (Nat.le_of_ble_eq_true rfl) zo_386_71 ?_
            intro x18 f19 h20 h21
            rcases Int.decEq x18.toInt (0 : Int) with h22 | h22
            · skip
              refine w_ieq_f dX9_isTied_10 (t := 17) rfl (by omega) ?_
              refine w_ic dX9_isTied_13 zi_0 ?_
              refine w_gt dX9_isTied_14 (t := 21) rfl ?_
              refine w_pu (st' := [.int 0, .ref 429]) dX9_isTied_21 rfl rfl ?_
              refine w_lo dX9_isTied_22 rfl rfl rfl rfl ?_
              refine w_add dX9_isTied_23 (by have := zt_0; omega) ?_
              intro x23 h24
              have := zt_0
              refine w_iai dX9_isTied_24 hJ.1 zs_429 (by omega) (by omega) zu_429 ?_
              intro x28 f25 h26 h27
              refine w_ic dX9_isTied_25 zi_1 ?_
              rcases Int.decEq x28.toInt (1 : Int) with h29 | h29
              · skip
                refine w_cne_t dX9_isTied_26 (t := 33) rfl (by have := zt_1; omega) ?_
                refine w_ic dX9_isTied_33 zi_0 ?_
                refine w_en dX9_isTied_34 rfl ?_
                show ZW _ _ _ _ _ _ _ (54, [some (.ref 386), some (.int v33_1), some (.int v33_2), some (.int v33_3), some (.int v33_4)], [.int 0], M)
                refine w_ieq_t dX9_tugs_54 (t := 86) rfl (by have := zt_0; omega) ?_
                refine w_lo dX9_tugs_86 rfl rfl rfl rfl ?_
                refine w_lo (ml' := [some (.ref 386), some (.int v33_1), some (.int v33_2), some (.int v33_2), some (.int v33_4)]) dX9_tugs_87 rfl rfl rfl rfl ?_
                refine w_lo dX9_tugs_88 rfl rfl rfl rfl ?_
                refine w_ic dX9_tugs_89 zi_1 ?_
                refine w_sub dX9_tugs_90 (by have := zt_1; omega) ?_
                intro x30 h31
                have := zt_1
                refine w_lo (ml' := [some (.ref 386), some (.int v33_1), some (.int v33_2), some (.int v33_2), some (.int x30)]) dX9_tugs_91 rfl rfl rfl rfl ?_
                exact ih93 M v33_1 v33_2 v33_2 x30 hJ (zbot _) (ztop _) (by omega) (by omega) (by omega)
              · skip
                refine w_cne_f dX9_isTied_26 (t := 33) rfl (by have := zt_1; omega) ?_
                refine w_ic dX9_isTied_29 zi_1 ?_
                refine w_gt dX9_isTied_30 (t := 34) rfl ?_
                refine w_en dX9_isTied_34 rfl ?_
                show ZW _ _ _ _ _ _ _ (54, [some (.ref 386), some (.int v33_1), some (.int v33_2), some (.int v33_3), some (.int v33_4)], [.int 1], M)
                refine w_ieq_f dX9_tugs_54 (t := 86) rfl (by have := zt_1; omega) ?_
                refine w_lo dX9_tugs_57 rfl rfl rfl rfl ?_
                refine w_lo dX9_tugs_58 rfl rfl rfl rfl ?_
                refine w_lo dX9_tugs_59 rfl rfl rfl rfl ?_
                refine w_ic dX9_tugs_61 zi_1 ?_
                refine w_sub dX9_tugs_62 (by have := zt_1; omega) ?_
                intro x32 h33
                have := zt_1
                refine w_iv dX9_tugs_63 rfl rfl (As := [.int x32]) rfl rfl hJ.1.1 zs_386 (Nat.le_of_ble_eq_true rfl) ?_
                refine ZV.of (ini := false) rfl (Nat.le_of_ble_eq_true rfl) (by decide +kernel) ?_
                show ZW _ _ _ _ _ _ _ (0, [some (.ref 386), some (.int x32)], [], M)
                refine w_lo dX9_slackAt_0 rfl rfl rfl rfl ?_
                refine w_gf dX9_slackAt_1 rfl hJ.1.1 zs_386 (zr_386_61 hJ.1) ?_
                refine w_bi dX9_slackAt_4 (c := 11) (by decide) ?_
                refine w_lo dX9_slackAt_6 rfl rfl rfl rfl ?_
                refine w_gf dX9_slackAt_7 rfl hJ.1.1 zs_386 f19 ?_
                refine w_ieq_f dX9_slackAt_10 (t := 17) rfl (by omega) ?_
                refine w_ic dX9_slackAt_13 zi_0 ?_
                refine w_gt dX9_slackAt_14 (t := 21) rfl ?_
                refine w_pu (st' := [.int 0, .ref 430]) dX9_slackAt_21 rfl rfl ?_
                refine w_lo dX9_slackAt_22 rfl rfl rfl rfl ?_
                refine w_add dX9_slackAt_23 (by have := zt_0; omega) ?_
                intro x34 h35
                have := zt_0
                refine w_iai dX9_slackAt_24 hJ.1 zs_430 (by omega) (by omega) zu_430 ?_
                intro x39 f36 h37 h38
                refine w_eni dX9_slackAt_25 rfl rfl ?_
                show ZW _ _ _ _ _ _ _ (66, [some (.ref 386), some (.int v33_1), some (.int v33_2), some (.int v33_3), some (.int v33_4)], [.int x39, .int v33_3], M)
                refine w_puI dX9_tugs_66 rfl rfl ?_
                intro x40
                refine w_lo (ml' := [some (.ref 386), some (.int v33_1), some (.int v33_2), some (.int x40), some (.int v33_4)]) dX9_tugs_67 rfl rfl rfl rfl ?_
                refine w_lo dX9_tugs_68 rfl rfl rfl rfl ?_
                rcases zcut (0 : Int) x40.toInt with h41 | h41
                · skip
                  refine w_ile_f dX9_tugs_69 (t := 80) rfl (by omega) ?_
                  refine w_lo dX9_tugs_72 rfl rfl rfl rfl ?_
                  refine w_lo dX9_tugs_73 rfl rfl rfl rfl ?_
                  refine w_lo dX9_tugs_75 rfl rfl rfl rfl ?_
                  refine w_iv dX9_tugs_76 rfl rfl (As := [.int v33_4, .int x40]) rfl rfl hJ.1.1 zs_386 (Nat.le_of_ble_eq_true rfl) ?_
                  refine ZV.imp (k_2384 v33_4 (by omega) (by omega) x40 (by omega) (ztop _) hN hJ.1 (zIa_fr hP0 (zi_fr hJ.2) rfl)) ?_
                  rintro _ ⟨x45, M42, rfl, h46, h47, hJ43, hq44⟩
                  have hJ48 := zJ_trans hJ hJ43 (zSub_cons (fun _ _ h h' hk => zIR_a (by omega) (by omega)) (zSub_cons (fun _ _ h h' hk => zIR_s (zIR_a (by omega) (by omega))) (zSub_cons (fun _ _ h h' hk => zIR_s (zIR_s (zIR_e (by omega) (by omega) hk))) zSub_nil)))
                  show ZW _ _ _ _ _ _ _ (79, [some (.ref 386), some (.int v33_1), some (.int v33_2), some (.int x40), some (.int v33_4)], [.int x45], M42)
                  refine w_lo (ml' := [some (.ref 386), some (.int v33_1), some (.int v33_2), some (.int x45), some (.int v33_4)]) dX9_tugs_79 rfl rfl rfl rfl ?_
                  refine w_inc (kk := 4) dX9_tugs_80 rfl (m := 1) (by decide) (by omega) ?_
                  intro x49 h50
                  refine ⟨_, rfl, ?_⟩
                  show ZW _ _ _ _ _ _ _ (83, [some (.ref 386), some (.int v33_1), some (.int v33_2), some (.int x45), some (.int x49)], [], M42)
                  refine w_gt dX9_tugs_83 (t := 33) rfl ?_
                  exact ih33 M42 v33_1 v33_2 x45 x49 hJ48 (by omega) (by omega) (zbot _) (ztop _) (zbot _) (ztop _) (by omega) (by omega) (by omega)
                · skip
                  refine w_ile_t dX9_tugs_69 (t := 80) rfl (by omega) ?_
                  refine w_inc (kk := 4) dX9_tugs_80 rfl (m := 1) (by decide) (by omega) ?_
                  intro x51 h52
                  refine ⟨_, rfl, ?_⟩
                  show ZW _ _ _ _ _ _ _ (83, [some (.ref 386), some (.int v33_1), some (.int v33_2), some (.int x40), some (.int x51)], [], M)
                  refine w_gt dX9_tugs_83 (t := 33) rfl ?_
                  exact ih33 M v33_1 v33_2 x40 x51 hJ (by omega) (by omega) (zbot _) (ztop _) (zbot _) (ztop _) (by omega) (by omega) (by omega)
            · skip
              refine w_ieq_t dX9_isTied_10 (t := 17) rfl (by omega) ?_
              refine w_lo dX9_isTied_17 rfl rfl rfl rfl ?_
              refine w_gfi dX9_isTied_18 rfl hJ.1 zs_386 (Nat.le_of_ble_eq_true rfl) zo_386_72 ?_
              intro x53 f54 h55 h56
              refine w_mulc dX9_isTied_21 zt_11 (by have := zt_11; omega) ?_
              intro x57 h58
              have := zt_11
              refine w_lo dX9_isTied_22 rfl rfl rfl rfl ?_
              refine w_add dX9_isTied_23 (by omega) ?_
              intro x59 h60
              refine w_iai dX9_isTied_24 hJ.1 zs_429 (by omega) (by omega) zu_429 ?_
              intro x64 f61 h62 h63
              refine w_ic dX9_isTied_25 zi_1 ?_
              rcases Int.decEq x64.toInt (1 : Int) with h65 | h65
              · skip
                refine w_cne_t dX9_isTied_26 (t := 33) rfl (by have := zt_1; omega) ?_
                refine w_ic dX9_isTied_33 zi_0 ?_
                refine w_en dX9_isTied_34 rfl ?_
                show ZW _ _ _ _ _ _ _ (54, [some (.ref 386), some (.int v33_1), some (.int v33_2), some (.int v33_3), some (.int v33_4)], [.int 0], M)
                refine w_ieq_t dX9_tugs_54 (t := 86) rfl (by have := zt_0; omega) ?_
                refine w_lo dX9_tugs_86 rfl rfl rfl rfl ?_
                refine w_lo (ml' := [some (.ref 386), some (.int v33_1), some (.int v33_2), some (.int v33_2), some (.int v33_4)]) dX9_tugs_87 rfl rfl rfl rfl ?_
                refine w_lo dX9_tugs_88 rfl rfl rfl rfl ?_
                refine w_ic dX9_tugs_89 zi_1 ?_
                refine w_sub dX9_tugs_90 (by have := zt_1; omega) ?_
                intro x66 h67
                have := zt_1
                refine w_lo (ml' := [some (.ref 386), some (.int v33_1), some (.int v33_2), some (.int v33_2), some (.int x66)]) dX9_tugs_91 rfl rfl rfl rfl ?_
                exact ih93 M v33_1 v33_2 v33_2 x66 hJ (zbot _) (ztop _) (by omega) (by omega) (by omega)
              · skip
                refine w_cne_f dX9_isTied_26 (t := 33) rfl (by have := zt_1; omega) ?_
                refine w_ic dX9_isTied_29 zi_1 ?_
                refine w_gt dX9_isTied_30 (t := 34) rfl ?_
                refine w_en dX9_isTied_34 rfl ?_
                show ZW _ _ _ _ _ _ _ (54, [some (.ref 386), some (.int v33_1), some (.int v33_2), some (.int v33_3), some (.int v33_4)], [.int 1], M)
                refine w_ieq_f dX9_tugs_54 (t := 86) rfl (by have := zt_1; omega) ?_
                refine w_lo dX9_tugs_57 rfl rfl rfl rfl ?_
                refine w_lo dX9_tugs_58 rfl rfl rfl rfl ?_
                refine w_lo dX9_tugs_59 rfl rfl rfl rfl ?_
                refine w_ic dX9_tugs_61 zi_1 ?_
                refine w_sub dX9_tugs_62 (by have := zt_1; omega) ?_
                intro x68 h69
                have := zt_1
                refine w_iv dX9_tugs_63 rfl rfl (As := [.int x68]) rfl rfl hJ.1.1 zs_386 (Nat.le_of_ble_eq_true rfl) ?_
                refine ZV.of (ini := false) rfl (Nat.le_of_ble_eq_true rfl) (by decide +kernel) ?_
                show ZW _ _ _ _ _ _ _ (0, [some (.ref 386), some (.int x68)], [], M)
                refine w_lo dX9_slackAt_0 rfl rfl rfl rfl ?_
                refine w_gf dX9_slackAt_1 rfl hJ.1.1 zs_386 (zr_386_61 hJ.1) ?_
                refine w_bi dX9_slackAt_4 (c := 11) (by decide) ?_
                refine w_lo dX9_slackAt_6 rfl rfl rfl rfl ?_
                refine w_gf dX9_slackAt_7 rfl hJ.1.1 zs_386 f19 ?_
                refine w_ieq_t dX9_slackAt_10 (t := 17) rfl (by omega) ?_
                refine w_lo dX9_slackAt_17 rfl rfl rfl rfl ?_
                refine w_gf dX9_slackAt_18 rfl hJ.1.1 zs_386 f54 ?_
                refine w_mulc dX9_slackAt_21 zt_11 (by have := zt_11; omega) ?_
                intro x70 h71
                have := zt_11
                refine w_lo dX9_slackAt_22 rfl rfl rfl rfl ?_
                refine w_add dX9_slackAt_23 (by omega) ?_
                intro x72 h73
                refine w_iai dX9_slackAt_24 hJ.1 zs_430 (by omega) (by omega) zu_430 ?_
                intro x77 f74 h75 h76
                refine w_eni dX9_slackAt_25 rfl rfl ?_
                show ZW _ _ _ _ _ _ _ (66, [some (.ref 386), some (.int v33_1), some (.int v33_2), some (.int v33_3), some (.int v33_4)], [.int x77, .int v33_3], M)
                refine w_puI dX9_tugs_66 rfl rfl ?_
                intro x78
                refine w_lo (ml' := [some (.ref 386), some (.int v33_1), some (.int v33_2), some (.int x78), some (.int v33_4)]) dX9_tugs_67 rfl rfl rfl rfl ?_
                refine w_lo dX9_tugs_68 rfl rfl rfl rfl ?_
                rcases zcut (0 : Int) x78.toInt with h79 | h79
                · skip
                  refine w_ile_f dX9_tugs_69 (t := 80) rfl (by omega) ?_
                  refine w_lo dX9_tugs_72 rfl rfl rfl rfl ?_
                  refine w_lo dX9_tugs_73 rfl rfl rfl rfl ?_
                  refine w_lo dX9_tugs_75 rfl rfl rfl rfl ?_
                  refine w_iv dX9_tugs_76 rfl rfl (As := [.int v33_4, .int x78]) rfl rfl hJ.1.1 zs_386 (Nat.le_of_ble_eq_true rfl) ?_
                  refine ZV.imp (k_2384 v33_4 (by omega) (by omega) x78 (by omega) (ztop _) hN hJ.1 (zIa_fr hP0 (zi_fr hJ.2) rfl)) ?_
                  rintro _ ⟨x83, M80, rfl, h84, h85, hJ81, hq82⟩
                  have hJ86 := zJ_trans hJ hJ81 (zSub_cons (fun _ _ h h' hk => zIR_a (by omega) (by omega)) (zSub_cons (fun _ _ h h' hk => zIR_s (zIR_a (by omega) (by omega))) (zSub_cons (fun _ _ h h' hk => zIR_s (zIR_s (zIR_e (by omega) (by omega) hk))) zSub_nil)))
                  show ZW _ _ _ _ _ _ _ (79, [some (.ref 386), some (.int v33_1), some (.int v33_2), some (.int x78), some (.int v33_4)], [.int x83], M80)
                  refine w_lo (ml' := [some (.ref 386), some (.int v33_1), some (.int v33_2), some (.int x83), some (.int v33_4)]) dX9_tugs_79 rfl rfl rfl rfl ?_
                  refine w_inc (kk := 4) dX9_tugs_80 rfl (m := 1) (by decide) (by omega) ?_
                  intro x87 h88
                  refine ⟨_, rfl, ?_⟩
                  show ZW _ _ _ _ _ _ _ (83, [some (.ref 386), some (.int v33_1), some (.int v33_2), some (.int x83), some (.int x87)], [], M80)
                  refine w_gt dX9_tugs_83 (t := 33) rfl ?_
                  exact ih33 M80 v33_1 v33_2 x83 x87 hJ86 (by omega) (by omega) (zbot _) (ztop _) (zbot _) (ztop _) (by omega) (by omega) (by omega)
                · skip
                  refine w_ile_t dX9_tugs_69 (t := 80) rfl (by omega) ?_
                  refine w_inc (kk := 4) dX9_tugs_80 rfl (m := 1) (by decide) (by omega) ?_
                  intro x89 h90
                  refine ⟨_, rfl, ?_⟩
                  show ZW _ _ _ _ _ _ _ (83, [some (.ref 386), some (.int v33_1), some (.int v33_2), some (.int x78), some (.int x89)], [], M)
                  refine w_gt dX9_tugs_83 (t := 33) rfl ?_
                  exact ih33 M v33_1 v33_2 x78 x89 hJ (by omega) (by omega) (zbot _) (ztop _) (zbot _) (ztop _) (by omega) (by omega) (by omega)
          · skip
            refine w_ile_t dX9_tugs_43 (t := 86) rfl (by omega) ?_
            refine w_lo dX9_tugs_86 rfl rfl rfl rfl ?_
            refine w_lo (ml' := [some (.ref 386), some (.int v33_1), some (.int v33_2), some (.int v33_2), some (.int v33_4)]) dX9_tugs_87 rfl rfl rfl rfl ?_
            refine w_lo dX9_tugs_88 rfl rfl rfl rfl ?_
            refine w_ic dX9_tugs_89 zi_1 ?_
            refine w_sub dX9_tugs_90 (by have := zt_1; omega) ?_
            intro x91 h92
            have := zt_1
            refine w_lo (ml' := [some (.ref 386), some (.int v33_1), some (.int v33_2), some (.int v33_2), some (.int x91)]) dX9_tugs_91 rfl rfl rfl rfl ?_
            exact ih93 M v33_1 v33_2 v33_2 x91 hJ (zbot _) (ztop _) (by omega) (by omega) (by omega)
        · skip
          refine w_cge_t dX9_tugs_39 (t := 86) rfl (by omega) ?_
          refine w_lo dX9_tugs_86 rfl rfl rfl rfl ?_
          refine w_lo (ml' := [some (.ref 386), some (.int v33_1), some (.int v33_2), some (.int v33_2), some (.int v33_4)]) dX9_tugs_87 rfl rfl rfl rfl ?_
          refine w_lo dX9_tugs_88 rfl rfl rfl rfl ?_
          refine w_ic dX9_tugs_89 zi_1 ?_
          refine w_sub dX9_tugs_90 (by have := zt_1; omega) ?_
          intro x93 h94
          have := zt_1
          refine w_lo (ml' := [some (.ref 386), some (.int v33_1), some (.int v33_2), some (.int v33_2), some (.int x93)]) dX9_tugs_91 rfl rfl rfl rfl ?_
          exact ih93 M v33_1 v33_2 v33_2 x93 hJ (zbot _) (ztop _) (by omega) (by omega) (by omega)
      · intro M u93_1 u93_2 v93_3 v93_4 hJ v93_30 v93_31 v93_40 v93_41 hn
        refine w_lo dX9_tugs_93 rfl rfl rfl rfl ?_
        rcases zcut v93_4.toInt (0 : Int) with h95 | h95
        · skip
          refine w_ilt_t dX9_tugs_95 (t := 138) rfl (by omega) ?_
          refine w_en dX9_tugs_138 rfl ?_
          exact ⟨_, rfl, hJ, trivial⟩
        · skip
          refine w_ilt_f dX9_tugs_95 (t := 138) rfl (by omega) ?_
          refine w_lo dX9_tugs_98 rfl rfl rfl rfl ?_
          rcases zcut (0 : Int) v93_3.toInt with h96 | h96
          · skip
            refine w_ile_f dX9_tugs_99 (t := 138) rfl (by omega) ?_
            refine w_lo dX9_tugs_102 rfl rfl rfl rfl ?_
            refine w_lo dX9_tugs_103 rfl rfl rfl rfl ?_
            refine w_iv dX9_tugs_105 rfl rfl (As := [.int v93_4]) rfl rfl hJ.1.1 zs_386 (Nat.le_of_ble_eq_true rfl) ?_
            refine ZV.of (ini := false) rfl (Nat.le_of_ble_eq_true rfl) (by decide +kernel) ?_
            show ZW _ _ _ _ _ _ _ (0, [some (.ref 386), some (.int v93_4)], [], M)
            refine w_lo dX9_isTied_0 rfl rfl rfl rfl ?_
            refine w_gf dX9_isTied_1 rfl hJ.1.1 zs_386 (zr_386_60 hJ.1) ?_
            refine w_bi dX9_isTied_4 (c := 11) (by decide) ?_
            refine w_lo dX9_isTied_6 rfl rfl rfl rfl ?_
            refine w_gfi dX9_isTied_7 rfl hJ.1 zs_386 (Nat.le_of_ble_eq_true rfl) zo_386_71 ?_
            intro x97 f98 h99 h100
            rcases Int.decEq x97.toInt (0 : Int) with h101 | h101
            · skip
              refine w_ieq_f dX9_isTied_10 (t := 17) rfl (by omega) ?_
              refine w_ic dX9_isTied_13 zi_0 ?_
              refine w_gt dX9_isTied_14 (t := 21) rfl ?_
              refine w_pu (st' := [.int 0, .ref 429]) dX9_isTied_21 rfl rfl ?_
              refine w_lo dX9_isTied_22 rfl rfl rfl rfl ?_
              refine w_add dX9_isTied_23 (by have := zt_0; omega) ?_
              intro x102 h103
              have := zt_0
              refine w_iai dX9_isTied_24 hJ.1 zs_429 (by omega) (by omega) zu_429 ?_
              intro x107 f104 h105 h106
              refine w_ic dX9_isTied_25 zi_1 ?_
              rcases Int.decEq x107.toInt (1 : Int) with h108 | h108
              · skip
                refine w_cne_t dX9_isTied_26 (t := 33) rfl (by have := zt_1; omega) ?_
                refine w_ic dX9_isTied_33 zi_0 ?_
                refine w_en dX9_isTied_34 rfl ?_
                show ZW _ _ _ _ _ _ _ (108, [some (.ref 386), some (.int u93_1), some (.int u93_2), some (.int v93_3), some (.int v93_4)], [.int 0], M)
                refine w_ieq_t dX9_tugs_108 (t := 138) rfl (by have := zt_0; omega) ?_
                refine w_en dX9_tugs_138 rfl ?_
                exact ⟨_, rfl, hJ, trivial⟩
              · skip
                refine w_cne_f dX9_isTied_26 (t := 33) rfl (by have := zt_1; omega) ?_
                refine w_ic dX9_isTied_29 zi_1 ?_
                refine w_gt dX9_isTied_30 (t := 34) rfl ?_
                refine w_en dX9_isTied_34 rfl ?_
                show ZW _ _ _ _ _ _ _ (108, [some (.ref 386), some (.int u93_1), some (.int u93_2), some (.int v93_3), some (.int v93_4)], [.int 1], M)
                refine w_ieq_f dX9_tugs_108 (t := 138) rfl (by have := zt_1; omega) ?_
                refine w_lo dX9_tugs_111 rfl rfl rfl rfl ?_
                refine w_lo dX9_tugs_112 rfl rfl rfl rfl ?_
                refine w_lo dX9_tugs_113 rfl rfl rfl rfl ?_
                refine w_iv dX9_tugs_115 rfl rfl (As := [.int v93_4]) rfl rfl hJ.1.1 zs_386 (Nat.le_of_ble_eq_true rfl) ?_
                refine ZV.of (ini := false) rfl (Nat.le_of_ble_eq_true rfl) (by decide +kernel) ?_
                show ZW _ _ _ _ _ _ _ (0, [some (.ref 386), some (.int v93_4)], [], M)
                refine w_lo dX9_slackAt_0 rfl rfl rfl rfl ?_
                refine w_gf dX9_slackAt_1 rfl hJ.1.1 zs_386 (zr_386_61 hJ.1) ?_
                refine w_bi dX9_slackAt_4 (c := 11) (by decide) ?_
                refine w_lo dX9_slackAt_6 rfl rfl rfl rfl ?_
                refine w_gf dX9_slackAt_7 rfl hJ.1.1 zs_386 f98 ?_
                refine w_ieq_f dX9_slackAt_10 (t := 17) rfl (by omega) ?_
                refine w_ic dX9_slackAt_13 zi_0 ?_
                refine w_gt dX9_slackAt_14 (t := 21) rfl ?_
                refine w_pu (st' := [.int 0, .ref 430]) dX9_slackAt_21 rfl rfl ?_
                refine w_lo dX9_slackAt_22 rfl rfl rfl rfl ?_
                refine w_add dX9_slackAt_23 (by have := zt_0; omega) ?_
                intro x109 h110
                have := zt_0
                refine w_iai dX9_slackAt_24 hJ.1 zs_430 (by omega) (by omega) zu_430 ?_
                intro x114 f111 h112 h113
                refine w_eni dX9_slackAt_25 rfl rfl ?_
                show ZW _ _ _ _ _ _ _ (118, [some (.ref 386), some (.int u93_1), some (.int u93_2), some (.int v93_3), some (.int v93_4)], [.int x114, .int v93_3], M)
                refine w_puI dX9_tugs_118 rfl rfl ?_
                intro x115
                refine w_lo (ml' := [some (.ref 386), some (.int u93_1), some (.int u93_2), some (.int x115), some (.int v93_4)]) dX9_tugs_119 rfl rfl rfl rfl ?_
                refine w_lo dX9_tugs_120 rfl rfl rfl rfl ?_
                rcases zcut (0 : Int) x115.toInt with h116 | h116
                · skip
                  refine w_ile_f dX9_tugs_121 (t := 132) rfl (by omega) ?_
                  refine w_lo dX9_tugs_124 rfl rfl rfl rfl ?_
                  refine w_lo dX9_tugs_125 rfl rfl rfl rfl ?_
                  refine w_lo dX9_tugs_127 rfl rfl rfl rfl ?_
                  refine w_iv dX9_tugs_128 rfl rfl (As := [.int v93_4, .int x115]) rfl rfl hJ.1.1 zs_386 (Nat.le_of_ble_eq_true rfl) ?_
                  refine ZV.imp (k_2384 v93_4 (by omega) (by omega) x115 (by omega) (ztop _) hN hJ.1 (zIa_fr hP0 (zi_fr hJ.2) rfl)) ?_
                  rintro _ ⟨x120, M117, rfl, h121, h122, hJ118, hq119⟩
                  have hJ123 := zJ_trans hJ hJ118 (zSub_cons (fun _ _ h h' hk => zIR_a (by omega) (by omega)) (zSub_cons (fun _ _ h h' hk => zIR_s (zIR_a (by omega) (by omega))) (zSub_cons (fun _ _ h h' hk => zIR_s (zIR_s (zIR_e (by omega) (by omega) hk))) zSub_nil)))
                  show ZW _ _ _ _ _ _ _ (131, [some (.ref 386), some (.int u93_1), some (.int u93_2), some (.int x115), some (.int v93_4)], [.int x120], M117)
                  refine w_lo (ml' := [some (.ref 386), some (.int u93_1), some (.int u93_2), some (.int x120), some (.int v93_4)]) dX9_tugs_131 rfl rfl rfl rfl ?_
                  refine w_inc (kk := 4) dX9_tugs_132 rfl (m := -1) (by decide) (by omega) ?_
                  intro x124 h125
                  refine ⟨_, rfl, ?_⟩
                  show ZW _ _ _ _ _ _ _ (135, [some (.ref 386), some (.int u93_1), some (.int u93_2), some (.int x120), some (.int x124)], [], M117)
                  refine w_gt dX9_tugs_135 (t := 93) rfl ?_
                  exact ih93 M117 u93_1 u93_2 x120 x124 hJ123 (zbot _) (ztop _) (by omega) (by omega) (by omega)
                · skip
                  refine w_ile_t dX9_tugs_121 (t := 132) rfl (by omega) ?_
                  refine w_inc (kk := 4) dX9_tugs_132 rfl (m := -1) (by decide) (by omega) ?_
                  intro x126 h127
                  refine ⟨_, rfl, ?_⟩
                  show ZW _ _ _ _ _ _ _ (135, [some (.ref 386), some (.int u93_1), some (.int u93_2), some (.int x115), some (.int x126)], [], M)
                  refine w_gt dX9_tugs_135 (t := 93) rfl ?_
                  exact ih93 M u93_1 u93_2 x115 x126 hJ (zbot _) (ztop _) (by omega) (by omega) (by omega)
            · skip
              refine w_ieq_t dX9_isTied_10 (t := 17) rfl (by omega) ?_
              refine w_lo dX9_isTied_17 rfl rfl rfl rfl ?_
              refine w_gfi dX9_isTied_18 rfl hJ.1 zs_386 (Nat.le_of_ble_eq_true rfl) zo_386_72 ?_
              intro x128 f129 h130 h131
              refine w_mulc dX9_isTied_21 zt_11 (by have := zt_11; omega) ?_
              intro x132 h133
              have := zt_11
              refine w_lo dX9_isTied_22 rfl rfl rfl rfl ?_
              refine w_add dX9_isTied_23 (by omega) ?_
              intro x134 h135
              refine w_iai dX9_isTied_24 hJ.1 zs_429 (by omega) (by omega) zu_429 ?_
              intro x139 f136 h137 h138
              refine w_ic dX9_isTied_25 zi_1 ?_
              rcases Int.decEq x139.toInt (1 : Int) with h140 | h140
              · skip
                refine w_cne_t dX9_isTied_26 (t := 33) rfl (by have := zt_1; omega) ?_
                refine w_ic dX9_isTied_33 zi_0 ?_
                refine w_en dX9_isTied_34 rfl ?_
                show ZW _ _ _ _ _ _ _ (108, [some (.ref 386), some (.int u93_1), some (.int u93_2), some (.int v93_3), some (.int v93_4)], [.int 0], M)
                refine w_ieq_t dX9_tugs_108 (t := 138) rfl (by have := zt_0; omega) ?_
                refine w_en dX9_tugs_138 rfl ?_
                exact ⟨_, rfl, hJ, trivial⟩
              · skip
                refine w_cne_f dX9_isTied_26 (t := 33) rfl (by have := zt_1; omega) ?_
                refine w_ic dX9_isTied_29 zi_1 ?_
                refine w_gt dX9_isTied_30 (t := 34) rfl ?_
                refine w_en dX9_isTied_34 rfl ?_
                show ZW _ _ _ _ _ _ _ (108, [some (.ref 386), some (.int u93_1), some (.int u93_2), some (.int v93_3), some (.int v93_4)], [.int 1], M)
                refine w_ieq_f dX9_tugs_108 (t := 138) rfl (by have := zt_1; omega) ?_
                refine w_lo dX9_tugs_111 rfl rfl rfl rfl ?_
                refine w_lo dX9_tugs_112 rfl rfl rfl rfl ?_
                refine w_lo dX9_tugs_113 rfl rfl rfl rfl ?_
                refine w_iv dX9_tugs_115 rfl rfl (As := [.int v93_4]) rfl rfl hJ.1.1 zs_386 (Nat.le_of_ble_eq_true rfl) ?_
                refine ZV.of (ini := false) rfl (Nat.le_of_ble_eq_true rfl) (by decide +kernel) ?_
                show ZW _ _ _ _ _ _ _ (0, [some (.ref 386), some (.int v93_4)], [], M)
                refine w_lo dX9_slackAt_0 rfl rfl rfl rfl ?_
                refine w_gf dX9_slackAt_1 rfl hJ.1.1 zs_386 (zr_386_61 hJ.1) ?_
                refine w_bi dX9_slackAt_4 (c := 11) (by decide) ?_
                refine w_lo dX9_slackAt_6 rfl rfl rfl rfl ?_
                refine w_gf dX9_slackAt_7 rfl hJ.1.1 zs_386 f98 ?_
                refine w_ieq_t dX9_slackAt_10 (t := 17) rfl (by omega) ?_
                refine w_lo dX9_slackAt_17 rfl rfl rfl rfl ?_
                refine w_gf dX9_slackAt_18 rfl hJ.1.1 zs_386 f129 ?_
                refine w_mulc dX9_slackAt_21 zt_11 (by have := zt_11; omega) ?_
                intro x141 h142
                have := zt_11
                refine w_lo dX9_slackAt_22 rfl rfl rfl rfl ?_
                refine w_add dX9_slackAt_23 (by omega) ?_
                intro x143 h144
                refine w_iai dX9_slackAt_24 hJ.1 zs_430 (by omega) (by omega) zu_430 ?_
                intro x148 f145 h146 h147
                refine w_eni dX9_slackAt_25 rfl rfl ?_
                show ZW _ _ _ _ _ _ _ (118, [some (.ref 386), some (.int u93_1), some (.int u93_2), some (.int v93_3), some (.int v93_4)], [.int x148, .int v93_3], M)
                refine w_puI dX9_tugs_118 rfl rfl ?_
                intro x149
                refine w_lo (ml' := [some (.ref 386), some (.int u93_1), some (.int u93_2), some (.int x149), some (.int v93_4)]) dX9_tugs_119 rfl rfl rfl rfl ?_
                refine w_lo dX9_tugs_120 rfl rfl rfl rfl ?_
                rcases zcut (0 : Int) x149.toInt with h150 | h150
                · skip
                  refine w_ile_f dX9_tugs_121 (t := 132) rfl (by omega) ?_
                  refine w_lo dX9_tugs_124 rfl rfl rfl rfl ?_
                  refine w_lo dX9_tugs_125 rfl rfl rfl rfl ?_
                  refine w_lo dX9_tugs_127 rfl rfl rfl rfl ?_
                  refine w_iv dX9_tugs_128 rfl rfl (As := [.int v93_4, .int x149]) rfl rfl hJ.1.1 zs_386 (Nat.le_of_ble_eq_true rfl) ?_
                  refine ZV.imp (k_2384 v93_4 (by omega) (by omega) x149 (by omega) (ztop _) hN hJ.1 (zIa_fr hP0 (zi_fr hJ.2) rfl)) ?_
                  rintro _ ⟨x154, M151, rfl, h155, h156, hJ152, hq153⟩
                  have hJ157 := zJ_trans hJ hJ152 (zSub_cons (fun _ _ h h' hk => zIR_a (by omega) (by omega)) (zSub_cons (fun _ _ h h' hk => zIR_s (zIR_a (by omega) (by omega))) (zSub_cons (fun _ _ h h' hk => zIR_s (zIR_s (zIR_e (by omega) (by omega) hk))) zSub_nil)))
                  show ZW _ _ _ _ _ _ _ (131, [some (.ref 386), some (.int u93_1), some (.int u93_2), some (.int x149), some (.int v93_4)], [.int x154], M151)
                  refine w_lo (ml' := [some (.ref 386), some (.int u93_1), some (.int u93_2), some (.int x154), some (.int v93_4)]) dX9_tugs_131 rfl rfl rfl rfl ?_
                  refine w_inc (kk := 4) dX9_tugs_132 rfl (m := -1) (by decide) (by omega) ?_
                  intro x158 h159
                  refine ⟨_, rfl, ?_⟩
                  show ZW _ _ _ _ _ _ _ (135, [some (.ref 386), some (.int u93_1), some (.int u93_2), some (.int x154), some (.int x158)], [], M151)
                  refine w_gt dX9_tugs_135 (t := 93) rfl ?_
                  exact ih93 M151 u93_1 u93_2 x154 x158 hJ157 (zbot _) (ztop _) (by omega) (by omega) (by omega)
                · skip
                  refine w_ile_t dX9_tugs_121 (t := 132) rfl (by omega) ?_
                  refine w_inc (kk := 4) dX9_tugs_132 rfl (m := -1) (by decide) (by omega) ?_
                  intro x160 h161
                  refine ⟨_, rfl, ?_⟩
                  show ZW _ _ _ _ _ _ _ (135, [some (.ref 386), some (.int u93_1), some (.int u93_2), some (.int x149), some (.int x160)], [], M)
                  refine w_gt dX9_tugs_135 (t := 93) rfl ?_
                  exact ih93 M u93_1 u93_2 x149 x160 hJ (zbot _) (ztop _) (by omega) (by omega) (by omega)
          · skip
            refine w_ile_t dX9_tugs_99 (t := 138) rfl (by omega) ?_
            refine w_en dX9_tugs_138 rfl ?_
            exact ⟨_, rfl, hJ, trivial⟩
  obtain ⟨ih7, ih33, ih93⟩ := main 208
  show ZW _ _ _ _ _ _ _ (0, [some (.ref 386), some (.int a0), some (.int a1), none, none], [], M0)
  refine w_lo dX9_tugs_0 rfl rfl rfl rfl ?_
  refine w_ic dX9_tugs_1 zi_0 ?_
  refine w_pfi dX9_tugs_2 rfl hJ0 zs_386 (Nat.le_of_ble_eq_true rfl) zo_386_74 (by have := zt_0; omega) (by have := zt_0; omega) (zIR_s (zIR_s (zIR_k (by omega) (by omega)))) rfl rfl rfl ?_
  intro M162 hJ163 f164 hn165
  refine w_ic dX9_tugs_5 zi_0 ?_
  refine w_lo (ml' := [some (.ref 386), some (.int a0), some (.int a1), some (.int 0), none]) dX9_tugs_6 rfl rfl rfl rfl ?_
  exact ih7 M162 a0 a1 0 none hJ163 (by omega) (by omega) (zbot _) (ztop _) (by have := zt_0; omega) (by have := zt_0; omega) (by have := zt_0; omega)
set_option maxRecDepth 100000 in
theorem k_2397 {X : List Int32} {d N : Nat} {M0 : zM} (a0 : Int32) (a1 : Int32) (a2 : Int32) (hN : N ≤ 600) (hB0 : zB N M0) (hP0 : zIa (zi M0)) : ZV X (d + 8) 2397 [.ref 386, .int a0, .int a1, .int a2] M0 (zRI N [(416, 418, 1000), (434, 436, 1000), (386, 387, 70), (386, 387, 71), (386, 387, 72), (386, 387, 74)] M0 (-1) (2147483647) (fun _ _ => True)) := by
  have hJ0 : zJ N [(416, 418, 1000), (434, 436, 1000), (386, 387, 70), (386, 387, 71), (386, 387, 72), (386, 387, 74)] M0 M0 := zJ_refl hB0
  refine ZV.of (ini := false) rfl (Nat.le_of_ble_eq_true rfl) (by decide +kernel) ?_
  show ZW _ _ _ _ _ _ _ (0, [some (.ref 386), some (.int a0), some (.int a1), some (.int a2)], [], M0)
  refine w_lo dX9_feels_0 rfl rfl rfl rfl ?_
  refine w_lo dX9_feels_1 rfl rfl rfl rfl ?_
  refine w_iv dX9_feels_2 rfl rfl (As := [.int a0]) rfl rfl hJ0.1.1 zs_386 (Nat.le_of_ble_eq_true rfl) ?_
  refine ZV.of (ini := false) rfl (Nat.le_of_ble_eq_true rfl) (by decide +kernel) ?_
  show ZW _ _ _ _ _ _ _ (0, [some (.ref 386), some (.int a0)], [], M0)
  refine w_lo dX9_isBoy_0 rfl rfl rfl rfl ?_
  rcases zcut a0.toInt (0 : Int) with h1 | h1
  · skip
    refine w_ilt_t dX9_isBoy_1 (t := 21) rfl (by omega) ?_
    refine w_ic dX9_isBoy_21 zi_0 ?_
    refine w_en dX9_isBoy_22 rfl ?_
    show ZW _ _ _ _ _ _ _ (5, [some (.ref 386), some (.int a0), some (.int a1), some (.int a2)], [.int 0], M0)
    refine w_ieq_t dX9_feels_5 (t := 32) rfl (by have := zt_0; omega) ?_
    refine w_ic dX9_feels_32 zi_m1 ?_
    refine w_en dX9_feels_33 rfl ?_
    exact ⟨_, _, rfl, (by have := zt_m1; omega), (ztop _), hJ0, trivial⟩
  · skip
    refine w_ilt_f dX9_isBoy_1 (t := 21) rfl (by omega) ?_
    refine w_lo dX9_isBoy_4 rfl rfl rfl rfl ?_
    refine w_lo dX9_isBoy_5 rfl rfl rfl rfl ?_
    refine w_gf dX9_isBoy_6 rfl hJ0.1.1 zs_386 (zr_386_13 hJ0.1) ?_
    refine w_lo dX9_isBoy_9 rfl rfl rfl rfl ?_
    refine w_gfi dX9_isBoy_10 rfl hJ0.1 zs_386 (Nat.le_of_ble_eq_true rfl) zo_386_12 ?_
    intro x2 f3 h4 h5
    refine w_iai dX9_isBoy_13 hJ0.1 zs_388 (by omega) (by omega) zu_388 ?_
    intro x9 f6 h7 h8
    rcases zcut a0.toInt x9.toInt with h10 | h10
    · skip
      refine w_cge_f dX9_isBoy_14 (t := 21) rfl (by omega) ?_
      refine w_ic dX9_isBoy_17 zi_1 ?_
      refine w_gt dX9_isBoy_18 (t := 22) rfl ?_
      refine w_en dX9_isBoy_22 rfl ?_
      show ZW _ _ _ _ _ _ _ (5, [some (.ref 386), some (.int a0), some (.int a1), some (.int a2)], [.int 1], M0)
      refine w_ieq_f dX9_feels_5 (t := 32) rfl (by have := zt_1; omega) ?_
      refine w_lo dX9_feels_8 rfl rfl rfl rfl ?_
      refine w_lo dX9_feels_9 rfl rfl rfl rfl ?_
      refine w_iv dX9_feels_10 rfl rfl (As := [.int a2]) rfl rfl hJ0.1.1 zs_386 (Nat.le_of_ble_eq_true rfl) ?_
      refine ZV.of (ini := false) rfl (Nat.le_of_ble_eq_true rfl) (by decide +kernel) ?_
      show ZW _ _ _ _ _ _ _ (0, [some (.ref 386), some (.int a2)], [], M0)
      refine w_lo dX9_isBoy_0 rfl rfl rfl rfl ?_
      rcases zcut a2.toInt (0 : Int) with h11 | h11
      · skip
        refine w_ilt_t dX9_isBoy_1 (t := 21) rfl (by omega) ?_
        refine w_ic dX9_isBoy_21 zi_0 ?_
        refine w_en dX9_isBoy_22 rfl ?_
        show ZW _ _ _ _ _ _ _ (13, [some (.ref 386), some (.int a0), some (.int a1), some (.int a2)], [.int 0], M0)
        refine w_ieq_t dX9_feels_13 (t := 32) rfl (by have := zt_0; omega) ?_
        refine w_ic dX9_feels_32 zi_m1 ?_
        refine w_en dX9_feels_33 rfl ?_
        exact ⟨_, _, rfl, (by have := zt_m1; omega), (ztop _), hJ0, trivial⟩
      · skip
        refine w_ilt_f dX9_isBoy_1 (t := 21) rfl (by omega) ?_
        refine w_lo dX9_isBoy_4 rfl rfl rfl rfl ?_
        refine w_lo dX9_isBoy_5 rfl rfl rfl rfl ?_
        refine w_gf dX9_isBoy_6 rfl hJ0.1.1 zs_386 (zr_386_13 hJ0.1) ?_
        refine w_lo dX9_isBoy_9 rfl rfl rfl rfl ?_
        refine w_gf dX9_isBoy_10 rfl hJ0.1.1 zs_386 f3 ?_
        refine w_ia dX9_isBoy_13 hJ0.1.1 zs_388 (znat (by omega)) f6 ?_
        rcases zcut a2.toInt x9.toInt with h15 | h15
        · skip
          refine w_cge_f dX9_isBoy_14 (t := 21) rfl (by omega) ?_
          refine w_ic dX9_isBoy_17 zi_1 ?_
          refine w_gt dX9_isBoy_18 (t := 22) rfl ?_
          refine w_en dX9_isBoy_22 rfl ?_
          show ZW _ _ _ _ _ _ _ (13, [some (.ref 386), some (.int a0), some (.int a1), some (.int a2)], [.int 1], M0)
          refine w_ieq_f dX9_feels_13 (t := 32) rfl (by have := zt_1; omega) ?_
          refine w_lo dX9_feels_16 rfl rfl rfl rfl ?_
          refine w_lo dX9_feels_17 rfl rfl rfl rfl ?_
          rcases Int.decEq a0.toInt a2.toInt with h16 | h16
          · skip
            refine w_ceq_f dX9_feels_18 (t := 32) rfl (by omega) ?_
            refine w_lo dX9_feels_21 rfl rfl rfl rfl ?_
            refine w_ic dX9_feels_22 zi_1 ?_
            refine w_si dX9_feels_23 (c := 9999) (by decide) ?_
            refine w_ss dX9_feels_26 rfl rfl (As := [.int a1, .int 1, .int 9999]) rfl rfl (Nat.le_of_ble_eq_true rfl) ?_
            refine ZV.of (ini := false) rfl (Nat.le_of_ble_eq_true rfl) (by decide +kernel) ?_
            show ZW _ _ _ _ _ _ _ (0, [some (.int a1), some (.int 1), some (.int 9999)], [], M0)
            refine w_lo dX9_is_0 rfl rfl rfl rfl ?_
            refine w_lo dX9_is_1 rfl rfl rfl rfl ?_
            rcases zcut a1.toInt (1 : Int) with h17 | h17
            · skip
              refine w_clt_t dX9_is_2 (t := 14) rfl (by have := zt_1; omega) ?_
              refine w_ic dX9_is_14 zi_0 ?_
              refine w_en dX9_is_15 rfl ?_
              show ZW _ _ _ _ _ _ _ (29, [some (.ref 386), some (.int a0), some (.int a1), some (.int a2)], [.int 0], M0)
              refine w_ine_f dX9_feels_29 (t := 34) rfl (by have := zt_0; omega) ?_
              refine w_ic dX9_feels_32 zi_m1 ?_
              refine w_en dX9_feels_33 rfl ?_
              exact ⟨_, _, rfl, (by have := zt_m1; omega), (ztop _), hJ0, trivial⟩
            · skip
              refine w_clt_f dX9_is_2 (t := 14) rfl (by have := zt_1; omega) ?_
              refine w_lo dX9_is_5 rfl rfl rfl rfl ?_
              refine w_lo dX9_is_6 rfl rfl rfl rfl ?_
              rcases zcut (9999 : Int) a1.toInt with h18 | h18
              · skip
                refine w_cgt_t dX9_is_7 (t := 14) rfl (by have := zt_9999; omega) ?_
                refine w_ic dX9_is_14 zi_0 ?_
                refine w_en dX9_is_15 rfl ?_
                show ZW _ _ _ _ _ _ _ (29, [some (.ref 386), some (.int a0), some (.int a1), some (.int a2)], [.int 0], M0)
                refine w_ine_f dX9_feels_29 (t := 34) rfl (by have := zt_0; omega) ?_
                refine w_ic dX9_feels_32 zi_m1 ?_
                refine w_en dX9_feels_33 rfl ?_
                exact ⟨_, _, rfl, (by have := zt_m1; omega), (ztop _), hJ0, trivial⟩
              · skip
                refine w_cgt_f dX9_is_7 (t := 14) rfl (by have := zt_9999; omega) ?_
                refine w_ic dX9_is_10 zi_1 ?_
                refine w_gt dX9_is_11 (t := 15) rfl ?_
                refine w_en dX9_is_15 rfl ?_
                show ZW _ _ _ _ _ _ _ (29, [some (.ref 386), some (.int a0), some (.int a1), some (.int a2)], [.int 1], M0)
                refine w_ine_t dX9_feels_29 (t := 34) rfl (by have := zt_1; omega) ?_
                refine w_lo dX9_feels_34 rfl rfl rfl rfl ?_
                refine w_ic dX9_feels_35 zi_0 ?_
                refine w_iv dX9_feels_36 rfl rfl (As := [.int 0]) rfl rfl hJ0.1.1 zs_386 (Nat.le_of_ble_eq_true rfl) ?_
                refine ZV.imp (k_2363 0 (by have := zt_0; omega) (by have := zt_0; omega) hN hJ0.1) ?_
                rintro _ ⟨M19, rfl, hJ20, hq21⟩
                have hJ22 := zJ_trans hJ0 hJ20 (zSub_cons (fun _ _ h h' hk => zIR_s (zIR_a (by omega) (by omega))) (zSub_cons (fun _ _ h h' hk => zIR_s (zIR_s (zIR_e (by omega) (by omega) hk))) (zSub_cons (fun _ _ h h' hk => zIR_s (zIR_s (zIR_s (zIR_e (by omega) (by omega) hk)))) (zSub_cons (fun _ _ h h' hk => zIR_s (zIR_s (zIR_s (zIR_s (zIR_e (by omega) (by omega) hk))))) zSub_nil))))
                show ZW _ _ _ _ _ _ _ (39, [some (.ref 386), some (.int a0), some (.int a1), some (.int a2)], [], M19)
                refine w_lo dX9_feels_39 rfl rfl rfl rfl ?_
                refine w_lo dX9_feels_40 rfl rfl rfl rfl ?_
                refine w_lo dX9_feels_41 rfl rfl rfl rfl ?_
                refine w_iv dX9_feels_42 rfl rfl (As := [.int a0, .int a1]) rfl rfl hJ22.1.1 zs_386 (Nat.le_of_ble_eq_true rfl) ?_
                refine ZV.imp (k_2382 a0 (by omega) (by omega) a1 hN hJ22.1 (zIa_fr hP0 (zi_fr hJ22.2) rfl)) ?_
                rintro _ ⟨M23, rfl, hJ24, hq25⟩
                have hJ26 := zJ_trans hJ22 hJ24 (zSub_cons (fun _ _ h h' hk => zIR_a (by omega) (by omega)) (zSub_cons (fun _ _ h h' hk => zIR_s (zIR_a (by omega) (by omega))) (zSub_cons (fun _ _ h h' hk => zIR_s (zIR_s (zIR_s (zIR_s (zIR_s (zIR_e (by omega) (by omega) hk)))))) zSub_nil)))
                show ZW _ _ _ _ _ _ _ (45, [some (.ref 386), some (.int a0), some (.int a1), some (.int a2)], [], M23)
                refine w_lo dX9_feels_45 rfl rfl rfl rfl ?_
                refine w_gf dX9_feels_46 rfl hJ26.1.1 zs_386 (zr_386_73 hJ26.1) ?_
                refine w_lo dX9_feels_49 rfl rfl rfl rfl ?_
                refine w_iai dX9_feels_50 hJ26.1 zs_435 (by omega) (by omega) zu_435 ?_
                intro x30 f27 h28 h29
                refine w_eni dX9_feels_51 rfl rfl ?_
                exact ⟨_, _, rfl, (by omega), (ztop _), hJ26, trivial⟩
          · skip
            refine w_ceq_t dX9_feels_18 (t := 32) rfl (by omega) ?_
            refine w_ic dX9_feels_32 zi_m1 ?_
            refine w_en dX9_feels_33 rfl ?_
            exact ⟨_, _, rfl, (by have := zt_m1; omega), (ztop _), hJ0, trivial⟩
        · skip
          refine w_cge_t dX9_isBoy_14 (t := 21) rfl (by omega) ?_
          refine w_ic dX9_isBoy_21 zi_0 ?_
          refine w_en dX9_isBoy_22 rfl ?_
          show ZW _ _ _ _ _ _ _ (13, [some (.ref 386), some (.int a0), some (.int a1), some (.int a2)], [.int 0], M0)
          refine w_ieq_t dX9_feels_13 (t := 32) rfl (by have := zt_0; omega) ?_
          refine w_ic dX9_feels_32 zi_m1 ?_
          refine w_en dX9_feels_33 rfl ?_
          exact ⟨_, _, rfl, (by have := zt_m1; omega), (ztop _), hJ0, trivial⟩
    · skip
      refine w_cge_t dX9_isBoy_14 (t := 21) rfl (by omega) ?_
      refine w_ic dX9_isBoy_21 zi_0 ?_
      refine w_en dX9_isBoy_22 rfl ?_
      show ZW _ _ _ _ _ _ _ (5, [some (.ref 386), some (.int a0), some (.int a1), some (.int a2)], [.int 0], M0)
      refine w_ieq_t dX9_feels_5 (t := 32) rfl (by have := zt_0; omega) ?_
      refine w_ic dX9_feels_32 zi_m1 ?_
      refine w_en dX9_feels_33 rfl ?_
      exact ⟨_, _, rfl, (by have := zt_m1; omega), (ztop _), hJ0, trivial⟩
set_option maxRecDepth 100000 in
theorem k_2398 {X : List Int32} {d N : Nat} {M0 : zM} (a0 : Int32) (a1 : Int32) (hN : N ≤ 600) (hB0 : zB N M0) (hP0 : zIa (zi M0)) : ZV X (d + 8) 2398 [.ref 386, .int a0, .int a1] M0 (zRI N [(416, 418, 1000), (434, 436, 1000), (386, 387, 70), (386, 387, 71), (386, 387, 72), (386, 387, 74)] M0 (-1) (4095) (fun _ _ => True)) := by
  have hJ0 : zJ N [(416, 418, 1000), (434, 436, 1000), (386, 387, 70), (386, 387, 71), (386, 387, 72), (386, 387, 74)] M0 M0 := zJ_refl hB0
  refine ZV.of (ini := false) rfl (Nat.le_of_ble_eq_true rfl) (by decide +kernel) ?_
  show ZW _ _ _ _ _ _ _ (0, [some (.ref 386), some (.int a0), some (.int a1)], [], M0)
  refine w_lo dX9_wakes_0 rfl rfl rfl rfl ?_
  refine w_lo dX9_wakes_1 rfl rfl rfl rfl ?_
  refine w_iv dX9_wakes_2 rfl rfl (As := [.int a0]) rfl rfl hJ0.1.1 zs_386 (Nat.le_of_ble_eq_true rfl) ?_
  refine ZV.of (ini := false) rfl (Nat.le_of_ble_eq_true rfl) (by decide +kernel) ?_
  show ZW _ _ _ _ _ _ _ (0, [some (.ref 386), some (.int a0)], [], M0)
  refine w_lo dX9_isBoy_0 rfl rfl rfl rfl ?_
  rcases zcut a0.toInt (0 : Int) with h1 | h1
  · skip
    refine w_ilt_t dX9_isBoy_1 (t := 21) rfl (by omega) ?_
    refine w_ic dX9_isBoy_21 zi_0 ?_
    refine w_en dX9_isBoy_22 rfl ?_
    show ZW _ _ _ _ _ _ _ (5, [some (.ref 386), some (.int a0), some (.int a1)], [.int 0], M0)
    refine w_ieq_t dX9_wakes_5 (t := 19) rfl (by have := zt_0; omega) ?_
    refine w_ic dX9_wakes_19 zi_m1 ?_
    refine w_en dX9_wakes_20 rfl ?_
    exact ⟨_, _, rfl, (by have := zt_m1; omega), (by have := zt_m1; omega), hJ0, trivial⟩
  · skip
    refine w_ilt_f dX9_isBoy_1 (t := 21) rfl (by omega) ?_
    refine w_lo dX9_isBoy_4 rfl rfl rfl rfl ?_
    refine w_lo dX9_isBoy_5 rfl rfl rfl rfl ?_
    refine w_gf dX9_isBoy_6 rfl hJ0.1.1 zs_386 (zr_386_13 hJ0.1) ?_
    refine w_lo dX9_isBoy_9 rfl rfl rfl rfl ?_
    refine w_gfi dX9_isBoy_10 rfl hJ0.1 zs_386 (Nat.le_of_ble_eq_true rfl) zo_386_12 ?_
    intro x2 f3 h4 h5
    refine w_iai dX9_isBoy_13 hJ0.1 zs_388 (by omega) (by omega) zu_388 ?_
    intro x9 f6 h7 h8
    rcases zcut a0.toInt x9.toInt with h10 | h10
    · skip
      refine w_cge_f dX9_isBoy_14 (t := 21) rfl (by omega) ?_
      refine w_ic dX9_isBoy_17 zi_1 ?_
      refine w_gt dX9_isBoy_18 (t := 22) rfl ?_
      refine w_en dX9_isBoy_22 rfl ?_
      show ZW _ _ _ _ _ _ _ (5, [some (.ref 386), some (.int a0), some (.int a1)], [.int 1], M0)
      refine w_ieq_f dX9_wakes_5 (t := 19) rfl (by have := zt_1; omega) ?_
      refine w_lo dX9_wakes_8 rfl rfl rfl rfl ?_
      refine w_ic dX9_wakes_9 zi_1 ?_
      refine w_si dX9_wakes_10 (c := 9999) (by decide) ?_
      refine w_ss dX9_wakes_13 rfl rfl (As := [.int a1, .int 1, .int 9999]) rfl rfl (Nat.le_of_ble_eq_true rfl) ?_
      refine ZV.of (ini := false) rfl (Nat.le_of_ble_eq_true rfl) (by decide +kernel) ?_
      show ZW _ _ _ _ _ _ _ (0, [some (.int a1), some (.int 1), some (.int 9999)], [], M0)
      refine w_lo dX9_is_0 rfl rfl rfl rfl ?_
      refine w_lo dX9_is_1 rfl rfl rfl rfl ?_
      rcases zcut a1.toInt (1 : Int) with h11 | h11
      · skip
        refine w_clt_t dX9_is_2 (t := 14) rfl (by have := zt_1; omega) ?_
        refine w_ic dX9_is_14 zi_0 ?_
        refine w_en dX9_is_15 rfl ?_
        show ZW _ _ _ _ _ _ _ (16, [some (.ref 386), some (.int a0), some (.int a1)], [.int 0], M0)
        refine w_ine_f dX9_wakes_16 (t := 21) rfl (by have := zt_0; omega) ?_
        refine w_ic dX9_wakes_19 zi_m1 ?_
        refine w_en dX9_wakes_20 rfl ?_
        exact ⟨_, _, rfl, (by have := zt_m1; omega), (by have := zt_m1; omega), hJ0, trivial⟩
      · skip
        refine w_clt_f dX9_is_2 (t := 14) rfl (by have := zt_1; omega) ?_
        refine w_lo dX9_is_5 rfl rfl rfl rfl ?_
        refine w_lo dX9_is_6 rfl rfl rfl rfl ?_
        rcases zcut (9999 : Int) a1.toInt with h12 | h12
        · skip
          refine w_cgt_t dX9_is_7 (t := 14) rfl (by have := zt_9999; omega) ?_
          refine w_ic dX9_is_14 zi_0 ?_
          refine w_en dX9_is_15 rfl ?_
          show ZW _ _ _ _ _ _ _ (16, [some (.ref 386), some (.int a0), some (.int a1)], [.int 0], M0)
          refine w_ine_f dX9_wakes_16 (t := 21) rfl (by have := zt_0; omega) ?_
          refine w_ic dX9_wakes_19 zi_m1 ?_
          refine w_en dX9_wakes_20 rfl ?_
          exact ⟨_, _, rfl, (by have := zt_m1; omega), (by have := zt_m1; omega), hJ0, trivial⟩
        · skip
          refine w_cgt_f dX9_is_7 (t := 14) rfl (by have := zt_9999; omega) ?_
          refine w_ic dX9_is_10 zi_1 ?_
          refine w_gt dX9_is_11 (t := 15) rfl ?_
          refine w_en dX9_is_15 rfl ?_
          show ZW _ _ _ _ _ _ _ (16, [some (.ref 386), some (.int a0), some (.int a1)], [.int 1], M0)
          refine w_ine_t dX9_wakes_16 (t := 21) rfl (by have := zt_1; omega) ?_
          refine w_lo dX9_wakes_21 rfl rfl rfl rfl ?_
          refine w_ic dX9_wakes_22 zi_0 ?_
          refine w_iv dX9_wakes_23 rfl rfl (As := [.int 0]) rfl rfl hJ0.1.1 zs_386 (Nat.le_of_ble_eq_true rfl) ?_
          refine ZV.imp (k_2363 0 (by have := zt_0; omega) (by have := zt_0; omega) hN hJ0.1) ?_
          rintro _ ⟨M13, rfl, hJ14, hq15⟩
          have hJ16 := zJ_trans hJ0 hJ14 (zSub_cons (fun _ _ h h' hk => zIR_s (zIR_a (by omega) (by omega))) (zSub_cons (fun _ _ h h' hk => zIR_s (zIR_s (zIR_e (by omega) (by omega) hk))) (zSub_cons (fun _ _ h h' hk => zIR_s (zIR_s (zIR_s (zIR_e (by omega) (by omega) hk)))) (zSub_cons (fun _ _ h h' hk => zIR_s (zIR_s (zIR_s (zIR_s (zIR_e (by omega) (by omega) hk))))) zSub_nil))))
          show ZW _ _ _ _ _ _ _ (26, [some (.ref 386), some (.int a0), some (.int a1)], [], M13)
          refine w_lo dX9_wakes_26 rfl rfl rfl rfl ?_
          refine w_lo dX9_wakes_27 rfl rfl rfl rfl ?_
          refine w_lo dX9_wakes_28 rfl rfl rfl rfl ?_
          refine w_iv dX9_wakes_29 rfl rfl (As := [.int a0, .int a1]) rfl rfl hJ16.1.1 zs_386 (Nat.le_of_ble_eq_true rfl) ?_
          refine ZV.imp (k_2382 a0 (by omega) (by omega) a1 hN hJ16.1 (zIa_fr hP0 (zi_fr hJ16.2) rfl)) ?_
          rintro _ ⟨M17, rfl, hJ18, hq19⟩
          have hJ20 := zJ_trans hJ16 hJ18 (zSub_cons (fun _ _ h h' hk => zIR_a (by omega) (by omega)) (zSub_cons (fun _ _ h h' hk => zIR_s (zIR_a (by omega) (by omega))) (zSub_cons (fun _ _ h h' hk => zIR_s (zIR_s (zIR_s (zIR_s (zIR_s (zIR_e (by omega) (by omega) hk)))))) zSub_nil)))
          show ZW _ _ _ _ _ _ _ (32, [some (.ref 386), some (.int a0), some (.int a1)], [], M17)
          refine w_lo dX9_wakes_32 rfl rfl rfl rfl ?_
          refine w_gfi dX9_wakes_33 rfl hJ20.1 zs_386 (Nat.le_of_ble_eq_true rfl) zo_386_74 ?_
          intro x21 f22 h23 h24
          refine w_eni dX9_wakes_36 rfl rfl ?_
          exact ⟨_, _, rfl, (by omega), (by omega), hJ20, trivial⟩
    · skip
      refine w_cge_t dX9_isBoy_14 (t := 21) rfl (by omega) ?_
      refine w_ic dX9_isBoy_21 zi_0 ?_
      refine w_en dX9_isBoy_22 rfl ?_
      show ZW _ _ _ _ _ _ _ (5, [some (.ref 386), some (.int a0), some (.int a1)], [.int 0], M0)
      refine w_ieq_t dX9_wakes_5 (t := 19) rfl (by have := zt_0; omega) ?_
      refine w_ic dX9_wakes_19 zi_m1 ?_
      refine w_en dX9_wakes_20 rfl ?_
      exact ⟨_, _, rfl, (by have := zt_m1; omega), (by have := zt_m1; omega), hJ0, trivial⟩
set_option maxRecDepth 100000 in
theorem k_2399 {X : List Int32} {d N : Nat} {M0 : zM} (a0 : Int32) (a1 : Int32) (hN : N ≤ 600) (hB0 : zB N M0) (hP0 : zIa (zi M0)) : ZV X (d + 8) 2399 [.ref 386, .int a0, .int a1] M0 (zRI N [(416, 418, 1000), (434, 436, 1000), (386, 387, 70), (386, 387, 71), (386, 387, 72), (386, 387, 74)] M0 (-1) (9999) (fun _ _ => True)) := by
  have hJ0 : zJ N [(416, 418, 1000), (434, 436, 1000), (386, 387, 70), (386, 387, 71), (386, 387, 72), (386, 387, 74)] M0 M0 := zJ_refl hB0
  refine ZV.of (ini := false) rfl (Nat.le_of_ble_eq_true rfl) (by decide +kernel) ?_
  have main : ∀ n : Nat,
      (∀ (M : zM) (v30_1 : Int32) (v30_2 : Int32) (v30_3 : Int32), zJ N [(416, 418, 1000), (434, 436, 1000), (386, 387, 70), (386, 387, 71), (386, 387, 72), (386, 387, 74)] M0 M → ((0 : Int) ≤ v30_1.toInt) → (v30_1.toInt ≤ 11) → ((0 : Int) ≤ v30_2.toInt) → (v30_2.toInt ≤ 11) → ((1 : Int) ≤ v30_3.toInt) → (v30_3.toInt ≤ 10000) → 3 * (10000 - v30_3.toInt) + 1 < (n : Int) → ZW X (d + 7) 9 false (some .int) cX9_least (zRI N [(416, 418, 1000), (434, 436, 1000), (386, 387, 70), (386, 387, 71), (386, 387, 72), (386, 387, 74)] M0 (-1) (9999) (fun _ _ => True)) (30, [some (.ref 386), some (.int v30_1), some (.int v30_2), some (.int v30_3)], [], M)) := by
    intro n
    induction n with
    | zero =>
      exact (fun M v30_1 v30_2 v30_3 hJ v30_10 v30_11 v30_20 v30_21 v30_30 v30_31 hn => absurd hn (by omega))
    | succ n ih =>
      have ih30 := ih
      · intro M v30_1 v30_2 v30_3 hJ v30_10 v30_11 v30_20 v30_21 v30_30 v30_31 hn
        refine w_lo dX9_least_30 rfl rfl rfl rfl ?_
        refine w_si dX9_least_31 (c := 9999) (by decide) ?_
        rcases zcut (9999 : Int) v30_3.toInt with h1 | h1
        · skip
          refine w_cgt_t dX9_least_34 (t := 63) rfl (by have := zt_9999; omega) ?_
          refine w_ic dX9_least_63 zi_m1 ?_
          refine w_en dX9_least_64 rfl ?_
          exact ⟨_, _, rfl, (by have := zt_m1; omega), (by have := zt_m1; omega), hJ, trivial⟩
        · skip
          refine w_cgt_f dX9_least_34 (t := 63) rfl (by have := zt_9999; omega) ?_
          refine w_lo dX9_least_37 rfl rfl rfl rfl ?_
          refine w_lo dX9_least_38 rfl rfl rfl rfl ?_
          refine w_lo dX9_least_39 rfl rfl rfl rfl ?_
          refine w_iv dX9_least_40 rfl rfl (As := [.int v30_1, .int v30_3]) rfl rfl hJ.1.1 zs_386 (Nat.le_of_ble_eq_true rfl) ?_
          refine ZV.imp (k_2382 v30_1 (by omega) (by omega) v30_3 hN hJ.1 (zIa_fr hP0 (zi_fr hJ.2) rfl)) ?_
          rintro _ ⟨M2, rfl, hJ3, hq4⟩
          have hJ5 := zJ_trans hJ hJ3 (zSub_cons (fun _ _ h h' hk => zIR_a (by omega) (by omega)) (zSub_cons (fun _ _ h h' hk => zIR_s (zIR_a (by omega) (by omega))) (zSub_cons (fun _ _ h h' hk => zIR_s (zIR_s (zIR_s (zIR_s (zIR_s (zIR_e (by omega) (by omega) hk)))))) zSub_nil)))
          show ZW _ _ _ _ _ _ _ (43, [some (.ref 386), some (.int v30_1), some (.int v30_2), some (.int v30_3)], [], M2)
          refine w_lo dX9_least_43 rfl rfl rfl rfl ?_
          refine w_gfi dX9_least_44 rfl hJ5.1 zs_386 (Nat.le_of_ble_eq_true rfl) zo_386_74 ?_
          intro x6 f7 h8 h9
          refine w_lo dX9_least_47 rfl rfl rfl rfl ?_
          refine w_puI dX9_least_48 rfl rfl ?_
          intro x10
          refine w_ic dX9_least_49 zi_1 ?_
          refine w_and dX9_least_50 (m := 1) zt_1 (by omega) ?_
          intro x11 h12 h13
          refine w_ic dX9_least_51 zi_1 ?_
          rcases Int.decEq x11.toInt (1 : Int) with h14 | h14
          · skip
            refine w_cne_t dX9_least_52 (t := 57) rfl (by have := zt_1; omega) ?_
            refine w_inc (kk := 3) dX9_least_57 rfl (m := 1) (by decide) (by omega) ?_
            intro x15 h16
            refine ⟨_, rfl, ?_⟩
            show ZW _ _ _ _ _ _ _ (60, [some (.ref 386), some (.int v30_1), some (.int v30_2), some (.int x15)], [], M2)
            refine w_gt dX9_least_60 (t := 30) rfl ?_
            exact ih30 M2 v30_1 v30_2 x15 hJ5 (by omega) (by omega) (by omega) (by omega) (by omega) (by omega) (by omega)
          · skip
            refine w_cne_f dX9_least_52 (t := 57) rfl (by have := zt_1; omega) ?_
            refine w_lo dX9_least_55 rfl rfl rfl rfl ?_
            refine w_eni dX9_least_56 rfl rfl ?_
            exact ⟨_, _, rfl, (by omega), (by omega), hJ5, trivial⟩
  have ih30 := main 30009
  show ZW _ _ _ _ _ _ _ (0, [some (.ref 386), some (.int a0), some (.int a1), none], [], M0)
  refine w_lo dX9_least_0 rfl rfl rfl rfl ?_
  refine w_lo dX9_least_1 rfl rfl rfl rfl ?_
  refine w_iv dX9_least_2 rfl rfl (As := [.int a0]) rfl rfl hJ0.1.1 zs_386 (Nat.le_of_ble_eq_true rfl) ?_
  refine ZV.of (ini := false) rfl (Nat.le_of_ble_eq_true rfl) (by decide +kernel) ?_
  show ZW _ _ _ _ _ _ _ (0, [some (.ref 386), some (.int a0)], [], M0)
  refine w_lo dX9_isBoy_0 rfl rfl rfl rfl ?_
  rcases zcut a0.toInt (0 : Int) with h17 | h17
  · skip
    refine w_ilt_t dX9_isBoy_1 (t := 21) rfl (by omega) ?_
    refine w_ic dX9_isBoy_21 zi_0 ?_
    refine w_en dX9_isBoy_22 rfl ?_
    show ZW _ _ _ _ _ _ _ (5, [some (.ref 386), some (.int a0), some (.int a1), none], [.int 0], M0)
    refine w_ieq_t dX9_least_5 (t := 21) rfl (by have := zt_0; omega) ?_
    refine w_ic dX9_least_21 zi_m1 ?_
    refine w_en dX9_least_22 rfl ?_
    exact ⟨_, _, rfl, (by have := zt_m1; omega), (by have := zt_m1; omega), hJ0, trivial⟩
  · skip
    refine w_ilt_f dX9_isBoy_1 (t := 21) rfl (by omega) ?_
    refine w_lo dX9_isBoy_4 rfl rfl rfl rfl ?_
    refine w_lo dX9_isBoy_5 rfl rfl rfl rfl ?_
    refine w_gf dX9_isBoy_6 rfl hJ0.1.1 zs_386 (zr_386_13 hJ0.1) ?_
    refine w_lo dX9_isBoy_9 rfl rfl rfl rfl ?_
    refine w_gfi dX9_isBoy_10 rfl hJ0.1 zs_386 (Nat.le_of_ble_eq_true rfl) zo_386_12 ?_
    intro x18 f19 h20 h21
    refine w_iai dX9_isBoy_13 hJ0.1 zs_388 (by omega) (by omega) zu_388 ?_
    intro x25 f22 h23 h24
    rcases zcut a0.toInt x25.toInt with h26 | h26
    · skip
      refine w_cge_f dX9_isBoy_14 (t := 21) rfl (by omega) ?_
      refine w_ic dX9_isBoy_17 zi_1 ?_
      refine w_gt dX9_isBoy_18 (t := 22) rfl ?_
      refine w_en dX9_isBoy_22 rfl ?_
      show ZW _ _ _ _ _ _ _ (5, [some (.ref 386), some (.int a0), some (.int a1), none], [.int 1], M0)
      refine w_ieq_f dX9_least_5 (t := 21) rfl (by have := zt_1; omega) ?_
      refine w_lo dX9_least_8 rfl rfl rfl rfl ?_
      refine w_lo dX9_least_9 rfl rfl rfl rfl ?_
      refine w_iv dX9_least_10 rfl rfl (As := [.int a1]) rfl rfl hJ0.1.1 zs_386 (Nat.le_of_ble_eq_true rfl) ?_
      refine ZV.of (ini := false) rfl (Nat.le_of_ble_eq_true rfl) (by decide +kernel) ?_
      show ZW _ _ _ _ _ _ _ (0, [some (.ref 386), some (.int a1)], [], M0)
      refine w_lo dX9_isBoy_0 rfl rfl rfl rfl ?_
      rcases zcut a1.toInt (0 : Int) with h27 | h27
      · skip
        refine w_ilt_t dX9_isBoy_1 (t := 21) rfl (by omega) ?_
        refine w_ic dX9_isBoy_21 zi_0 ?_
        refine w_en dX9_isBoy_22 rfl ?_
        show ZW _ _ _ _ _ _ _ (13, [some (.ref 386), some (.int a0), some (.int a1), none], [.int 0], M0)
        refine w_ieq_t dX9_least_13 (t := 21) rfl (by have := zt_0; omega) ?_
        refine w_ic dX9_least_21 zi_m1 ?_
        refine w_en dX9_least_22 rfl ?_
        exact ⟨_, _, rfl, (by have := zt_m1; omega), (by have := zt_m1; omega), hJ0, trivial⟩
      · skip
        refine w_ilt_f dX9_isBoy_1 (t := 21) rfl (by omega) ?_
        refine w_lo dX9_isBoy_4 rfl rfl rfl rfl ?_
        refine w_lo dX9_isBoy_5 rfl rfl rfl rfl ?_
        refine w_gf dX9_isBoy_6 rfl hJ0.1.1 zs_386 (zr_386_13 hJ0.1) ?_
        refine w_lo dX9_isBoy_9 rfl rfl rfl rfl ?_
        refine w_gf dX9_isBoy_10 rfl hJ0.1.1 zs_386 f19 ?_
        refine w_ia dX9_isBoy_13 hJ0.1.1 zs_388 (znat (by omega)) f22 ?_
        rcases zcut a1.toInt x25.toInt with h31 | h31
        · skip
          refine w_cge_f dX9_isBoy_14 (t := 21) rfl (by omega) ?_
          refine w_ic dX9_isBoy_17 zi_1 ?_
          refine w_gt dX9_isBoy_18 (t := 22) rfl ?_
          refine w_en dX9_isBoy_22 rfl ?_
          show ZW _ _ _ _ _ _ _ (13, [some (.ref 386), some (.int a0), some (.int a1), none], [.int 1], M0)
          refine w_ieq_f dX9_least_13 (t := 21) rfl (by have := zt_1; omega) ?_
          refine w_lo dX9_least_16 rfl rfl rfl rfl ?_
          refine w_lo dX9_least_17 rfl rfl rfl rfl ?_
          rcases Int.decEq a0.toInt a1.toInt with h32 | h32
          · skip
            refine w_cne_t dX9_least_18 (t := 23) rfl (by omega) ?_
            refine w_lo dX9_least_23 rfl rfl rfl rfl ?_
            refine w_ic dX9_least_24 zi_0 ?_
            refine w_iv dX9_least_25 rfl rfl (As := [.int 0]) rfl rfl hJ0.1.1 zs_386 (Nat.le_of_ble_eq_true rfl) ?_
            refine ZV.imp (k_2363 0 (by have := zt_0; omega) (by have := zt_0; omega) hN hJ0.1) ?_
            rintro _ ⟨M33, rfl, hJ34, hq35⟩
            have hJ36 := zJ_trans hJ0 hJ34 (zSub_cons (fun _ _ h h' hk => zIR_s (zIR_a (by omega) (by omega))) (zSub_cons (fun _ _ h h' hk => zIR_s (zIR_s (zIR_e (by omega) (by omega) hk))) (zSub_cons (fun _ _ h h' hk => zIR_s (zIR_s (zIR_s (zIR_e (by omega) (by omega) hk)))) (zSub_cons (fun _ _ h h' hk => zIR_s (zIR_s (zIR_s (zIR_s (zIR_e (by omega) (by omega) hk))))) zSub_nil))))
            show ZW _ _ _ _ _ _ _ (28, [some (.ref 386), some (.int a0), some (.int a1), none], [], M33)
            refine w_ic dX9_least_28 zi_1 ?_
            refine w_lo (ml' := [some (.ref 386), some (.int a0), some (.int a1), some (.int 1)]) dX9_least_29 rfl rfl rfl rfl ?_
            exact ih30 M33 a0 a1 1 hJ36 (by omega) (by omega) (by omega) (by omega) (by have := zt_1; omega) (by have := zt_1; omega) (by have := zt_1; omega)
          · skip
            refine w_cne_f dX9_least_18 (t := 23) rfl (by omega) ?_
            refine w_ic dX9_least_21 zi_m1 ?_
            refine w_en dX9_least_22 rfl ?_
            exact ⟨_, _, rfl, (by have := zt_m1; omega), (by have := zt_m1; omega), hJ0, trivial⟩
        · skip
          refine w_cge_t dX9_isBoy_14 (t := 21) rfl (by omega) ?_
          refine w_ic dX9_isBoy_21 zi_0 ?_
          refine w_en dX9_isBoy_22 rfl ?_
          show ZW _ _ _ _ _ _ _ (13, [some (.ref 386), some (.int a0), some (.int a1), none], [.int 0], M0)
          refine w_ieq_t dX9_least_13 (t := 21) rfl (by have := zt_0; omega) ?_
          refine w_ic dX9_least_21 zi_m1 ?_
          refine w_en dX9_least_22 rfl ?_
          exact ⟨_, _, rfl, (by have := zt_m1; omega), (by have := zt_m1; omega), hJ0, trivial⟩
    · skip
      refine w_cge_t dX9_isBoy_14 (t := 21) rfl (by omega) ?_
      refine w_ic dX9_isBoy_21 zi_0 ?_
      refine w_en dX9_isBoy_22 rfl ?_
      show ZW _ _ _ _ _ _ _ (5, [some (.ref 386), some (.int a0), some (.int a1), none], [.int 0], M0)
      refine w_ieq_t dX9_least_5 (t := 21) rfl (by have := zt_0; omega) ?_
      refine w_ic dX9_least_21 zi_m1 ?_
      refine w_en dX9_least_22 rfl ?_
      exact ⟨_, _, rfl, (by have := zt_m1; omega), (by have := zt_m1; omega), hJ0, trivial⟩
set_option maxRecDepth 100000 in
theorem k_2401 {X : List Int32} {d N : Nat} {M0 : zM}  (hN : N ≤ 600) (hB0 : zB N M0) (hP0 : zIa (zi M0)) : ZV X (d + 8) 2401 [.ref 386] M0 (zRI N [(416, 418, 1000), (435, 436, 1000), (386, 387, 71), (386, 387, 74)] M0 (-2147483648) (2147483647) (fun _ _ => True)) := by
  have hJ0 : zJ N [(416, 418, 1000), (435, 436, 1000), (386, 387, 71), (386, 387, 74)] M0 M0 := zJ_refl hB0
  refine ZV.of (ini := false) rfl (Nat.le_of_ble_eq_true rfl) (by decide +kernel) ?_
  have main : ∀ n : Nat,
      (∀ (M : zM) (v9_1 : Int32) (v9_2 : Int32) (o9_3 : Option Value), zJ N [(416, 418, 1000), (435, 436, 1000), (386, 387, 71), (386, 387, 74)] M0 M → ((-2147483648 : Int) ≤ v9_1.toInt) → (v9_1.toInt ≤ 2147483647) → ((0 : Int) ≤ v9_2.toInt) → (v9_2.toInt ≤ 12) → 36 * (12 - v9_2.toInt) + 34 < (n : Int) → ZW X (d + 7) 9 false (some .int) cX9_badness (zRI N [(416, 418, 1000), (435, 436, 1000), (386, 387, 71), (386, 387, 74)] M0 (-2147483648) (2147483647) (fun _ _ => True)) (9, [some (.ref 386), some (.int v9_1), some (.int v9_2), o9_3], [], M)) ∧
      (∀ (M : zM) (v35_1 : Int32) (v35_2 : Int32) (v35_3 : Int32), zJ N [(416, 418, 1000), (435, 436, 1000), (386, 387, 71), (386, 387, 74)] M0 M → ((-2147483648 : Int) ≤ v35_1.toInt) → (v35_1.toInt ≤ 2147483647) → ((0 : Int) ≤ v35_2.toInt) → (v35_2.toInt ≤ 11) → ((0 : Int) ≤ v35_3.toInt) → (v35_3.toInt ≤ 6) → 36 * (12 - v35_2.toInt) + 4 * (6 - v35_3.toInt) + 1 < (n : Int) → ZW X (d + 7) 9 false (some .int) cX9_badness (zRI N [(416, 418, 1000), (435, 436, 1000), (386, 387, 71), (386, 387, 74)] M0 (-2147483648) (2147483647) (fun _ _ => True)) (35, [some (.ref 386), some (.int v35_1), some (.int v35_2), some (.int v35_3)], [], M)) := by
    intro n
    induction n with
    | zero =>
      exact ⟨(fun M v9_1 v9_2 o9_3 hJ v9_10 v9_11 v9_20 v9_21 hn => absurd hn (by omega)), (fun M v35_1 v35_2 v35_3 hJ v35_10 v35_11 v35_20 v35_21 v35_30 v35_31 hn => absurd hn (by omega))⟩
    | succ n ih =>
      obtain ⟨ih9, ih35⟩ := ih
      refine ⟨?_, ?_⟩
      · intro M v9_1 v9_2 o9_3 hJ v9_10 v9_11 v9_20 v9_21 hn
        refine w_lo dX9_badness_9 rfl rfl rfl rfl ?_
        refine w_lo dX9_badness_10 rfl rfl rfl rfl ?_
        refine w_gfi dX9_badness_11 rfl hJ.1 zs_386 (Nat.le_of_ble_eq_true rfl) zo_386_70 ?_
        intro x1 f2 h3 h4
        rcases zcut v9_2.toInt x1.toInt with h5 | h5
        · skip
          refine w_cge_f dX9_badness_14 (t := 124) rfl (by omega) ?_
          refine w_lo dX9_badness_17 rfl rfl rfl rfl ?_
          refine w_lo dX9_badness_18 rfl rfl rfl rfl ?_
          refine w_gf dX9_badness_19 rfl hJ.1.1 zs_386 (zr_386_69 hJ.1) ?_
          refine w_lo dX9_badness_22 rfl rfl rfl rfl ?_
          refine w_iai dX9_badness_23 hJ.1 zs_434 (by omega) (by omega) zu_434 ?_
          intro x9 f6 h7 h8
          refine w_iv dX9_badness_24 rfl rfl (As := [.int x9]) rfl rfl hJ.1.1 zs_386 (Nat.le_of_ble_eq_true rfl) ?_
          refine ZV.of (ini := false) rfl (Nat.le_of_ble_eq_true rfl) (by decide +kernel) ?_
          show ZW _ _ _ _ _ _ _ (0, [some (.ref 386), some (.int x9)], [], M)
          refine w_lo dX9_isGhost_0 rfl rfl rfl rfl ?_
          refine w_gf dX9_isGhost_1 rfl hJ.1.1 zs_386 (zr_386_19 hJ.1) ?_
          refine w_bi dX9_isGhost_4 (c := 12) (by decide) ?_
          refine w_lo dX9_isGhost_6 rfl rfl rfl rfl ?_
          refine w_gfi dX9_isGhost_7 rfl hJ.1 zs_386 (Nat.le_of_ble_eq_true rfl) zo_386_12 ?_
          intro x10 f11 h12 h13
          refine w_mulc dX9_isGhost_10 zt_12 (by have := zt_12; omega) ?_
          intro x14 h15
          have := zt_12
          refine w_lo dX9_isGhost_11 rfl rfl rfl rfl ?_
          refine w_add dX9_isGhost_12 (by omega) ?_
          intro x16 h17
          refine w_iai dX9_isGhost_13 hJ.1 zs_394 (by omega) (by omega) zu_394 ?_
          intro x21 f18 h19 h20
          refine w_ic dX9_isGhost_14 zi_2 ?_
          refine w_and dX9_isGhost_15 (m := 2) zt_2 (by omega) ?_
          intro x22 h23 h24
          rcases Int.decEq x22.toInt (0 : Int) with h25 | h25
          · skip
            refine w_ieq_f dX9_isGhost_16 (t := 23) rfl (by omega) ?_
            refine w_ic dX9_isGhost_19 zi_1 ?_
            refine w_gt dX9_isGhost_20 (t := 24) rfl ?_
            refine w_en dX9_isGhost_24 rfl ?_
            show ZW _ _ _ _ _ _ _ (27, [some (.ref 386), some (.int v9_1), some (.int v9_2), o9_3], [.int 1], M)
            refine w_ieq_f dX9_badness_27 (t := 33) rfl (by have := zt_1; omega) ?_
            refine w_gt dX9_badness_30 (t := 118) rfl ?_
            refine w_inc (kk := 2) dX9_badness_118 rfl (m := 1) (by decide) (by omega) ?_
            intro x26 h27
            refine ⟨_, rfl, ?_⟩
            show ZW _ _ _ _ _ _ _ (121, [some (.ref 386), some (.int v9_1), some (.int x26), o9_3], [], M)
            refine w_gt dX9_badness_121 (t := 9) rfl ?_
            exact ih9 M v9_1 x26 o9_3 hJ (zbot _) (ztop _) (by omega) (by omega) (by omega)
          · skip
            refine w_ieq_t dX9_isGhost_16 (t := 23) rfl (by omega) ?_
            refine w_ic dX9_isGhost_23 zi_0 ?_
            refine w_en dX9_isGhost_24 rfl ?_
            show ZW _ _ _ _ _ _ _ (27, [some (.ref 386), some (.int v9_1), some (.int v9_2), o9_3], [.int 0], M)
            refine w_ieq_t dX9_badness_27 (t := 33) rfl (by have := zt_0; omega) ?_
            refine w_ic dX9_badness_33 zi_0 ?_
            refine w_lo (ml' := [some (.ref 386), some (.int v9_1), some (.int v9_2), some (.int 0)]) dX9_badness_34 rfl rfl rfl rfl ?_
            exact ih35 M v9_1 v9_2 0 hJ (zbot _) (ztop _) (by omega) (by omega) (by have := zt_0; omega) (by have := zt_0; omega) (by have := zt_0; omega)
        · skip
          refine w_cge_t dX9_badness_14 (t := 124) rfl (by omega) ?_
          refine w_lo dX9_badness_124 rfl rfl rfl rfl ?_
          refine w_eni dX9_badness_125 rfl rfl ?_
          exact ⟨_, _, rfl, (zbot _), (ztop _), hJ, trivial⟩
      · intro M v35_1 v35_2 v35_3 hJ v35_10 v35_11 v35_20 v35_21 v35_30 v35_31 hn
        refine w_lo dX9_badness_35 rfl rfl rfl rfl ?_
        refine w_lo dX9_badness_36 rfl rfl rfl rfl ?_
        refine w_gf dX9_badness_37 rfl hJ.1.1 zs_386 (zr_386_21 hJ.1) ?_
        refine w_lo dX9_badness_40 rfl rfl rfl rfl ?_
        refine w_gfi dX9_badness_41 rfl hJ.1 zs_386 (Nat.le_of_ble_eq_true rfl) zo_386_12 ?_
        intro x28 f29 h30 h31
        refine w_iai dX9_badness_44 hJ.1 zs_396 (by omega) (by omega) zu_396 ?_
        intro x35 f32 h33 h34
        rcases zcut v35_3.toInt x35.toInt with h36 | h36
        · skip
          refine w_cge_f dX9_badness_45 (t := 118) rfl (by omega) ?_
          refine w_lo dX9_badness_48 rfl rfl rfl rfl ?_
          refine w_lo dX9_badness_49 rfl rfl rfl rfl ?_
          refine w_lo dX9_badness_50 rfl rfl rfl rfl ?_
          refine w_gf dX9_badness_51 rfl hJ.1.1 zs_386 (zr_386_23 hJ.1) ?_
          refine w_bi dX9_badness_54 (c := 6) (by decide) ?_
          refine w_lo dX9_badness_56 rfl rfl rfl rfl ?_
          refine w_gf dX9_badness_57 rfl hJ.1.1 zs_386 f29 ?_
          refine w_mulc dX9_badness_60 zt_6 (by have := zt_6; omega) ?_
          intro x37 h38
          have := zt_6
          refine w_lo dX9_badness_61 rfl rfl rfl rfl ?_
          refine w_add dX9_badness_62 (by omega) ?_
          intro x39 h40
          refine w_iai dX9_badness_63 hJ.1 zs_398 (by omega) (by omega) zu_398 ?_
          intro x44 f41 h42 h43
          refine w_iv dX9_badness_64 rfl rfl (As := [.int v35_2, .int x44]) rfl rfl hJ.1.1 zs_386 (Nat.le_of_ble_eq_true rfl) ?_
          refine ZV.imp (k_2382 v35_2 (by omega) (by omega) x44 hN hJ.1 (zIa_fr hP0 (zi_fr hJ.2) rfl)) ?_
          rintro _ ⟨M45, rfl, hJ46, hq47⟩
          have hJ48 := zJ_trans hJ hJ46 (zSub_cons (fun _ _ h h' hk => zIR_a (by omega) (by omega)) (zSub_cons (fun _ _ h h' hk => zIR_s (zIR_a (by omega) (by omega))) (zSub_cons (fun _ _ h h' hk => zIR_s (zIR_s (zIR_s (zIR_e (by omega) (by omega) hk)))) zSub_nil)))
          show ZW _ _ _ _ _ _ _ (67, [some (.ref 386), some (.int v35_1), some (.int v35_2), some (.int v35_3)], [], M45)
          refine w_lo dX9_badness_67 rfl rfl rfl rfl ?_
          refine w_lo dX9_badness_68 rfl rfl rfl rfl ?_
          refine w_gf dX9_badness_69 rfl hJ48.1.1 zs_386 (zr_386_17 hJ48.1) ?_
          refine w_bi dX9_badness_72 (c := 12) (by decide) ?_
          refine w_lo dX9_badness_74 rfl rfl rfl rfl ?_
          have f49 := (hJ46.2 (386) 12 (zNI (by omega) (zNI (by omega) (zNI_k (by decide) (by decide) zNI_nil)))).trans (f29)
          refine w_gf dX9_badness_75 rfl hJ48.1.1 zs_386 f49 ?_
          refine w_mulc dX9_badness_78 zt_12 (by have := zt_12; omega) ?_
          intro x50 h51
          have := zt_12
          refine w_lo dX9_badness_79 rfl rfl rfl rfl ?_
          refine w_gf dX9_badness_80 rfl hJ48.1.1 zs_386 (zr_386_69 hJ48.1) ?_
          refine w_lo dX9_badness_83 rfl rfl rfl rfl ?_
          refine w_iai dX9_badness_84 hJ48.1 zs_434 (by omega) (by omega) zu_434 ?_
          intro x55 f52 h53 h54
          refine w_add dX9_badness_85 (by omega) ?_
          intro x56 h57
          refine w_iai dX9_badness_86 hJ48.1 zs_392 (by omega) (by omega) zu_392 ?_
          intro x61 f58 h59 h60
          refine w_lo dX9_badness_87 rfl rfl rfl rfl ?_
          refine w_gf dX9_badness_88 rfl hJ48.1.1 zs_386 (zr_386_26 hJ48.1) ?_
          refine w_bi dX9_badness_91 (c := 6) (by decide) ?_
          refine w_lo dX9_badness_93 rfl rfl rfl rfl ?_
          refine w_gf dX9_badness_94 rfl hJ48.1.1 zs_386 f49 ?_
          refine w_mulc dX9_badness_97 zt_6 (by have := zt_6; omega) ?_
          intro x62 h63
          have := zt_6
          refine w_lo dX9_badness_98 rfl rfl rfl rfl ?_
          refine w_add dX9_badness_99 (by omega) ?_
          intro x64 h65
          refine w_iai dX9_badness_100 hJ48.1 zs_401 (by omega) (by omega) zu_401 ?_
          intro x69 f66 h67 h68
          refine w_puI dX9_badness_101 rfl rfl ?_
          intro x70
          refine w_lo dX9_badness_102 rfl rfl rfl rfl ?_
          refine w_gfi dX9_badness_103 rfl hJ48.1 zs_386 (Nat.le_of_ble_eq_true rfl) zo_386_74 ?_
          intro x71 f72 h73 h74
          refine w_ss dX9_badness_106 rfl rfl (As := [.int x71]) rfl rfl (Nat.le_of_ble_eq_true rfl) ?_
          refine ZV.imp (k_2385 x71 (by omega) (by omega) hN hJ48.1) ?_
          rintro _ ⟨x78, M75, rfl, h79, h80, hJ76, hq77⟩
          have hJ81 := zJ_trans hJ48 hJ76 zSub_nil
          show ZW _ _ _ _ _ _ _ (109, [some (.ref 386), some (.int v35_1), some (.int v35_2), some (.int v35_3)], [.int x78, .int x70, .int v35_1], M75)
          refine w_puI dX9_badness_109 rfl rfl ?_
          intro x82
          refine w_puI dX9_badness_110 rfl rfl ?_
          intro x83
          refine w_lo (ml' := [some (.ref 386), some (.int x83), some (.int v35_2), some (.int v35_3)]) dX9_badness_111 rfl rfl rfl rfl ?_
          refine w_inc (kk := 3) dX9_badness_112 rfl (m := 1) (by decide) (by omega) ?_
          intro x84 h85
          refine ⟨_, rfl, ?_⟩
          show ZW _ _ _ _ _ _ _ (115, [some (.ref 386), some (.int x83), some (.int v35_2), some (.int x84)], [], M75)
          refine w_gt dX9_badness_115 (t := 35) rfl ?_
          exact ih35 M75 x83 v35_2 x84 hJ81 (zbot _) (ztop _) (by omega) (by omega) (by omega) (by omega) (by omega)
        · skip
          refine w_cge_t dX9_badness_45 (t := 118) rfl (by omega) ?_
          refine w_inc (kk := 2) dX9_badness_118 rfl (m := 1) (by decide) (by omega) ?_
          intro x86 h87
          refine ⟨_, rfl, ?_⟩
          show ZW _ _ _ _ _ _ _ (121, [some (.ref 386), some (.int v35_1), some (.int x86), some (.int v35_3)], [], M)
          refine w_gt dX9_badness_121 (t := 9) rfl ?_
          exact ih9 M v35_1 x86 (some (.int v35_3)) hJ (zbot _) (ztop _) (by omega) (by omega) (by omega)
  obtain ⟨ih9, ih35⟩ := main 543
  show ZW _ _ _ _ _ _ _ (0, [some (.ref 386), none, none, none], [], M0)
  refine w_lo dX9_badness_0 rfl rfl rfl rfl ?_
  refine w_ic dX9_badness_1 zi_1 ?_
  refine w_pfi dX9_badness_2 rfl hJ0 zs_386 (Nat.le_of_ble_eq_true rfl) zo_386_71 (by have := zt_1; omega) (by have := zt_1; omega) (zIR_s (zIR_s (zIR_k (by omega) (by omega)))) rfl rfl rfl ?_
  intro M88 hJ89 f90 hn91
  refine w_ic dX9_badness_5 zi_0 ?_
  refine w_lo (ml' := [some (.ref 386), some (.int 0), none, none]) dX9_badness_6 rfl rfl rfl rfl ?_
  refine w_ic dX9_badness_7 zi_0 ?_
  refine w_lo (ml' := [some (.ref 386), some (.int 0), some (.int 0), none]) dX9_badness_8 rfl rfl rfl rfl ?_
  exact ih9 M88 0 0 none hJ89 (zbot _) (ztop _) (by have := zt_0; omega) (by have := zt_0; omega) (by have := zt_0; omega)
set_option maxRecDepth 100000 in
theorem k_2400 {X : List Int32} {d N : Nat} {M0 : zM}  (hN : N ≤ 600) (hB0 : zB N M0) (hP0 : zIa (zi M0)) : ZV X (d + 9) 2400 [.ref 386] M0 (zRI N [(416, 418, 1000), (434, 436, 1000), (386, 387, 70), (386, 387, 71), (386, 387, 72), (386, 387, 74)] M0 (-2147483648) (2147483647) (fun _ _ => True)) := by
  have hJ0 : zJ N [(416, 418, 1000), (434, 436, 1000), (386, 387, 70), (386, 387, 71), (386, 387, 72), (386, 387, 74)] M0 M0 := zJ_refl hB0
  refine ZV.of (ini := false) rfl (Nat.le_of_ble_eq_true rfl) (by decide +kernel) ?_
  show ZW _ _ _ _ _ _ _ (0, [some (.ref 386)], [], M0)
  refine w_lo dX9_bad_0 rfl rfl rfl rfl ?_
  refine w_ic dX9_bad_1 zi_0 ?_
  refine w_iv dX9_bad_2 rfl rfl (As := [.int 0]) rfl rfl hJ0.1.1 zs_386 (Nat.le_of_ble_eq_true rfl) ?_
  refine ZV.imp (k_2363 0 (by have := zt_0; omega) (by have := zt_0; omega) hN hJ0.1) ?_
  rintro _ ⟨M1, rfl, hJ2, hq3⟩
  have hJ4 := zJ_trans hJ0 hJ2 (zSub_cons (fun _ _ h h' hk => zIR_s (zIR_a (by omega) (by omega))) (zSub_cons (fun _ _ h h' hk => zIR_s (zIR_s (zIR_e (by omega) (by omega) hk))) (zSub_cons (fun _ _ h h' hk => zIR_s (zIR_s (zIR_s (zIR_e (by omega) (by omega) hk)))) (zSub_cons (fun _ _ h h' hk => zIR_s (zIR_s (zIR_s (zIR_s (zIR_e (by omega) (by omega) hk))))) zSub_nil))))
  show ZW _ _ _ _ _ _ _ (5, [some (.ref 386)], [], M1)
  refine w_lo dX9_bad_5 rfl rfl rfl rfl ?_
  refine w_iv dX9_bad_6 rfl rfl (As := []) rfl rfl hJ4.1.1 zs_386 (Nat.le_of_ble_eq_true rfl) ?_
  refine ZV.imp (k_2401 hN hJ4.1 (zIa_fr hP0 (zi_fr hJ4.2) rfl)) ?_
  rintro _ ⟨x8, M5, rfl, h9, h10, hJ6, hq7⟩
  have hJ11 := zJ_trans hJ4 hJ6 (zSub_cons (fun _ _ h h' hk => zIR_a (by omega) (by omega)) (zSub_cons (fun _ _ h h' hk => zIR_s (zIR_a (by omega) (by omega))) (zSub_cons (fun _ _ h h' hk => zIR_s (zIR_s (zIR_s (zIR_e (by omega) (by omega) hk)))) (zSub_cons (fun _ _ h h' hk => zIR_s (zIR_s (zIR_s (zIR_s (zIR_s (zIR_e (by omega) (by omega) hk)))))) zSub_nil))))
  show ZW _ _ _ _ _ _ _ (9, [some (.ref 386)], [.int x8], M5)
  refine w_eni dX9_bad_9 rfl rfl ?_
  exact ⟨_, _, rfl, (zbot _), (ztop _), hJ11, trivial⟩
set_option maxRecDepth 100000 in
theorem k_2409 {X : List Int32} {d N : Nat} {M0 : zM} (a0 : Int32) (ha00 : (-2147483648 : Int) ≤ a0.toInt) (ha01 : a0.toInt ≤ 255) (hN : N ≤ 600) (hB0 : zB N M0) (hP0 : zIa (zi M0)) : ZV X (d + 9) 2409 [.ref 386, .int a0] M0 (zRI N [(416, 418, 1000), (434, 436, 1000), (386, 387, 70), (386, 387, 71), (386, 387, 74)] M0 (-2147483648) (2147483647) (fun _ _ => True)) := by
  have hJ0 : zJ N [(416, 418, 1000), (434, 436, 1000), (386, 387, 70), (386, 387, 71), (386, 387, 74)] M0 M0 := zJ_refl hB0
  refine ZV.of (ini := false) rfl (Nat.le_of_ble_eq_true rfl) (by decide +kernel) ?_
  have main : ∀ n : Nat,
      (∀ (M : zM) (v7_1 : Int32) (v7_2 : Int32) (r_7 : Int32), zJ N [(416, 418, 1000), (434, 436, 1000), (386, 387, 70), (386, 387, 71), (386, 387, 74)] M0 M → ((-2147483648 : Int) ≤ v7_1.toInt) → (v7_1.toInt ≤ 255) → ((0 : Int) ≤ v7_2.toInt) → (v7_2.toInt ≤ 12) → (zvl M (386) 70 = some (.int r_7)) → (0 ≤ r_7.toInt) → (r_7.toInt ≤ v7_2.toInt) → 3 * (12 - v7_2.toInt) + 1 < (n : Int) → ZW X (d + 8) 9 false (some .int) cX9_ropeOf (zRI N [(416, 418, 1000), (434, 436, 1000), (386, 387, 70), (386, 387, 71), (386, 387, 74)] M0 (-2147483648) (2147483647) (fun _ _ => True)) (7, [some (.ref 386), some (.int v7_1), some (.int v7_2)], [], M)) := by
    intro n
    induction n with
    | zero =>
      exact (fun M v7_1 v7_2 r_7 hJ v7_10 v7_11 v7_20 v7_21 hfr_7 hrr_70 hrr_71 hn => absurd hn (by omega))
    | succ n ih =>
      have ih7 := ih
      · intro M v7_1 v7_2 r_7 hJ v7_10 v7_11 v7_20 v7_21 hfr_7 hrr_70 hrr_71 hn
        refine w_lo dX9_ropeOf_7 rfl rfl rfl rfl ?_
        refine w_lo dX9_ropeOf_8 rfl rfl rfl rfl ?_
        refine w_iv dX9_ropeOf_9 rfl rfl (As := []) rfl rfl hJ.1.1 zs_386 (Nat.le_of_ble_eq_true rfl) ?_
        refine ZV.of (ini := false) rfl (Nat.le_of_ble_eq_true rfl) (by decide +kernel) ?_
        show ZW _ _ _ _ _ _ _ (0, [some (.ref 386)], [], M)
        refine w_lo dX9_many_0 rfl rfl rfl rfl ?_
        refine w_gf dX9_many_1 rfl hJ.1.1 zs_386 (zr_386_13 hJ.1) ?_
        refine w_lo dX9_many_4 rfl rfl rfl rfl ?_
        refine w_gfi dX9_many_5 rfl hJ.1 zs_386 (Nat.le_of_ble_eq_true rfl) zo_386_12 ?_
        intro x1 f2 h3 h4
        refine w_iai dX9_many_8 hJ.1 zs_388 (by omega) (by omega) zu_388 ?_
        intro x8 f5 h6 h7
        refine w_eni dX9_many_9 rfl rfl ?_
        show ZW _ _ _ _ _ _ _ (12, [some (.ref 386), some (.int v7_1), some (.int v7_2)], [.int x8, .int v7_2], M)
        rcases zcut v7_2.toInt x8.toInt with h9 | h9
        · skip
          refine w_cge_f dX9_ropeOf_12 (t := 62) rfl (by omega) ?_
          refine w_lo dX9_ropeOf_15 rfl rfl rfl rfl ?_
          refine w_lo dX9_ropeOf_16 rfl rfl rfl rfl ?_
          refine w_gf dX9_ropeOf_17 rfl hJ.1.1 zs_386 (zr_386_50 hJ.1) ?_
          refine w_lo dX9_ropeOf_20 rfl rfl rfl rfl ?_
          refine w_iai dX9_ropeOf_21 hJ.1 zs_419 (by omega) (by omega) zu_419 ?_
          intro x13 f10 h11 h12
          refine w_puI dX9_ropeOf_22 rfl rfl ?_
          intro x14
          refine w_ic dX9_ropeOf_23 zi_1 ?_
          refine w_and dX9_ropeOf_24 (m := 1) zt_1 (by omega) ?_
          intro x15 h16 h17
          rcases Int.decEq x15.toInt (0 : Int) with h18 | h18
          · skip
            refine w_ine_t dX9_ropeOf_25 (t := 31) rfl (by omega) ?_
            refine w_lo dX9_ropeOf_31 rfl rfl rfl rfl ?_
            refine w_gf dX9_ropeOf_32 rfl hJ.1.1 zs_386 (zr_386_69 hJ.1) ?_
            refine w_lo dX9_ropeOf_35 rfl rfl rfl rfl ?_
            refine w_gf dX9_ropeOf_36 rfl hJ.1.1 zs_386 hfr_7 ?_
            refine w_lo dX9_ropeOf_39 rfl rfl rfl rfl ?_
            refine w_gf dX9_ropeOf_40 rfl hJ.1.1 zs_386 (zr_386_50 hJ.1) ?_
            refine w_lo dX9_ropeOf_43 rfl rfl rfl rfl ?_
            refine w_ia dX9_ropeOf_44 hJ.1.1 zs_419 (znat (by omega)) f10 ?_
            refine w_isi dX9_ropeOf_45 hJ zs_434 (by omega) (by omega) zu_434 (by omega) (by omega) (zIR_s (zIR_a (by omega) (by omega))) ?_
            intro M22 hJ23 f24 hn25
            refine w_lo dX9_ropeOf_46 rfl rfl rfl rfl ?_
            refine w_pu dX9_ropeOf_47 rfl rfl ?_
            have f26 := (hn25 (386) 70 (Or.inl (by omega))).trans (hfr_7)
            refine w_gf dX9_ropeOf_48 rfl hJ23.1.1 zs_386 f26 ?_
            refine w_ic dX9_ropeOf_51 zi_1 ?_
            refine w_add dX9_ropeOf_52 (by have := zt_1; omega) ?_
            intro x27 h28
            have := zt_1
            refine w_pfi dX9_ropeOf_53 rfl hJ23 zs_386 (Nat.le_of_ble_eq_true rfl) zo_386_70 (by omega) (by omega) (zIR_s (zIR_s (zIR_k (by omega) (by omega)))) rfl rfl rfl ?_
            intro M29 hJ30 f31 hn32
            refine w_inc (kk := 2) dX9_ropeOf_56 rfl (m := 1) (by decide) (by omega) ?_
            intro x33 h34
            refine ⟨_, rfl, ?_⟩
            show ZW _ _ _ _ _ _ _ (59, [some (.ref 386), some (.int v7_1), some (.int x33)], [], M29)
            refine w_gt dX9_ropeOf_59 (t := 7) rfl ?_
            exact ih7 M29 v7_1 x33 x27 hJ30 (zbot _) (by omega) (by omega) (by omega) f31 (by omega) (by omega) (by omega)
          · skip
            refine w_ine_f dX9_ropeOf_25 (t := 31) rfl (by omega) ?_
            refine w_gt dX9_ropeOf_28 (t := 56) rfl ?_
            refine w_inc (kk := 2) dX9_ropeOf_56 rfl (m := 1) (by decide) (by omega) ?_
            intro x35 h36
            refine ⟨_, rfl, ?_⟩
            show ZW _ _ _ _ _ _ _ (59, [some (.ref 386), some (.int v7_1), some (.int x35)], [], M)
            refine w_gt dX9_ropeOf_59 (t := 7) rfl ?_
            exact ih7 M v7_1 x35 r_7 hJ (zbot _) (by omega) (by omega) (by omega) hfr_7 (by omega) (by omega) (by omega)
        · skip
          refine w_cge_t dX9_ropeOf_12 (t := 62) rfl (by omega) ?_
          refine w_lo dX9_ropeOf_62 rfl rfl rfl rfl ?_
          refine w_iv dX9_ropeOf_63 rfl rfl (As := []) rfl rfl hJ.1.1 zs_386 (Nat.le_of_ble_eq_true rfl) ?_
          refine ZV.imp (k_2401 hN hJ.1 (zIa_fr hP0 (zi_fr hJ.2) rfl)) ?_
          rintro _ ⟨x40, M37, rfl, h41, h42, hJ38, hq39⟩
          have hJ43 := zJ_trans hJ hJ38 (zSub_cons (fun _ _ h h' hk => zIR_a (by omega) (by omega)) (zSub_cons (fun _ _ h h' hk => zIR_s (zIR_a (by omega) (by omega))) (zSub_cons (fun _ _ h h' hk => zIR_s (zIR_s (zIR_s (zIR_e (by omega) (by omega) hk)))) (zSub_cons (fun _ _ h h' hk => zIR_s (zIR_s (zIR_s (zIR_s (zIR_e (by omega) (by omega) hk))))) zSub_nil))))
          show ZW _ _ _ _ _ _ _ (66, [some (.ref 386), some (.int v7_1), some (.int v7_2)], [.int x40], M37)
          refine w_eni dX9_ropeOf_66 rfl rfl ?_
          exact ⟨_, _, rfl, (zbot _), (ztop _), hJ43, trivial⟩
  have ih7 := main 48
  show ZW _ _ _ _ _ _ _ (0, [some (.ref 386), some (.int a0), none], [], M0)
  refine w_lo dX9_ropeOf_0 rfl rfl rfl rfl ?_
  refine w_ic dX9_ropeOf_1 zi_0 ?_
  refine w_pfi dX9_ropeOf_2 rfl hJ0 zs_386 (Nat.le_of_ble_eq_true rfl) zo_386_70 (by have := zt_0; omega) (by have := zt_0; omega) (zIR_s (zIR_s (zIR_k (by omega) (by omega)))) rfl rfl rfl ?_
  intro M44 hJ45 f46 hn47
  refine w_ic dX9_ropeOf_5 zi_0 ?_
  refine w_lo (ml' := [some (.ref 386), some (.int a0), some (.int 0)]) dX9_ropeOf_6 rfl rfl rfl rfl ?_
  exact ih7 M44 a0 0 0 hJ45 (zbot _) (by omega) (by have := zt_0; omega) (by have := zt_0; omega) f46 (by have := zt_0; omega) (by have := zt_0; omega) (by have := zt_0; omega)
set_option maxRecDepth 100000 in
theorem k_2408 {X : List Int32} {d N : Nat} {M0 : zM} (a0 : Int32) (hN : N ≤ 600) (hB0 : zB N M0) (hP0 : zIa (zi M0)) : ZV X (d + 10) 2408 [.ref 386, .int a0] M0 (zRI N [(416, 418, 1000), (434, 436, 1000), (386, 387, 70), (386, 387, 71), (386, 387, 74)] M0 (-2147483648) (2147483647) (fun _ _ => True)) := by
  have hJ0 : zJ N [(416, 418, 1000), (434, 436, 1000), (386, 387, 70), (386, 387, 71), (386, 387, 74)] M0 M0 := zJ_refl hB0
  refine ZV.of (ini := false) rfl (Nat.le_of_ble_eq_true rfl) (by decide +kernel) ?_
  have main : ∀ n : Nat,
      (∀ (M : zM) (v41_1 : Int32) (v41_2 : Int32) (v41_3 : Int32) (v41_4 : Int32) (v41_5 : Int32) (o41_6 : Option Value), zJ N [(416, 418, 1000), (434, 436, 1000), (386, 387, 70), (386, 387, 71), (386, 387, 74)] M0 M → ((0 : Int) ≤ v41_1.toInt) → (v41_1.toInt ≤ 1) → ((0 : Int) ≤ v41_2.toInt) → (v41_2.toInt ≤ 255) → ((-1 : Int) ≤ v41_3.toInt) → (v41_3.toInt ≤ 255) → ((-2147483648 : Int) ≤ v41_4.toInt) → (v41_4.toInt ≤ 2147483647) → ((0 : Int) ≤ v41_5.toInt) → (v41_5.toInt ≤ 998) → 3 * (998 - v41_5.toInt) + 1 < (n : Int) → ZW X (d + 9) 9 false (some .int) cX9_two (zRI N [(416, 418, 1000), (434, 436, 1000), (386, 387, 70), (386, 387, 71), (386, 387, 74)] M0 (-2147483648) (2147483647) (fun _ _ => True)) (41, [some (.ref 386), some (.int v41_1), some (.int v41_2), some (.int v41_3), some (.int v41_4), some (.int v41_5), o41_6], [], M)) := by
    intro n
    induction n with
    | zero =>
      exact (fun M v41_1 v41_2 v41_3 v41_4 v41_5 o41_6 hJ v41_10 v41_11 v41_20 v41_21 v41_30 v41_31 v41_40 v41_41 v41_50 v41_51 hn => absurd hn (by omega))
    | succ n ih =>
      have ih41 := ih
      · intro M v41_1 v41_2 v41_3 v41_4 v41_5 o41_6 hJ v41_10 v41_11 v41_20 v41_21 v41_30 v41_31 v41_40 v41_41 v41_50 v41_51 hn
        refine w_lo dX9_two_41 rfl rfl rfl rfl ?_
        refine w_lo dX9_two_43 rfl rfl rfl rfl ?_
        rcases zcut v41_2.toInt v41_5.toInt with h1 | h1
        · skip
          refine w_cgt_t dX9_two_44 (t := 110) rfl (by omega) ?_
          refine w_lo dX9_two_110 rfl rfl rfl rfl ?_
          rcases Int.decEq v41_1.toInt (0 : Int) with h2 | h2
          · skip
            refine w_ine_t dX9_two_111 (t := 119) rfl (by omega) ?_
            refine w_lo dX9_two_119 rfl rfl rfl rfl ?_
            refine w_eni dX9_two_120 rfl rfl ?_
            exact ⟨_, _, rfl, (zbot _), (ztop _), hJ, trivial⟩
          · skip
            refine w_ine_f dX9_two_111 (t := 119) rfl (by omega) ?_
            refine w_lo dX9_two_114 rfl rfl rfl rfl ?_
            refine w_gt dX9_two_116 (t := 120) rfl ?_
            refine w_eni dX9_two_120 rfl rfl ?_
            exact ⟨_, _, rfl, (zbot _), (ztop _), hJ, trivial⟩
        · skip
          refine w_cgt_f dX9_two_44 (t := 110) rfl (by omega) ?_
          refine w_lo dX9_two_47 rfl rfl rfl rfl ?_
          refine w_lo dX9_two_49 rfl rfl rfl rfl ?_
          refine w_gf dX9_two_50 rfl hJ.1.1 zs_386 (zr_386_50 hJ.1) ?_
          refine w_ic dX9_two_53 zi_0 ?_
          refine w_iai dX9_two_54 hJ.1 zs_419 (by have := zt_0; omega) (by have := zt_0; omega) zu_419 ?_
          intro x6 f3 h4 h5
          refine w_puI dX9_two_55 rfl rfl ?_
          intro x7
          refine w_ic dX9_two_56 zi_1 ?_
          refine w_and dX9_two_57 (m := 1) zt_1 (by omega) ?_
          intro x8 h9 h10
          refine w_ic dX9_two_58 zi_1 ?_
          rcases Int.decEq x8.toInt (1 : Int) with h11 | h11
          · skip
            refine w_cne_t dX9_two_59 (t := 65) rfl (by have := zt_1; omega) ?_
            refine w_lo dX9_two_65 rfl rfl rfl rfl ?_
            refine w_lo dX9_two_66 rfl rfl rfl rfl ?_
            refine w_iv dX9_two_68 rfl rfl (As := [.int v41_5]) rfl rfl hJ.1.1 zs_386 (Nat.le_of_ble_eq_true rfl) ?_
            refine ZV.imp (k_2409 v41_5 (zbot _) (by omega) hN hJ.1 (zIa_fr hP0 (zi_fr hJ.2) rfl)) ?_
            rintro _ ⟨x15, M12, rfl, h16, h17, hJ13, hq14⟩
            have hJ18 := zJ_trans hJ hJ13 (zSub_cons (fun _ _ h h' hk => zIR_a (by omega) (by omega)) (zSub_cons (fun _ _ h h' hk => zIR_s (zIR_a (by omega) (by omega))) (zSub_cons (fun _ _ h h' hk => zIR_s (zIR_s (zIR_e (by omega) (by omega) hk))) (zSub_cons (fun _ _ h h' hk => zIR_s (zIR_s (zIR_s (zIR_e (by omega) (by omega) hk)))) (zSub_cons (fun _ _ h h' hk => zIR_s (zIR_s (zIR_s (zIR_s (zIR_e (by omega) (by omega) hk))))) zSub_nil)))))
            show ZW _ _ _ _ _ _ _ (71, [some (.ref 386), some (.int v41_1), some (.int v41_2), some (.int v41_3), some (.int v41_4), some (.int v41_5), o41_6], [.int x15], M12)
            refine w_lo dX9_two_71 rfl rfl rfl rfl ?_
            refine w_lo dX9_two_72 rfl rfl rfl rfl ?_
            refine w_lo dX9_two_73 rfl rfl rfl rfl ?_
            refine w_sub dX9_two_75 (by omega) ?_
            intro x19 h20
            refine w_iv dX9_two_76 rfl rfl (As := [.int x19]) rfl rfl hJ18.1.1 zs_386 (Nat.le_of_ble_eq_true rfl) ?_
            refine ZV.imp (k_2409 x19 (zbot _) (by omega) hN hJ18.1 (zIa_fr hP0 (zi_fr hJ18.2) rfl)) ?_
            rintro _ ⟨x24, M21, rfl, h25, h26, hJ22, hq23⟩
            have hJ27 := zJ_trans hJ18 hJ22 (zSub_cons (fun _ _ h h' hk => zIR_a (by omega) (by omega)) (zSub_cons (fun _ _ h h' hk => zIR_s (zIR_a (by omega) (by omega))) (zSub_cons (fun _ _ h h' hk => zIR_s (zIR_s (zIR_e (by omega) (by omega) hk))) (zSub_cons (fun _ _ h h' hk => zIR_s (zIR_s (zIR_s (zIR_e (by omega) (by omega) hk)))) (zSub_cons (fun _ _ h h' hk => zIR_s (zIR_s (zIR_s (zIR_s (zIR_e (by omega) (by omega) hk))))) zSub_nil)))))
            show ZW _ _ _ _ _ _ _ (79, [some (.ref 386), some (.int v41_1), some (.int v41_2), some (.int v41_3), some (.int v41_4), some (.int v41_5), o41_6], [.int x24, .int x15], M21)
            refine w_puI dX9_two_79 rfl rfl ?_
            intro x28
            refine w_lo (ml' := [some (.ref 386), some (.int v41_1), some (.int v41_2), some (.int v41_3), some (.int v41_4), some (.int v41_5), some (.int x28)]) dX9_two_80 rfl rfl rfl rfl ?_
            refine w_lo dX9_two_82 rfl rfl rfl rfl ?_
            refine w_ic dX9_two_83 zi_m1 ?_
            rcases Int.decEq v41_3.toInt (-1 : Int) with h29 | h29
            · skip
              refine w_ceq_f dX9_two_84 (t := 97) rfl (by have := zt_m1; omega) ?_
              refine w_lo dX9_two_87 rfl rfl rfl rfl ?_
              refine w_lo dX9_two_89 rfl rfl rfl rfl ?_
              rcases zcut x28.toInt v41_4.toInt with h30 | h30
              · skip
                refine w_clt_t dX9_two_91 (t := 97) rfl (by omega) ?_
                refine w_lo dX9_two_97 rfl rfl rfl rfl ?_
                refine w_lo (ml' := [some (.ref 386), some (.int v41_1), some (.int v41_2), some (.int v41_5), some (.int v41_4), some (.int v41_5), some (.int x28)]) dX9_two_99 rfl rfl rfl rfl ?_
                refine w_lo dX9_two_100 rfl rfl rfl rfl ?_
                refine w_lo (ml' := [some (.ref 386), some (.int v41_1), some (.int v41_2), some (.int v41_5), some (.int x28), some (.int v41_5), some (.int x28)]) dX9_two_102 rfl rfl rfl rfl ?_
                refine w_inc (kk := 5) dX9_two_104 rfl (m := 1) (by decide) (by omega) ?_
                intro x31 h32
                refine ⟨_, rfl, ?_⟩
                show ZW _ _ _ _ _ _ _ (107, [some (.ref 386), some (.int v41_1), some (.int v41_2), some (.int v41_5), some (.int x28), some (.int x31), some (.int x28)], [], M21)
                refine w_gt dX9_two_107 (t := 41) rfl ?_
                exact ih41 M21 v41_1 v41_2 v41_5 x28 x31 (some (.int x28)) hJ27 (by omega) (by omega) (by omega) (by omega) (by omega) (by omega) (zbot _) (ztop _) (by omega) (by omega) (by omega)
              · skip
                refine w_clt_f dX9_two_91 (t := 97) rfl (by omega) ?_
                refine w_gt dX9_two_94 (t := 104) rfl ?_
                refine w_inc (kk := 5) dX9_two_104 rfl (m := 1) (by decide) (by omega) ?_
                intro x33 h34
                refine ⟨_, rfl, ?_⟩
                show ZW _ _ _ _ _ _ _ (107, [some (.ref 386), some (.int v41_1), some (.int v41_2), some (.int v41_3), some (.int v41_4), some (.int x33), some (.int x28)], [], M21)
                refine w_gt dX9_two_107 (t := 41) rfl ?_
                exact ih41 M21 v41_1 v41_2 v41_3 v41_4 x33 (some (.int x28)) hJ27 (by omega) (by omega) (by omega) (by omega) (by omega) (by omega) (zbot _) (ztop _) (by omega) (by omega) (by omega)
            · skip
              refine w_ceq_t dX9_two_84 (t := 97) rfl (by have := zt_m1; omega) ?_
              refine w_lo dX9_two_97 rfl rfl rfl rfl ?_
              refine w_lo (ml' := [some (.ref 386), some (.int v41_1), some (.int v41_2), some (.int v41_5), some (.int v41_4), some (.int v41_5), some (.int x28)]) dX9_two_99 rfl rfl rfl rfl ?_
              refine w_lo dX9_two_100 rfl rfl rfl rfl ?_
              refine w_lo (ml' := [some (.ref 386), some (.int v41_1), some (.int v41_2), some (.int v41_5), some (.int x28), some (.int v41_5), some (.int x28)]) dX9_two_102 rfl rfl rfl rfl ?_
              refine w_inc (kk := 5) dX9_two_104 rfl (m := 1) (by decide) (by omega) ?_
              intro x35 h36
              refine ⟨_, rfl, ?_⟩
              show ZW _ _ _ _ _ _ _ (107, [some (.ref 386), some (.int v41_1), some (.int v41_2), some (.int v41_5), some (.int x28), some (.int x35), some (.int x28)], [], M21)
              refine w_gt dX9_two_107 (t := 41) rfl ?_
              exact ih41 M21 v41_1 v41_2 v41_5 x28 x35 (some (.int x28)) hJ27 (by omega) (by omega) (by omega) (by omega) (by omega) (by omega) (zbot _) (ztop _) (by omega) (by omega) (by omega)
          · skip
            refine w_cne_f dX9_two_59 (t := 65) rfl (by have := zt_1; omega) ?_
            refine w_gt dX9_two_62 (t := 104) rfl ?_
            refine w_inc (kk := 5) dX9_two_104 rfl (m := 1) (by decide) (by omega) ?_
            intro x37 h38
            refine ⟨_, rfl, ?_⟩
            show ZW _ _ _ _ _ _ _ (107, [some (.ref 386), some (.int v41_1), some (.int v41_2), some (.int v41_3), some (.int v41_4), some (.int x37), o41_6], [], M)
            refine w_gt dX9_two_107 (t := 41) rfl ?_
            exact ih41 M v41_1 v41_2 v41_3 v41_4 x37 o41_6 hJ (by omega) (by omega) (by omega) (by omega) (by omega) (by omega) (zbot _) (ztop _) (by omega) (by omega) (by omega)
  have ih41 := main 3006
  show ZW _ _ _ _ _ _ _ (0, [some (.ref 386), some (.int a0), none, none, none, none, none], [], M0)
  refine w_lo dX9_two_0 rfl rfl rfl rfl ?_
  refine w_iv dX9_two_1 rfl rfl (As := []) rfl rfl hJ0.1.1 zs_386 (Nat.le_of_ble_eq_true rfl) ?_
  refine ZV.of (ini := false) rfl (Nat.le_of_ble_eq_true rfl) (by decide +kernel) ?_
  show ZW _ _ _ _ _ _ _ (0, [some (.ref 386)], [], M0)
  refine w_lo dX9_many_0 rfl rfl rfl rfl ?_
  refine w_gf dX9_many_1 rfl hJ0.1.1 zs_386 (zr_386_13 hJ0.1) ?_
  refine w_lo dX9_many_4 rfl rfl rfl rfl ?_
  refine w_gfi dX9_many_5 rfl hJ0.1 zs_386 (Nat.le_of_ble_eq_true rfl) zo_386_12 ?_
  intro x39 f40 h41 h42
  refine w_iai dX9_many_8 hJ0.1 zs_388 (by omega) (by omega) zu_388 ?_
  intro x46 f43 h44 h45
  refine w_eni dX9_many_9 rfl rfl ?_
  show ZW _ _ _ _ _ _ _ (4, [some (.ref 386), some (.int a0), none, none, none, none, none], [.int x46], M0)
  refine w_ic dX9_two_4 zi_2 ?_
  refine w_bi dX9_two_5 (c := 8) (by decide) ?_
  refine w_ss dX9_two_7 rfl rfl (As := [.int x46, .int 2, .int 8]) rfl rfl (Nat.le_of_ble_eq_true rfl) ?_
  refine ZV.of (ini := false) rfl (Nat.le_of_ble_eq_true rfl) (by decide +kernel) ?_
  show ZW _ _ _ _ _ _ _ (0, [some (.int x46), some (.int 2), some (.int 8)], [], M0)
  refine w_lo dX9_is_0 rfl rfl rfl rfl ?_
  refine w_lo dX9_is_1 rfl rfl rfl rfl ?_
  rcases zcut x46.toInt (2 : Int) with h47 | h47
  · skip
    refine w_clt_t dX9_is_2 (t := 14) rfl (by have := zt_2; omega) ?_
    refine w_ic dX9_is_14 zi_0 ?_
    refine w_en dX9_is_15 rfl ?_
    show ZW _ _ _ _ _ _ _ (10, [some (.ref 386), some (.int a0), none, none, none, none, none], [.int 0], M0)
    refine w_ieq_t dX9_two_10 (t := 22) rfl (by have := zt_0; omega) ?_
    refine w_ic dX9_two_22 zi_m1 ?_
    refine w_en dX9_two_23 rfl ?_
    exact ⟨_, _, rfl, (zbot _), (ztop _), hJ0, trivial⟩
  · skip
    refine w_clt_f dX9_is_2 (t := 14) rfl (by have := zt_2; omega) ?_
    refine w_lo dX9_is_5 rfl rfl rfl rfl ?_
    refine w_lo dX9_is_6 rfl rfl rfl rfl ?_
    rcases zcut (8 : Int) x46.toInt with h48 | h48
    · skip
      refine w_cgt_t dX9_is_7 (t := 14) rfl (by have := zt_8; omega) ?_
      refine w_ic dX9_is_14 zi_0 ?_
      refine w_en dX9_is_15 rfl ?_
      show ZW _ _ _ _ _ _ _ (10, [some (.ref 386), some (.int a0), none, none, none, none, none], [.int 0], M0)
      refine w_ieq_t dX9_two_10 (t := 22) rfl (by have := zt_0; omega) ?_
      refine w_ic dX9_two_22 zi_m1 ?_
      refine w_en dX9_two_23 rfl ?_
      exact ⟨_, _, rfl, (zbot _), (ztop _), hJ0, trivial⟩
    · skip
      refine w_cgt_f dX9_is_7 (t := 14) rfl (by have := zt_8; omega) ?_
      refine w_ic dX9_is_10 zi_1 ?_
      refine w_gt dX9_is_11 (t := 15) rfl ?_
      refine w_en dX9_is_15 rfl ?_
      show ZW _ _ _ _ _ _ _ (10, [some (.ref 386), some (.int a0), none, none, none, none, none], [.int 1], M0)
      refine w_ieq_f dX9_two_10 (t := 22) rfl (by have := zt_1; omega) ?_
      refine w_lo dX9_two_13 rfl rfl rfl rfl ?_
      refine w_ic dX9_two_14 zi_0 ?_
      refine w_ic dX9_two_15 zi_1 ?_
      refine w_ss dX9_two_16 rfl rfl (As := [.int a0, .int 0, .int 1]) rfl rfl (Nat.le_of_ble_eq_true rfl) ?_
      refine ZV.of (ini := false) rfl (Nat.le_of_ble_eq_true rfl) (by decide +kernel) ?_
      show ZW _ _ _ _ _ _ _ (0, [some (.int a0), some (.int 0), some (.int 1)], [], M0)
      refine w_lo dX9_is_0 rfl rfl rfl rfl ?_
      refine w_lo dX9_is_1 rfl rfl rfl rfl ?_
      rcases zcut a0.toInt (0 : Int) with h49 | h49
      · skip
        refine w_clt_t dX9_is_2 (t := 14) rfl (by have := zt_0; omega) ?_
        refine w_ic dX9_is_14 zi_0 ?_
        refine w_en dX9_is_15 rfl ?_
        show ZW _ _ _ _ _ _ _ (19, [some (.ref 386), some (.int a0), none, none, none, none, none], [.int 0], M0)
        refine w_ine_f dX9_two_19 (t := 24) rfl (by have := zt_0; omega) ?_
        refine w_ic dX9_two_22 zi_m1 ?_
        refine w_en dX9_two_23 rfl ?_
        exact ⟨_, _, rfl, (zbot _), (ztop _), hJ0, trivial⟩
      · skip
        refine w_clt_f dX9_is_2 (t := 14) rfl (by have := zt_0; omega) ?_
        refine w_lo dX9_is_5 rfl rfl rfl rfl ?_
        refine w_lo dX9_is_6 rfl rfl rfl rfl ?_
        rcases zcut (1 : Int) a0.toInt with h50 | h50
        · skip
          refine w_cgt_t dX9_is_7 (t := 14) rfl (by have := zt_1; omega) ?_
          refine w_ic dX9_is_14 zi_0 ?_
          refine w_en dX9_is_15 rfl ?_
          show ZW _ _ _ _ _ _ _ (19, [some (.ref 386), some (.int a0), none, none, none, none, none], [.int 0], M0)
          refine w_ine_f dX9_two_19 (t := 24) rfl (by have := zt_0; omega) ?_
          refine w_ic dX9_two_22 zi_m1 ?_
          refine w_en dX9_two_23 rfl ?_
          exact ⟨_, _, rfl, (zbot _), (ztop _), hJ0, trivial⟩
        · skip
          refine w_cgt_f dX9_is_7 (t := 14) rfl (by have := zt_1; omega) ?_
          refine w_ic dX9_is_10 zi_1 ?_
          refine w_gt dX9_is_11 (t := 15) rfl ?_
          refine w_en dX9_is_15 rfl ?_
          show ZW _ _ _ _ _ _ _ (19, [some (.ref 386), some (.int a0), none, none, none, none, none], [.int 1], M0)
          refine w_ine_t dX9_two_19 (t := 24) rfl (by have := zt_1; omega) ?_
          refine w_ic dX9_two_24 zi_1 ?_
          refine w_lo dX9_two_25 rfl rfl rfl rfl ?_
          refine w_iv dX9_two_26 rfl rfl (As := []) rfl rfl hJ0.1.1 zs_386 (Nat.le_of_ble_eq_true rfl) ?_
          refine ZV.of (ini := false) rfl (Nat.le_of_ble_eq_true rfl) (by decide +kernel) ?_
          show ZW _ _ _ _ _ _ _ (0, [some (.ref 386)], [], M0)
          refine w_lo dX9_many_0 rfl rfl rfl rfl ?_
          refine w_gf dX9_many_1 rfl hJ0.1.1 zs_386 (zr_386_13 hJ0.1) ?_
          refine w_lo dX9_many_4 rfl rfl rfl rfl ?_
          refine w_gf dX9_many_5 rfl hJ0.1.1 zs_386 f40 ?_
          refine w_ia dX9_many_8 hJ0.1.1 zs_388 (znat (by omega)) f43 ?_
          refine w_eni dX9_many_9 rfl rfl ?_
          show ZW _ _ _ _ _ _ _ (29, [some (.ref 386), some (.int a0), none, none, none, none, none], [.int x46, .int 1], M0)
          refine w_shl dX9_two_29 (by omega) (by omega) (m := 8) (by omega) ?_
          intro x54 h55 h56
          have : (2 : Int) ^ 8 = 256 := by decide
          refine w_ic dX9_two_30 zi_1 ?_
          refine w_sub dX9_two_31 (by have := zt_1; omega) ?_
          intro x57 h58
          have := zt_1
          refine w_lo (ml' := [some (.ref 386), some (.int a0), some (.int x57), none, none, none, none]) dX9_two_32 rfl rfl rfl rfl ?_
          refine w_ic dX9_two_33 zi_m1 ?_
          refine w_lo (ml' := [some (.ref 386), some (.int a0), some (.int x57), some (.int (-1)), none, none, none]) dX9_two_34 rfl rfl rfl rfl ?_
          refine w_ic dX9_two_35 zi_0 ?_
          refine w_lo (ml' := [some (.ref 386), some (.int a0), some (.int x57), some (.int (-1)), some (.int 0), none, none]) dX9_two_36 rfl rfl rfl rfl ?_
          refine w_ic dX9_two_38 zi_0 ?_
          refine w_lo (ml' := [some (.ref 386), some (.int a0), some (.int x57), some (.int (-1)), some (.int 0), some (.int 0), none]) dX9_two_39 rfl rfl rfl rfl ?_
          exact ih41 M0 a0 x57 (-1) 0 0 none hJ0 (by omega) (by omega) (by omega) (by omega) (by have := zt_m1; omega) (by have := zt_m1; omega) (zbot _) (ztop _) (by have := zt_0; omega) (by have := zt_0; omega) (by have := zt_m1; have := zt_0; omega)
set_option maxRecDepth 100000 in
theorem u_2380 {X : List Int32} {d N : Nat} {M0 : zM} (a0 : Int32) (ha00 : (0 : Int) ≤ a0.toInt) (ha01 : a0.toInt ≤ 1) (a1 : Int32) (ha10 : (0 : Int) ≤ a1.toInt) (ha11 : a1.toInt ≤ 11) (a2 : Int32) (ha20 : (0 : Int) ≤ a2.toInt) (ha21 : a2.toInt ≤ 5) (a3 : Int32) (a4 : Int32) (ha40 : (-1 : Int) ≤ a4.toInt) (ha41 : a4.toInt ≤ 11) (hN : N ≤ 600) (hB0 : zB N M0) {Q : Int → zF → Prop} (hb : b_2380 (zi M0) a0.toInt a1.toInt a2.toInt a3.toInt a4.toInt Q) : ZV X (d + 8) 2380 [.ref 386, .int a0, .int a1, .int a2, .int a3, .int a4] M0 (zRI N [(416, 418, 1000), (420, 429, 1000), (431, 433, 1000), (434, 436, 1000), (386, 387, 70), (386, 387, 71), (386, 387, 72), (386, 387, 74), (386, 387, 75)] M0 (-2147483648) (2147483647) (fun v M' => Q v.toInt (zi M'))) := by
  have hJ0 : zJ N [(416, 418, 1000), (420, 429, 1000), (431, 433, 1000), (434, 436, 1000), (386, 387, 70), (386, 387, 71), (386, 387, 72), (386, 387, 74), (386, 387, 75)] M0 M0 := zJ_refl hB0
  refine ZV.of (ini := false) rfl (Nat.le_of_ble_eq_true rfl) (by decide +kernel) ?_
  obtain ⟨I107, hbE, hb107⟩ := hb
  replace hbE : zHd _ := hbE
  replace hb107 : zHd _ := hb107
  have main : ∀ n : Nat,
      (∀ (M : zM) (v107_1 : Int32) (u107_2 : Int32) (v107_3 : Int32) (v107_4 : Int32) (v107_5 : Int32) (u107_6 : Int32) (v107_7 : Int32) (v107_8 : Int32), zJ N [(416, 418, 1000), (420, 429, 1000), (431, 433, 1000), (434, 436, 1000), (386, 387, 70), (386, 387, 71), (386, 387, 72), (386, 387, 74), (386, 387, 75)] M0 M → ((0 : Int) ≤ v107_1.toInt) → (v107_1.toInt ≤ 1) → ((0 : Int) ≤ v107_3.toInt) → (v107_3.toInt ≤ 5) → ((-2147483648 : Int) ≤ v107_4.toInt) → (v107_4.toInt ≤ 2147483647) → ((-1 : Int) ≤ v107_5.toInt) → (v107_5.toInt ≤ 11) → ((-2147483648 : Int) ≤ v107_7.toInt) → (v107_7.toInt ≤ 2147483647) → ((0 : Int) ≤ v107_8.toInt) → (v107_8.toInt ≤ 12) → I107 n (zi M) v107_1.toInt v107_3.toInt v107_4.toInt v107_5.toInt v107_7.toInt v107_8.toInt → ZW X (d + 7) 9 false (some .int) cX9_begin (zRI N [(416, 418, 1000), (420, 429, 1000), (431, 433, 1000), (434, 436, 1000), (386, 387, 70), (386, 387, 71), (386, 387, 72), (386, 387, 74), (386, 387, 75)] M0 (-2147483648) (2147483647) (fun v M' => Q v.toInt (zi M'))) (107, [some (.ref 386), some (.int v107_1), some (.int u107_2), some (.int v107_3), some (.int v107_4), some (.int v107_5), some (.int u107_6), some (.int v107_7), some (.int v107_8)], [], M)) := by
    intro n
    induction n using Nat.strongRecOn with
    | _ n ih =>
      · intro M v107_1 u107_2 v107_3 v107_4 v107_5 u107_6 v107_7 v107_8 hJ v107_10 v107_11 v107_30 v107_31 v107_40 v107_41 v107_50 v107_51 v107_70 v107_71 v107_80 v107_81 hI
        have hb : zHd _ := hb107 n (zi M) v107_1.toInt v107_3.toInt v107_4.toInt v107_5.toInt v107_7.toInt v107_8.toInt (zi_fr hJ.2) v107_10 v107_11 v107_30 v107_31 v107_50 v107_51 v107_80 v107_81 hI
        refine w_lo dX9_begin_107 rfl rfl rfl rfl ?_
        refine w_lo dX9_begin_109 rfl rfl rfl rfl ?_
        refine w_gfi dX9_begin_110 rfl hJ.1 zs_386 (Nat.le_of_ble_eq_true rfl) zo_386_70 ?_
        intro x1 f2 h3 h4
        replace hb : zHd _ := hb x1.toInt (ziE f2) h3 h4
        rcases zcut v107_8.toInt x1.toInt with h5 | h5
        · skip
          replace hb : zHd _ := hb.1 h5
          refine w_cge_f dX9_begin_113 (t := 144) rfl (by omega) ?_
          refine w_lo dX9_begin_116 rfl rfl rfl rfl ?_
          refine w_gf dX9_begin_117 rfl hJ.1.1 zs_386 (zr_386_73 hJ.1) ?_
          refine w_lo dX9_begin_120 rfl rfl rfl rfl ?_
          refine w_iai dX9_begin_122 hJ.1 zs_435 (by omega) (by omega) zu_435 ?_
          intro x9 f6 h7 h8
          replace hb : zHd _ := hb x9.toInt (ziEk f6 rfl) h7
          rcases zcut (0 : Int) x9.toInt with h10 | h10
          · skip
            replace hb : zHd _ := hb.1 h10
            refine w_ile_f dX9_begin_123 (t := 138) rfl (by omega) ?_
            refine w_lo dX9_begin_126 rfl rfl rfl rfl ?_
            refine w_lo dX9_begin_127 rfl rfl rfl rfl ?_
            refine w_lo dX9_begin_128 rfl rfl rfl rfl ?_
            refine w_lo dX9_begin_130 rfl rfl rfl rfl ?_
            refine w_lo dX9_begin_131 rfl rfl rfl rfl ?_
            refine w_lo dX9_begin_133 rfl rfl rfl rfl ?_
            refine w_iv dX9_begin_135 rfl rfl (As := [.int v107_1, .int v107_8, .int v107_3, .int v107_4, .int v107_5]) rfl rfl hJ.1.1 zs_386 (Nat.le_of_ble_eq_true rfl) ?_
            refine ZV.imp (k_2386 v107_1 (by omega) (by omega) v107_8 (by omega) (by omega) v107_3 (by omega) (by omega) v107_4 v107_5 (by omega) (by omega) hN hJ.1) ?_
            rintro _ ⟨M11, rfl, hJ12, hq13⟩
            replace hb : zHd _ := hb  (zi M11) (zi_fr hJ12.2)
            have hJ15 := zJ_trans hJ hJ12 (zSub_cons (fun _ _ h h' hk => zIR_s (zIR_a (by omega) (by omega))) zSub_nil)
            show ZW _ _ _ _ _ _ _ (138, [some (.ref 386), some (.int v107_1), some (.int u107_2), some (.int v107_3), some (.int v107_4), some (.int v107_5), some (.int u107_6), some (.int v107_7), some (.int v107_8)], [], M11)
            refine w_inc (kk := 8) dX9_begin_138 rfl (m := 1) (by decide) (by omega) ?_
            intro x16 h17
            refine ⟨_, rfl, ?_⟩
            replace hb : zHd _ := hb x16.toInt h17
            show ZW _ _ _ _ _ _ _ (141, [some (.ref 386), some (.int v107_1), some (.int u107_2), some (.int v107_3), some (.int v107_4), some (.int v107_5), some (.int u107_6), some (.int v107_7), some (.int x16)], [], M11)
            refine w_gt dX9_begin_141 (t := 107) rfl ?_
            obtain ⟨m, hm, hI⟩ := hb
            exact (ih m hm) M11 v107_1 u107_2 v107_3 v107_4 v107_5 u107_6 v107_7 x16 hJ15 (by omega) (by omega) (by omega) (by omega) (zbot _) (ztop _) (by omega) (by omega) (zbot _) (ztop _) (by omega) (by omega) hI
          · skip
            replace hb : zHd _ := hb.2 h10
            refine w_ile_t dX9_begin_123 (t := 138) rfl (by omega) ?_
            refine w_inc (kk := 8) dX9_begin_138 rfl (m := 1) (by decide) (by omega) ?_
            intro x18 h19
            refine ⟨_, rfl, ?_⟩
            replace hb : zHd _ := hb x18.toInt h19
            show ZW _ _ _ _ _ _ _ (141, [some (.ref 386), some (.int v107_1), some (.int u107_2), some (.int v107_3), some (.int v107_4), some (.int v107_5), some (.int u107_6), some (.int v107_7), some (.int x18)], [], M)
            refine w_gt dX9_begin_141 (t := 107) rfl ?_
            obtain ⟨m, hm, hI⟩ := hb
            exact (ih m hm) M v107_1 u107_2 v107_3 v107_4 v107_5 u107_6 v107_7 x18 hJ (by omega) (by omega) (by omega) (by omega) (zbot _) (ztop _) (by omega) (by omega) (zbot _) (ztop _) (by omega) (by omega) hI
        · skip
          replace hb : zHd _ := hb.2 h5
          refine w_cge_t dX9_begin_113 (t := 144) rfl (by omega) ?_
          refine w_lo dX9_begin_144 rfl rfl rfl rfl ?_
          refine w_eni dX9_begin_146 rfl rfl ?_
          exact ⟨_, _, rfl, (zbot _), (ztop _), hJ, hb⟩
  have hb : zHd _ := hbE
  show ZW _ _ _ _ _ _ _ (0, [some (.ref 386), some (.int a0), some (.int a1), some (.int a2), some (.int a3), some (.int a4), none, none, none], [], M0)
  refine w_bi dX9_begin_0 (c := 12) (by decide) ?_
  refine w_lo dX9_begin_2 rfl rfl rfl rfl ?_
  refine w_mulc dX9_begin_3 zt_12 (by have := zt_12; omega) ?_
  intro x20 h21
  have := zt_12
  replace hb : zHd _ := hb x20.toInt (by have := zt_12; omega)
  refine w_lo dX9_begin_4 rfl rfl rfl rfl ?_
  refine w_add dX9_begin_5 (by omega) ?_
  intro x22 h23
  replace hb : zHd _ := hb x22.toInt (by omega)
  refine w_lo (ml' := [some (.ref 386), some (.int a0), some (.int a1), some (.int a2), some (.int a3), some (.int a4), some (.int x22), none, none]) dX9_begin_6 rfl rfl rfl rfl ?_
  refine w_lo dX9_begin_8 rfl rfl rfl rfl ?_
  refine w_gf dX9_begin_9 rfl hJ0.1.1 zs_386 (zr_386_54 hJ0.1) ?_
  refine w_lo dX9_begin_12 rfl rfl rfl rfl ?_
  refine w_ic dX9_begin_14 zi_m1 ?_
  refine w_isi dX9_begin_15 hJ0 zs_423 (by omega) (by omega) zu_423 (by have := zt_m1; omega) (by have := zt_m1; omega) (zIR_s (zIR_a (by omega) (by omega))) ?_
  intro M24 hJ25 f26 hn27
  replace hb : zHd _ := hb (zi M24) (zi_zup hn27 f26 rfl zt_m1)
  refine w_lo dX9_begin_16 rfl rfl rfl rfl ?_
  refine w_gf dX9_begin_17 rfl hJ25.1.1 zs_386 (zr_386_52 hJ25.1) ?_
  refine w_lo dX9_begin_20 rfl rfl rfl rfl ?_
  refine w_lo dX9_begin_22 rfl rfl rfl rfl ?_
  refine w_isi dX9_begin_23 hJ25 zs_421 (by omega) (by omega) zu_421 (by omega) (by omega) (zIR_s (zIR_a (by omega) (by omega))) ?_
  intro M29 hJ30 f31 hn32
  replace hb : zHd _ := hb (zi M29) (zi_zup hn32 f31 rfl rfl)
  refine w_lo dX9_begin_24 rfl rfl rfl rfl ?_
  refine w_gf dX9_begin_25 rfl hJ30.1.1 zs_386 (zr_386_53 hJ30.1) ?_
  refine w_lo dX9_begin_28 rfl rfl rfl rfl ?_
  refine w_lo dX9_begin_30 rfl rfl rfl rfl ?_
  refine w_gf dX9_begin_31 rfl hJ30.1.1 zs_386 (zr_386_24 hJ30.1) ?_
  refine w_bi dX9_begin_34 (c := 6) (by decide) ?_
  refine w_lo dX9_begin_36 rfl rfl rfl rfl ?_
  refine w_gfi dX9_begin_37 rfl hJ30.1 zs_386 (Nat.le_of_ble_eq_true rfl) zo_386_12 ?_
  intro x34 f35 h36 h37
  replace hb : zHd _ := hb x34.toInt (ziE f35) h36 h37
  refine w_mulc dX9_begin_40 zt_6 (by have := zt_6; omega) ?_
  intro x38 h39
  have := zt_6
  replace hb : zHd _ := hb x38.toInt (by have := zt_6; omega)
  refine w_lo dX9_begin_41 rfl rfl rfl rfl ?_
  refine w_add dX9_begin_42 (by omega) ?_
  intro x40 h41
  replace hb : zHd _ := hb x40.toInt (by omega)
  refine w_iai dX9_begin_43 hJ30.1 zs_399 (by omega) (by omega) zu_399 ?_
  intro x45 f42 h43 h44
  replace hb : zHd _ := hb x45.toInt (ziEk f42 rfl)
  refine w_isi dX9_begin_44 hJ30 zs_422 (by omega) (by omega) zu_422 (zbot _) (ztop _) (zIR_s (zIR_a (by omega) (by omega))) ?_
  intro M46 hJ47 f48 hn49
  replace hb : zHd _ := hb (zi M46) (zi_zup hn49 f48 rfl rfl)
  refine w_lo dX9_begin_45 rfl rfl rfl rfl ?_
  refine w_lo dX9_begin_46 rfl rfl rfl rfl ?_
  refine w_lo dX9_begin_47 rfl rfl rfl rfl ?_
  refine w_lo dX9_begin_48 rfl rfl rfl rfl ?_
  refine w_lo dX9_begin_49 rfl rfl rfl rfl ?_
  refine w_lo dX9_begin_51 rfl rfl rfl rfl ?_
  refine w_iv dX9_begin_53 rfl rfl (As := [.int a0, .int a1, .int a2, .int a3, .int a4]) rfl rfl hJ47.1.1 zs_386 (Nat.le_of_ble_eq_true rfl) ?_
  refine ZV.imp (k_2381 a0 (by omega) (by omega) a1 (by omega) (by omega) a2 (by omega) (by omega) a3 a4 (by omega) (by omega) hN hJ47.1) ?_
  rintro _ ⟨M51, rfl, hJ52, hq53⟩
  replace hb : zHd _ := hb  (zi M51) (zi_fr hJ52.2)
  have hJ55 := zJ_trans hJ47 hJ52 (zSub_cons (fun _ _ h h' hk => zIR_s (zIR_s (zIR_a (by omega) (by omega)))) zSub_nil)
  show ZW _ _ _ _ _ _ _ (56, [some (.ref 386), some (.int a0), some (.int a1), some (.int a2), some (.int a3), some (.int a4), some (.int x22), none, none], [], M51)
  refine w_lo dX9_begin_56 rfl rfl rfl rfl ?_
  refine w_pu dX9_begin_57 rfl rfl ?_
  refine w_gfi dX9_begin_58 rfl hJ55.1 zs_386 (Nat.le_of_ble_eq_true rfl) zo_386_75 ?_
  intro x56 f57 h58 h59
  replace hb : zHd _ := hb x56.toInt (ziE f57)
  refine w_ic dX9_begin_61 zi_1 ?_
  refine w_puI dX9_begin_62 rfl rfl ?_
  intro x60
  replace hb : zHd _ := hb x60.toInt 
  refine w_pfi dX9_begin_63 rfl hJ55 zs_386 (Nat.le_of_ble_eq_true rfl) zo_386_75 (zbot _) (ztop _) (zIR_s (zIR_s (zIR_s (zIR_s (zIR_s (zIR_s (zIR_s (zIR_s (zIR_k (by omega) (by omega)))))))))) rfl rfl rfl ?_
  intro M61 hJ62 f63 hn64
  replace hb : zHd _ := hb (zi M61) (zi_zup hn64 f63 rfl rfl)
  refine w_lo dX9_begin_66 rfl rfl rfl rfl ?_
  refine w_lo dX9_begin_67 rfl rfl rfl rfl ?_
  refine w_iv dX9_begin_68 rfl rfl (As := [.int a0]) rfl rfl hJ62.1.1 zs_386 (Nat.le_of_ble_eq_true rfl) ?_
  obtain ⟨P68, hp69, hb⟩ := hb
  replace hb : zHd _ := hb
  refine ZV.imp (u_2363 a0 (by omega) (by omega) hN hJ62.1 hp69) ?_
  rintro _ ⟨M66, rfl, hJ67, hq70⟩
  replace hb : zHd _ := hb  (zi M66) (zi_fr hJ67.2) hq70
  have hJ72 := zJ_trans hJ62 hJ67 (zSub_cons (fun _ _ h h' hk => zIR_s (zIR_s (zIR_s (zIR_a (by omega) (by omega))))) (zSub_cons (fun _ _ h h' hk => zIR_s (zIR_s (zIR_s (zIR_s (zIR_e (by omega) (by omega) hk))))) (zSub_cons (fun _ _ h h' hk => zIR_s (zIR_s (zIR_s (zIR_s (zIR_s (zIR_e (by omega) (by omega) hk)))))) (zSub_cons (fun _ _ h h' hk => zIR_s (zIR_s (zIR_s (zIR_s (zIR_s (zIR_s (zIR_e (by omega) (by omega) hk))))))) zSub_nil))))
  show ZW _ _ _ _ _ _ _ (71, [some (.ref 386), some (.int a0), some (.int a1), some (.int a2), some (.int a3), some (.int a4), some (.int x22), none, none], [], M66)
  refine w_lo dX9_begin_71 rfl rfl rfl rfl ?_
  refine w_lo dX9_begin_72 rfl rfl rfl rfl ?_
  refine w_lo dX9_begin_73 rfl rfl rfl rfl ?_
  refine w_lo dX9_begin_74 rfl rfl rfl rfl ?_
  refine w_iv dX9_begin_75 rfl rfl (As := [.int a0, .int a1]) rfl rfl hJ72.1.1 zs_386 (Nat.le_of_ble_eq_true rfl) ?_
  obtain ⟨P75, hp76, hb⟩ := hb
  replace hb : zHd _ := hb
  refine ZV.imp (u_2354 a0 (by omega) (by omega) a1 (by omega) (by omega) hN hJ72.1 hp76) ?_
  rintro _ ⟨x78, M73, rfl, h79, h80, hJ74, hq77⟩
  replace hb : zHd _ := hb x78.toInt h79 h80 (zi M73) (zi_fr hJ74.2) hq77
  have hJ82 := zJ_trans hJ72 hJ74 zSub_nil
  show ZW _ _ _ _ _ _ _ (78, [some (.ref 386), some (.int a0), some (.int a1), some (.int a2), some (.int a3), some (.int a4), some (.int x22), none, none], [.int x78, .ref 386], M73)
  refine w_lo dX9_begin_78 rfl rfl rfl rfl ?_
  refine w_gf dX9_begin_79 rfl hJ82.1.1 zs_386 (zr_386_23 hJ82.1) ?_
  refine w_bi dX9_begin_82 (c := 6) (by decide) ?_
  refine w_lo dX9_begin_84 rfl rfl rfl rfl ?_
  have f83 := (hJ74.2 (386) 12 zNI_nil).trans ((hJ67.2 (386) 12 (zNI (by omega) (zNI_k (by decide) (by decide) (zNI_k (by decide) (by decide) (zNI_k (by decide) (by decide) zNI_nil))))).trans ((hn64 (386) 12 (Or.inr (by decide))).trans ((hJ52.2 (386) 12 (zNI (by omega) zNI_nil)).trans ((hn49 (386) 12 (Or.inl (by omega))).trans (f35)))))
  refine w_gf dX9_begin_85 rfl hJ82.1.1 zs_386 f83 ?_
  refine w_mulc dX9_begin_88 zt_6 (by have := zt_6; omega) ?_
  intro x84 h85
  have := zt_6
  replace hb : zHd _ := hb x84.toInt (by have := zt_6; omega)
  refine w_lo dX9_begin_89 rfl rfl rfl rfl ?_
  refine w_add dX9_begin_90 (by omega) ?_
  intro x86 h87
  replace hb : zHd _ := hb x86.toInt (by omega)
  refine w_iai dX9_begin_91 hJ82.1 zs_398 (by omega) (by omega) zu_398 ?_
  intro x91 f88 h89 h90
  replace hb : zHd _ := hb x91.toInt (ziEk f88 rfl)
  have h92 := hb.1
  replace hb : zHd _ := hb.2
  refine w_iv dX9_begin_92 rfl rfl (As := [.int x78, .int x91]) rfl rfl hJ82.1.1 zs_386 (Nat.le_of_ble_eq_true rfl) ?_
  have h95 := hb.1
  replace hb : zHd _ := hb.2
  refine ZV.imp (k_2382 x78 (by omega) (by omega) x91 hN hJ82.1 h95) ?_
  rintro _ ⟨M93, rfl, hJ94, hq96⟩
  replace hb : zHd _ := hb  (zi M93) (zi_fr hJ94.2)
  have hJ98 := zJ_trans hJ82 hJ94 (zSub_cons (fun _ _ h h' hk => zIR_a (by omega) (by omega)) (zSub_cons (fun _ _ h h' hk => zIR_s (zIR_s (zIR_s (zIR_a (by omega) (by omega))))) (zSub_cons (fun _ _ h h' hk => zIR_s (zIR_s (zIR_s (zIR_s (zIR_s (zIR_s (zIR_s (zIR_e (by omega) (by omega) hk)))))))) zSub_nil)))
  show ZW _ _ _ _ _ _ _ (95, [some (.ref 386), some (.int a0), some (.int a1), some (.int a2), some (.int a3), some (.int a4), some (.int x22), none, none], [], M93)
  refine w_lo dX9_begin_95 rfl rfl rfl rfl ?_
  refine w_gfi dX9_begin_96 rfl hJ98.1 zs_386 (Nat.le_of_ble_eq_true rfl) zo_386_74 ?_
  intro x99 f100 h101 h102
  replace hb : zHd _ := hb x99.toInt (ziE f100) h101 h102
  refine w_ss dX9_begin_99 rfl rfl (As := [.int x99]) rfl rfl (Nat.le_of_ble_eq_true rfl) ?_
  refine ZV.imp (k_2385 x99 (by omega) (by omega) hN hJ98.1) ?_
  rintro _ ⟨x106, M103, rfl, h107, h108, hJ104, hq105⟩
  replace hb : zHd _ := hb x106.toInt  (zi M103) (zi_fr hJ104.2)
  have hJ110 := zJ_trans hJ98 hJ104 zSub_nil
  show ZW _ _ _ _ _ _ _ (102, [some (.ref 386), some (.int a0), some (.int a1), some (.int a2), some (.int a3), some (.int a4), some (.int x22), none, none], [.int x106], M103)
  refine w_lo (ml' := [some (.ref 386), some (.int a0), some (.int a1), some (.int a2), some (.int a3), some (.int a4), some (.int x22), some (.int x106), none]) dX9_begin_102 rfl rfl rfl rfl ?_
  refine w_ic dX9_begin_104 zi_0 ?_
  refine w_lo (ml' := [some (.ref 386), some (.int a0), some (.int a1), some (.int a2), some (.int a3), some (.int a4), some (.int x22), some (.int x106), some (.int 0)]) dX9_begin_105 rfl rfl rfl rfl ?_
  obtain ⟨m, hI⟩ := hb
  exact (main m) M103 a0 a1 a2 a3 a4 x22 x106 0 hJ110 (by omega) (by omega) (by omega) (by omega) (zbot _) (ztop _) (by omega) (by omega) (zbot _) (ztop _) (by have := zt_0; omega) (by have := zt_0; omega) hI
