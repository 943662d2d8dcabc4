/-! walks of the class by pure conditions (wip/safe/gen35.py) -/
set_option maxRecDepth 100000 in
theorem u_2111 {X : List Int32} {d N : Nat} {M0 : zM} (a0 : Int32) (ha00 : (0 : Int) ≤ a0.toInt) (ha01 : a0.toInt ≤ 1600) (hN : N ≤ 600) (hB0 : zB N M0) {Q : Int → zF → Prop} (hb : b_2111 (zi M0) a0.toInt Q) : ZV X (d + 4) 2111 [.ref 0, .int a0] M0 (zRI N [] M0 (0) (1) (fun v M' => Q v.toInt (zi M'))) := by
  have hJ0 : zJ N [] M0 M0 := zJ_refl hB0
  refine ZV.of (ini := false) rfl (Nat.le_of_ble_eq_true rfl) (by decide +kernel) ?_
  obtain ⟨I77, I158, hbE, hb77, hb158⟩ := hb
  replace hbE : zHd _ := hbE
  replace hb77 : zHd _ := hb77
  replace hb158 : zHd _ := hb158
  have main : ∀ n : Nat,
      (∀ (M : zM) (u77_1 : Int32) (v77_2 : Int32) (u77_3 : Int32) (v77_4 : Int32) (v77_5 : Int32) (o77_6 : Option Value), zJ N [] M0 M → ((0 : Int) ≤ v77_2.toInt) → (v77_2.toInt ≤ 11) → ((0 : Int) ≤ v77_4.toInt) → (v77_4.toInt ≤ 4095) → ((0 : Int) ≤ v77_5.toInt) → (v77_5.toInt ≤ 12) → I77 n (zi M) v77_2.toInt v77_4.toInt v77_5.toInt → ZW X (d + 3) 8 false (some .boolean) cX8_isImage (zRI N [] M0 (0) (1) (fun v M' => Q v.toInt (zi M'))) (77, [some (.ref 0), some (.int u77_1), some (.int v77_2), some (.int u77_3), some (.int v77_4), some (.int v77_5), o77_6], [], M)) ∧
      (∀ (M : zM) (u158_1 : Int32) (v158_2 : Int32) (u158_3 : Int32) (u158_4 : Int32) (v158_5 : Int32) (o158_6 : Option Value), zJ N [] M0 M → ((0 : Int) ≤ v158_2.toInt) → (v158_2.toInt ≤ 11) → ((0 : Int) ≤ v158_5.toInt) → (v158_5.toInt ≤ 11) → I158 n (zi M) v158_2.toInt v158_5.toInt → ZW X (d + 3) 8 false (some .boolean) cX8_isImage (zRI N [] M0 (0) (1) (fun v M' => Q v.toInt (zi M'))) (158, [some (.ref 0), some (.int u158_1), some (.int v158_2), some (.int u158_3), some (.int u158_4), some (.int v158_5), o158_6], [], M)) := by
    intro n
    induction n using Nat.strongRecOn with
    | _ n ih =>
      refine ⟨?_, ?_⟩
      · intro M u77_1 v77_2 u77_3 v77_4 v77_5 o77_6 hJ v77_20 v77_21 v77_40 v77_41 v77_50 v77_51 hI
        have hb : zHd _ := hb77 n (zi M) v77_2.toInt v77_4.toInt v77_5.toInt (zi_fr hJ.2) v77_20 v77_21 v77_40 v77_41 v77_50 v77_51 hI
        refine w_lo dX8_isImage_77 rfl rfl rfl rfl ?_
        refine w_lo dX8_isImage_79 rfl rfl rfl rfl ?_
        refine w_gf dX8_isImage_80 rfl hJ.1.1 zs_0 (zr_0_4 hJ.1) ?_
        refine w_gfi dX8_isImage_83 rfl hJ.1 zs_49 (Nat.le_of_ble_eq_true rfl) zo_49_0 ?_
        intro x1 f2 h3 h4
        replace hb : zHd _ := hb x1.toInt (ziE f2) h3 h4
        rcases zcut v77_5.toInt x1.toInt with h5 | h5
        · skip
          replace hb : zHd _ := hb.1 h5
          refine w_cge_f dX8_isImage_86 (t := 155) rfl (by omega) ?_
          refine w_lo dX8_isImage_89 rfl rfl rfl rfl ?_
          refine w_ic dX8_isImage_90 zi_2 ?_
          refine w_bi dX8_isImage_91 (c := 7) (by decide) ?_
          refine w_lo dX8_isImage_93 rfl rfl rfl rfl ?_
          refine w_mulc dX8_isImage_95 zt_7 (by have := zt_7; omega) ?_
          intro x6 h7
          have := zt_7
          replace hb : zHd _ := hb x6.toInt (by have := zt_7; omega)
          refine w_add dX8_isImage_96 (by have := zt_2; omega) ?_
          intro x8 h9
          have := zt_2
          replace hb : zHd _ := hb x8.toInt (by have := zt_2; omega)
          refine w_iv dX8_isImage_97 rfl rfl (As := [.int x8]) rfl rfl hJ.1.1 zs_0 (Nat.le_of_ble_eq_true rfl) ?_
          obtain ⟨P12, hp13, hb⟩ := hb
          replace hb : zHd _ := hb
          refine ZV.imp (u_2092 x8 (by omega) (by omega) hN hJ.1 hp13) ?_
          rintro _ ⟨x15, M10, rfl, h16, h17, hJ11, hq14⟩
          replace hb : zHd _ := hb x15.toInt h16 h17 (zi M10) (zi_fr hJ11.2) hq14
          have hJ19 := zJ_trans hJ hJ11 zSub_nil
          show ZW _ _ _ _ _ _ _ (100, [some (.ref 0), some (.int u77_1), some (.int v77_2), some (.int u77_3), some (.int v77_4), some (.int v77_5), o77_6], [.int x15], M10)
          refine w_lo (ml' := [some (.ref 0), some (.int u77_1), some (.int v77_2), some (.int u77_3), some (.int v77_4), some (.int v77_5), some (.int x15)]) dX8_isImage_100 rfl rfl rfl rfl ?_
          refine w_lo dX8_isImage_102 rfl rfl rfl rfl ?_
          refine w_lo dX8_isImage_103 rfl rfl rfl rfl ?_
          refine w_iv dX8_isImage_105 rfl rfl (As := [.int x15]) rfl rfl hJ19.1.1 zs_0 (Nat.le_of_ble_eq_true rfl) ?_
          refine ZV.of (ini := false) rfl (Nat.le_of_ble_eq_true rfl) (by decide +kernel) ?_
          show ZW _ _ _ _ _ _ _ (0, [some (.ref 0), some (.int x15)], [], M10)
          refine w_lo dX8_isBoy_0 rfl rfl rfl rfl ?_
          refine w_ilt_f dX8_isBoy_1 (t := 19) rfl (by omega) ?_
          refine w_lo dX8_isBoy_4 rfl rfl rfl rfl ?_
          refine w_lo dX8_isBoy_5 rfl rfl rfl rfl ?_
          obtain ⟨b20, f21, h22⟩ := zd_0_3 hJ19.1
          have h23 := zDm_b h22
          refine w_gf dX8_isBoy_6 rfl hJ19.1.1 zs_0 f21 ?_
          replace hb : zHd _ := hb b20 (ziR f21) (zDm_or h22)
          refine w_gfi dX8_isBoy_9 rfl hJ19.1 (zs_1_0 h22) (Nat.le_of_ble_eq_true rfl) (zo_1_0_1 h22) ?_
          intro x24 f25 h26 h27
          replace hb : zHd _ := hb x24.toInt (ziE f25) h26 h27
          rcases zcut x15.toInt x24.toInt with h28 | h28
          · skip
            replace hb : zHd _ := hb.1 h28
            refine w_cge_f dX8_isBoy_12 (t := 19) rfl (by omega) ?_
            refine w_ic dX8_isBoy_15 zi_1 ?_
            refine w_gt dX8_isBoy_16 (t := 20) rfl ?_
            refine w_en dX8_isBoy_20 rfl ?_
            show ZW _ _ _ _ _ _ _ (108, [some (.ref 0), some (.int u77_1), some (.int v77_2), some (.int u77_3), some (.int v77_4), some (.int v77_5), some (.int x15)], [.int 1], M10)
            refine w_ieq_f dX8_isImage_108 (t := 138) rfl (by have := zt_1; omega) ?_
            refine w_lo dX8_isImage_111 rfl rfl rfl rfl ?_
            refine w_lo dX8_isImage_113 rfl rfl rfl rfl ?_
            refine w_puI dX8_isImage_115 rfl rfl ?_
            intro x29
            replace hb : zHd _ := hb x29.toInt 
            refine w_ic dX8_isImage_116 zi_1 ?_
            refine w_and dX8_isImage_117 (m := 1) zt_1 (by omega) ?_
            intro x30 h31 h32
            replace hb : zHd _ := hb x30.toInt h31 h32
            refine w_ic dX8_isImage_118 zi_1 ?_
            rcases Int.decEq x30.toInt (1 : Int) with h33 | h33
            · skip
              replace hb : zHd _ := hb.1 h33
              refine w_ceq_f dX8_isImage_119 (t := 138) rfl (by have := zt_1; omega) ?_
              refine w_lo dX8_isImage_122 rfl rfl rfl rfl ?_
              refine w_lo dX8_isImage_123 rfl rfl rfl rfl ?_
              refine w_ic dX8_isImage_125 zi_2 ?_
              refine w_bi dX8_isImage_126 (c := 7) (by decide) ?_
              refine w_lo dX8_isImage_128 rfl rfl rfl rfl ?_
              refine w_mulc dX8_isImage_130 zt_7 (by have := zt_7; omega) ?_
              intro x34 h35
              have := zt_7
              replace hb : zHd _ := hb x34.toInt (by have := zt_7; omega)
              refine w_add dX8_isImage_131 (by have := zt_2; omega) ?_
              intro x36 h37
              have := zt_2
              replace hb : zHd _ := hb x36.toInt (by have := zt_2; omega)
              refine w_iv dX8_isImage_132 rfl rfl (As := [.int x15, .int x36]) rfl rfl hJ19.1.1 zs_0 (Nat.le_of_ble_eq_true rfl) ?_
              obtain ⟨P40, hp41, hb⟩ := hb
              replace hb : zHd _ := hb
              refine ZV.imp (u_2112 x15 (by omega) (by omega) x36 (by omega) (by omega) hN hJ19.1 hp41) ?_
              rintro _ ⟨x43, M38, rfl, h44, h45, hJ39, hq42⟩
              replace hb : zHd _ := hb x43.toInt h44 h45 (zi M38) (zi_fr hJ39.2) hq42
              have hJ47 := zJ_trans hJ19 hJ39 zSub_nil
              show ZW _ _ _ _ _ _ _ (135, [some (.ref 0), some (.int u77_1), some (.int v77_2), some (.int u77_3), some (.int v77_4), some (.int v77_5), some (.int x15)], [.int x43], M38)
              rcases Int.decEq x43.toInt (0 : Int) with h48 | h48
              · skip
                replace hb : zHd _ := hb.1 h48
                refine w_ine_t dX8_isImage_135 (t := 140) rfl (by omega) ?_
                refine w_lo dX8_isImage_140 rfl rfl rfl rfl ?_
                refine w_ic dX8_isImage_142 zi_1 ?_
                refine w_lo dX8_isImage_143 rfl rfl rfl rfl ?_
                refine w_shl dX8_isImage_145 (by omega) (by omega) (m := 11) (by omega) ?_
                intro x49 h50 h51
                have : (2 : Int) ^ 11 = 2048 := by decide
                replace hb : zHd _ := hb x49.toInt h50 (by omega)
                refine w_or dX8_isImage_146 (m := 12) (by decide) (by omega) (by omega) (by omega) (by omega) ?_
                intro x52 h53 h54
                have : (2 : Int) ^ 12 = 4096 := by decide
                replace hb : zHd _ := hb x52.toInt h53 (by omega)
                refine w_lo (ml' := [some (.ref 0), some (.int u77_1), some (.int v77_2), some (.int u77_3), some (.int x52), some (.int v77_5), some (.int x15)]) dX8_isImage_147 rfl rfl rfl rfl ?_
                refine w_inc (kk := 5) dX8_isImage_149 rfl (m := 1) (by decide) (by omega) ?_
                intro x55 h56
                refine ⟨_, rfl, ?_⟩
                replace hb : zHd _ := hb x55.toInt h56
                show ZW _ _ _ _ _ _ _ (152, [some (.ref 0), some (.int u77_1), some (.int v77_2), some (.int u77_3), some (.int x52), some (.int x55), some (.int x15)], [], M38)
                refine w_gt dX8_isImage_152 (t := 77) rfl ?_
                obtain ⟨m, hm, hI⟩ := hb
                exact (ih m hm).1 M38 u77_1 v77_2 u77_3 x52 x55 (some (.int x15)) hJ47 (by omega) (by omega) (by omega) (by omega) (by omega) (by omega) hI
              · skip
                replace hb : zHd _ := hb.2 h48
                refine w_ine_f dX8_isImage_135 (t := 140) rfl (by omega) ?_
                refine w_ic dX8_isImage_138 zi_0 ?_
                refine w_en dX8_isImage_139 rfl ?_
                exact ⟨_, _, rfl, (by have := zt_0; omega), (by have := zt_0; omega), hJ47, hb⟩
            · skip
              replace hb : zHd _ := hb.2 h33
              refine w_ceq_t dX8_isImage_119 (t := 138) rfl (by have := zt_1; omega) ?_
              refine w_ic dX8_isImage_138 zi_0 ?_
              refine w_en dX8_isImage_139 rfl ?_
              exact ⟨_, _, rfl, (by have := zt_0; omega), (by have := zt_0; omega), hJ19, hb⟩
          · skip
            replace hb : zHd _ := hb.2 h28
            refine w_cge_t dX8_isBoy_12 (t := 19) rfl (by omega) ?_
            refine w_ic dX8_isBoy_19 zi_0 ?_
            refine w_en dX8_isBoy_20 rfl ?_
            show ZW _ _ _ _ _ _ _ (108, [some (.ref 0), some (.int u77_1), some (.int v77_2), some (.int u77_3), some (.int v77_4), some (.int v77_5), some (.int x15)], [.int 0], M10)
            refine w_ieq_t dX8_isImage_108 (t := 138) rfl (by have := zt_0; omega) ?_
            refine w_ic dX8_isImage_138 zi_0 ?_
            refine w_en dX8_isImage_139 rfl ?_
            exact ⟨_, _, rfl, (by have := zt_0; omega), (by have := zt_0; omega), hJ19, hb⟩
        · skip
          replace hb : zHd _ := hb.2 h5
          refine w_cge_t dX8_isImage_86 (t := 155) rfl (by omega) ?_
          refine w_ic dX8_isImage_155 zi_0 ?_
          refine w_lo (ml' := [some (.ref 0), some (.int u77_1), some (.int v77_2), some (.int u77_3), some (.int v77_4), some (.int 0), o77_6]) dX8_isImage_156 rfl rfl rfl rfl ?_
          obtain ⟨m, hm, hI⟩ := hb
          exact (ih m hm).2 M u77_1 v77_2 u77_3 v77_4 0 o77_6 hJ (by omega) (by omega) (by have := zt_0; omega) (by have := zt_0; omega) hI
      · intro M u158_1 v158_2 u158_3 u158_4 v158_5 o158_6 hJ v158_20 v158_21 v158_50 v158_51 hI
        have hb : zHd _ := hb158 n (zi M) v158_2.toInt v158_5.toInt (zi_fr hJ.2) v158_20 v158_21 v158_50 v158_51 hI
        refine w_lo dX8_isImage_158 rfl rfl rfl rfl ?_
        refine w_lo dX8_isImage_160 rfl rfl rfl rfl ?_
        rcases zcut v158_5.toInt v158_2.toInt with h57 | h57
        · skip
          replace hb : zHd _ := hb.1 h57
          refine w_cge_f dX8_isImage_161 (t := 214) rfl (by omega) ?_
          refine w_ic dX8_isImage_164 zi_2 ?_
          refine w_bi dX8_isImage_165 (c := 7) (by decide) ?_
          refine w_lo dX8_isImage_167 rfl rfl rfl rfl ?_
          refine w_gf dX8_isImage_168 rfl hJ.1.1 zs_0 (zr_0_4 hJ.1) ?_
          refine w_gfi dX8_isImage_171 rfl hJ.1 zs_49 (Nat.le_of_ble_eq_true rfl) zo_49_0 ?_
          intro x58 f59 h60 h61
          replace hb : zHd _ := hb x58.toInt (ziE f59) h60 h61
          refine w_mulc dX8_isImage_174 zt_7 (by have := zt_7; omega) ?_
          intro x62 h63
          have := zt_7
          replace hb : zHd _ := hb x62.toInt (by have := zt_7; omega)
          refine w_add dX8_isImage_175 (by have := zt_2; omega) ?_
          intro x64 h65
          have := zt_2
          replace hb : zHd _ := hb x64.toInt (by have := zt_2; omega)
          refine w_ic dX8_isImage_176 zi_2 ?_
          refine w_lo dX8_isImage_177 rfl rfl rfl rfl ?_
          refine w_mulc dX8_isImage_179 zt_2 (by have := zt_2; omega) ?_
          intro x66 h67
          have := zt_2
          replace hb : zHd _ := hb x66.toInt (by have := zt_2; omega)
          refine w_add dX8_isImage_180 (by omega) ?_
          intro x68 h69
          replace hb : zHd _ := hb x68.toInt (by omega)
          refine w_lo (ml' := [some (.ref 0), some (.int u158_1), some (.int v158_2), some (.int u158_3), some (.int u158_4), some (.int v158_5), some (.int x68)]) dX8_isImage_181 rfl rfl rfl rfl ?_
          refine w_lo dX8_isImage_183 rfl rfl rfl rfl ?_
          refine w_lo dX8_isImage_184 rfl rfl rfl rfl ?_
          refine w_iv dX8_isImage_186 rfl rfl (As := [.int x68]) rfl rfl hJ.1.1 zs_0 (Nat.le_of_ble_eq_true rfl) ?_
          obtain ⟨P72, hp73, hb⟩ := hb
          replace hb : zHd _ := hb
          refine ZV.imp (u_2092 x68 (by omega) (by omega) hN hJ.1 hp73) ?_
          rintro _ ⟨x75, M70, rfl, h76, h77, hJ71, hq74⟩
          replace hb : zHd _ := hb x75.toInt h76 h77 (zi M70) (zi_fr hJ71.2) hq74
          have hJ79 := zJ_trans hJ hJ71 zSub_nil
          show ZW _ _ _ _ _ _ _ (189, [some (.ref 0), some (.int u158_1), some (.int v158_2), some (.int u158_3), some (.int u158_4), some (.int v158_5), some (.int x68)], [.int x75], M70)
          refine w_ic dX8_isImage_189 zi_1 ?_
          rcases zcut (1 : Int) x75.toInt with h80 | h80
          · skip
            replace hb : zHd _ := hb.1 h80
            refine w_cgt_t dX8_isImage_190 (t := 206) rfl (by have := zt_1; omega) ?_
            refine w_ic dX8_isImage_206 zi_0 ?_
            refine w_en dX8_isImage_207 rfl ?_
            exact ⟨_, _, rfl, (by have := zt_0; omega), (by have := zt_0; omega), hJ79, hb⟩
          · skip
            replace hb : zHd _ := hb.2 h80
            refine w_cgt_f dX8_isImage_190 (t := 206) rfl (by have := zt_1; omega) ?_
            refine w_lo dX8_isImage_193 rfl rfl rfl rfl ?_
            refine w_lo dX8_isImage_194 rfl rfl rfl rfl ?_
            refine w_ic dX8_isImage_196 zi_1 ?_
            refine w_add dX8_isImage_197 (by have := zt_1; omega) ?_
            intro x81 h82
            have := zt_1
            replace hb : zHd _ := hb x81.toInt (by have := zt_1; omega)
            refine w_iv dX8_isImage_198 rfl rfl (As := [.int x81]) rfl rfl hJ79.1.1 zs_0 (Nat.le_of_ble_eq_true rfl) ?_
            obtain ⟨P85, hp86, hb⟩ := hb
            replace hb : zHd _ := hb
            refine ZV.imp (u_2092 x81 (by omega) (by omega) hN hJ79.1 hp86) ?_
            rintro _ ⟨x88, M83, rfl, h89, h90, hJ84, hq87⟩
            replace hb : zHd _ := hb x88.toInt h89 h90 (zi M83) (zi_fr hJ84.2) hq87
            have hJ92 := zJ_trans hJ79 hJ84 zSub_nil
            show ZW _ _ _ _ _ _ _ (201, [some (.ref 0), some (.int u158_1), some (.int v158_2), some (.int u158_3), some (.int u158_4), some (.int v158_5), some (.int x68)], [.int x88], M83)
            refine w_bi dX8_isImage_201 (c := 99) (by decide) ?_
            rcases zcut (99 : Int) x88.toInt with h93 | h93
            · skip
              replace hb : zHd _ := hb.1 h93
              refine w_cle_f dX8_isImage_203 (t := 208) rfl (by have := zt_99; omega) ?_
              refine w_ic dX8_isImage_206 zi_0 ?_
              refine w_en dX8_isImage_207 rfl ?_
              exact ⟨_, _, rfl, (by have := zt_0; omega), (by have := zt_0; omega), hJ92, hb⟩
            · skip
              replace hb : zHd _ := hb.2 h93
              refine w_cle_t dX8_isImage_203 (t := 208) rfl (by have := zt_99; omega) ?_
              refine w_inc (kk := 5) dX8_isImage_208 rfl (m := 1) (by decide) (by omega) ?_
              intro x94 h95
              refine ⟨_, rfl, ?_⟩
              replace hb : zHd _ := hb x94.toInt h95
              show ZW _ _ _ _ _ _ _ (211, [some (.ref 0), some (.int u158_1), some (.int v158_2), some (.int u158_3), some (.int u158_4), some (.int x94), some (.int x68)], [], M83)
              refine w_gt dX8_isImage_211 (t := 158) rfl ?_
              obtain ⟨m, hm, hI⟩ := hb
              exact (ih m hm).2 M83 u158_1 v158_2 u158_3 u158_4 x94 (some (.int x68)) hJ92 (by omega) (by omega) (by omega) (by omega) hI
        · skip
          replace hb : zHd _ := hb.2 h57
          refine w_cge_t dX8_isImage_161 (t := 214) rfl (by omega) ?_
          refine w_ic dX8_isImage_214 zi_1 ?_
          refine w_en dX8_isImage_215 rfl ?_
          exact ⟨_, _, rfl, (by have := zt_1; omega), (by have := zt_1; omega), hJ, hb⟩
  have hb : zHd _ := hbE
  show ZW _ _ _ _ _ _ _ (0, [some (.ref 0), some (.int a0), none, none, none, none, none], [], M0)
  refine w_ic dX8_isImage_0 zi_0 ?_
  refine w_lo dX8_isImage_1 rfl rfl rfl rfl ?_
  refine w_gf dX8_isImage_2 rfl hJ0.1.1 zs_0 (zr_0_4 hJ0.1) ?_
  refine w_gfi dX8_isImage_5 rfl hJ0.1 zs_49 (Nat.le_of_ble_eq_true rfl) zo_49_0 ?_
  intro x96 f97 h98 h99
  replace hb : zHd _ := hb x96.toInt (ziE f97) h98 h99
  refine w_ic dX8_isImage_8 zi_1 ?_
  refine w_sub dX8_isImage_9 (by have := zt_1; omega) ?_
  intro x100 h101
  have := zt_1
  replace hb : zHd _ := hb x100.toInt (by have := zt_1; omega)
  refine w_mxI dX8_isImage_10 rfl (Nat.le_of_ble_eq_true rfl) ?_
  intro x102 h103 h104 h105
  have := zt_0
  replace hb : zHd _ := hb x102.toInt (by omega) (by omega) (by omega)
  show ZW _ _ _ _ _ _ _ (13, [some (.ref 0), some (.int a0), none, none, none, none, none], [.int x102], M0)
  refine w_lo (ml' := [some (.ref 0), some (.int a0), some (.int x102), none, none, none, none]) dX8_isImage_13 rfl rfl rfl rfl ?_
  refine w_ic dX8_isImage_14 zi_2 ?_
  refine w_bi dX8_isImage_15 (c := 7) (by decide) ?_
  refine w_lo dX8_isImage_17 rfl rfl rfl rfl ?_
  refine w_gf dX8_isImage_18 rfl hJ0.1.1 zs_0 (zr_0_4 hJ0.1) ?_
  refine w_gf dX8_isImage_21 rfl hJ0.1.1 zs_49 f97 ?_
  refine w_mulc dX8_isImage_24 zt_7 (by have := zt_7; omega) ?_
  intro x106 h107
  have := zt_7
  replace hb : zHd _ := hb x106.toInt (by have := zt_7; omega)
  refine w_add dX8_isImage_25 (by have := zt_2; omega) ?_
  intro x108 h109
  have := zt_2
  replace hb : zHd _ := hb x108.toInt (by have := zt_2; omega)
  refine w_ic dX8_isImage_26 zi_2 ?_
  refine w_lo dX8_isImage_27 rfl rfl rfl rfl ?_
  refine w_mulc dX8_isImage_28 zt_2 (by have := zt_2; omega) ?_
  intro x110 h111
  have := zt_2
  replace hb : zHd _ := hb x110.toInt (by have := zt_2; omega)
  refine w_add dX8_isImage_29 (by omega) ?_
  intro x112 h113
  replace hb : zHd _ := hb x112.toInt (by omega)
  refine w_ic dX8_isImage_30 zi_1 ?_
  refine w_add dX8_isImage_31 (by have := zt_1; omega) ?_
  intro x114 h115
  have := zt_1
  replace hb : zHd _ := hb x114.toInt (by have := zt_1; omega)
  refine w_lo (ml' := [some (.ref 0), some (.int a0), some (.int x102), some (.int x114), none, none, none]) dX8_isImage_32 rfl rfl rfl rfl ?_
  refine w_lo dX8_isImage_33 rfl rfl rfl rfl ?_
  refine w_lo dX8_isImage_34 rfl rfl rfl rfl ?_
  rcases Int.decEq a0.toInt x114.toInt with h116 | h116
  · skip
    replace hb : zHd _ := hb.1 h116
    refine w_cne_t dX8_isImage_35 (t := 69) rfl (by omega) ?_
    refine w_ic dX8_isImage_69 zi_0 ?_
    refine w_en dX8_isImage_70 rfl ?_
    exact ⟨_, _, rfl, (by have := zt_0; omega), (by have := zt_0; omega), hJ0, hb⟩
  · skip
    replace hb : zHd _ := hb.2 h116
    refine w_cne_f dX8_isImage_35 (t := 69) rfl (by omega) ?_
    refine w_lo dX8_isImage_38 rfl rfl rfl rfl ?_
    refine w_lo dX8_isImage_39 rfl rfl rfl rfl ?_
    refine w_ic dX8_isImage_40 zi_1 ?_
    refine w_sub dX8_isImage_41 (by have := zt_1; omega) ?_
    intro x117 h118
    have := zt_1
    replace hb : zHd _ := hb x117.toInt (by have := zt_1; omega)
    refine w_iv dX8_isImage_42 rfl rfl (As := [.int x117]) rfl rfl hJ0.1.1 zs_0 (Nat.le_of_ble_eq_true rfl) ?_
    obtain ⟨P121, hp122, hb⟩ := hb
    replace hb : zHd _ := hb
    refine ZV.imp (u_2092 x117 (by omega) (by omega) hN hJ0.1 hp122) ?_
    rintro _ ⟨x124, M119, rfl, h125, h126, hJ120, hq123⟩
    replace hb : zHd _ := hb x124.toInt h125 h126 (zi M119) (zi_fr hJ120.2) hq123
    have hJ128 := zJ_trans hJ0 hJ120 zSub_nil
    show ZW _ _ _ _ _ _ _ (45, [some (.ref 0), some (.int a0), some (.int x102), some (.int x114), none, none, none], [.int x124], M119)
    refine w_lo dX8_isImage_45 rfl rfl rfl rfl ?_
    refine w_gf dX8_isImage_46 rfl hJ128.1.1 zs_0 (zr_0_0 hJ128.1) ?_
    refine w_lo dX8_isImage_49 rfl rfl rfl rfl ?_
    refine w_ic dX8_isImage_50 zi_1 ?_
    refine w_sub dX8_isImage_51 (by have := zt_1; omega) ?_
    intro x129 h130
    have := zt_1
    replace hb : zHd _ := hb x129.toInt (by have := zt_1; omega)
    refine w_ss dX8_isImage_52 rfl rfl (As := [.ref 1, .int x129]) rfl rfl (Nat.le_of_ble_eq_true rfl) ?_
    refine ZV.imp (k_2108 1 _ _ _ zs_1 zu_1 (Nat.le_of_ble_eq_true rfl) (by decide) (by decide) x129 (by omega) (by omega) hN hJ128.1) ?_
    rintro _ ⟨x134, M131, rfl, h135, h136, hJ132, hq133⟩
    replace hb : zHd _ := hb x134.toInt  (zi M131) (zi_fr hJ132.2)
    have hJ138 := zJ_trans hJ128 hJ132 zSub_nil
    show ZW _ _ _ _ _ _ _ (55, [some (.ref 0), some (.int a0), some (.int x102), some (.int x114), none, none, none], [.int x134, .int x124], M131)
    rcases Int.decEq x124.toInt x134.toInt with h139 | h139
    · skip
      replace hb : zHd _ := hb.1 h139
      refine w_cne_t dX8_isImage_55 (t := 69) rfl (by omega) ?_
      refine w_ic dX8_isImage_69 zi_0 ?_
      refine w_en dX8_isImage_70 rfl ?_
      exact ⟨_, _, rfl, (by have := zt_0; omega), (by have := zt_0; omega), hJ138, hb⟩
    · skip
      replace hb : zHd _ := hb.2 h139
      refine w_cne_f dX8_isImage_55 (t := 69) rfl (by omega) ?_
      refine w_lo dX8_isImage_58 rfl rfl rfl rfl ?_
      refine w_ic dX8_isImage_59 zi_0 ?_
      refine w_iv dX8_isImage_60 rfl rfl (As := [.int 0]) rfl rfl hJ138.1.1 zs_0 (Nat.le_of_ble_eq_true rfl) ?_
      obtain ⟨P142, hp143, hb⟩ := hb
      replace hb : zHd _ := hb
      have hp143c : b_2091 (zi M131) (0 : Int32).toInt P142 := by rw [zt_0]; exact hp143
      refine ZV.imp (u_2091 0 (by have := zt_0; omega) (by have := zt_0; omega) hN hJ138.1 hp143c) ?_
      rintro _ ⟨x145, M140, rfl, h146, h147, hJ141, hq144⟩
      replace hb : zHd _ := hb x145.toInt h146 h147 (zi M140) (zi_fr hJ141.2) hq144
      have hJ149 := zJ_trans hJ138 hJ141 zSub_nil
      show ZW _ _ _ _ _ _ _ (63, [some (.ref 0), some (.int a0), some (.int x102), some (.int x114), none, none, none], [.int x145], M140)
      refine w_si dX8_isImage_63 (c := 999) (by decide) ?_
      rcases zcut (999 : Int) x145.toInt with h150 | h150
      · skip
        replace hb : zHd _ := hb.1 h150
        refine w_cle_f dX8_isImage_66 (t := 71) rfl (by have := zt_999; omega) ?_
        refine w_ic dX8_isImage_69 zi_0 ?_
        refine w_en dX8_isImage_70 rfl ?_
        exact ⟨_, _, rfl, (by have := zt_0; omega), (by have := zt_0; omega), hJ149, hb⟩
      · skip
        replace hb : zHd _ := hb.2 h150
        refine w_cle_t dX8_isImage_66 (t := 71) rfl (by have := zt_999; omega) ?_
        refine w_ic dX8_isImage_71 zi_0 ?_
        refine w_lo (ml' := [some (.ref 0), some (.int a0), some (.int x102), some (.int x114), some (.int 0), none, none]) dX8_isImage_72 rfl rfl rfl rfl ?_
        refine w_ic dX8_isImage_74 zi_0 ?_
        refine w_lo (ml' := [some (.ref 0), some (.int a0), some (.int x102), some (.int x114), some (.int 0), some (.int 0), none]) dX8_isImage_75 rfl rfl rfl rfl ?_
        obtain ⟨m, hI⟩ := hb
        exact (main m).1 M140 a0 x102 x114 0 0 none hJ149 (by omega) (by omega) (by have := zt_0; omega) (by have := zt_0; omega) (by have := zt_0; omega) (by have := zt_0; omega) hI
set_option maxRecDepth 100000 in
theorem u_2110 {X : List Int32} {d N : Nat} {M0 : zM}  (hN : N ≤ 600) (hB0 : zB N M0) {Q : Int → zF → Prop} (hb : b_2110 (zi M0) Q) : ZV X (d + 5) 2110 [.ref 0] M0 (zRI N [(49, 50, 0), (77, 78, 0), (0, 1, 1), (49, 50, 1), (50, 62, 1000), (385, 386, 1000), (0, 1, 11), (49, 50, 14), (0, 1, 15)] M0 (0) (1) (fun v M' => Q v.toInt (zi M'))) := by
  have hJ0 : zJ N [(49, 50, 0), (77, 78, 0), (0, 1, 1), (49, 50, 1), (50, 62, 1000), (385, 386, 1000), (0, 1, 11), (49, 50, 14), (0, 1, 15)] M0 M0 := zJ_refl hB0
  refine ZV.of (ini := false) rfl (Nat.le_of_ble_eq_true rfl) (by decide +kernel) ?_
  obtain ⟨I50, I192, hbE, hb50, hb192⟩ := hb
  replace hbE : zHd _ := hbE
  replace hb50 : zHd _ := hb50
  replace hb192 : zHd _ := hb192
  have main : ∀ n : Nat,
      (∀ (M : zM) (u50_1 : Int32) (v50_2 : Int32) (o50_3 : Option Value) (o50_4 : Option Value), zJ N [(49, 50, 0), (77, 78, 0), (0, 1, 1), (49, 50, 1), (50, 62, 1000), (385, 386, 1000), (0, 1, 11), (49, 50, 14), (0, 1, 15)] M0 M → ((0 : Int) ≤ v50_2.toInt) → (v50_2.toInt ≤ 12) → I50 n (zi M) v50_2.toInt → ZW X (d + 4) 8 false (some .boolean) cX8_on (zRI N [(49, 50, 0), (77, 78, 0), (0, 1, 1), (49, 50, 1), (50, 62, 1000), (385, 386, 1000), (0, 1, 11), (49, 50, 14), (0, 1, 15)] M0 (0) (1) (fun v M' => Q v.toInt (zi M'))) (50, [some (.ref 0), some (.int u50_1), some (.int v50_2), o50_3, o50_4], [], M)) ∧
      (∀ (M : zM) (u192_1 : Int32) (v192_2 : Int32) (o192_3 : Option Value) (o192_4 : Option Value), zJ N [(49, 50, 0), (77, 78, 0), (0, 1, 1), (49, 50, 1), (50, 62, 1000), (385, 386, 1000), (0, 1, 11), (49, 50, 14), (0, 1, 15)] M0 M → ((0 : Int) ≤ v192_2.toInt) → (v192_2.toInt ≤ 11) → I192 n (zi M) v192_2.toInt → ZW X (d + 4) 8 false (some .boolean) cX8_on (zRI N [(49, 50, 0), (77, 78, 0), (0, 1, 1), (49, 50, 1), (50, 62, 1000), (385, 386, 1000), (0, 1, 11), (49, 50, 14), (0, 1, 15)] M0 (0) (1) (fun v M' => Q v.toInt (zi M'))) (192, [some (.ref 0), some (.int u192_1), some (.int v192_2), o192_3, o192_4], [], M)) := by
    intro n
    induction n using Nat.strongRecOn with
    | _ n ih =>
      refine ⟨?_, ?_⟩
      · intro M u50_1 v50_2 o50_3 o50_4 hJ v50_20 v50_21 hI
        have hb : zHd _ := hb50 n (zi M) v50_2.toInt (zi_fr hJ.2) v50_20 v50_21 hI
        refine w_lo dX8_on_50 rfl rfl rfl rfl ?_
        refine w_lo dX8_on_51 rfl rfl rfl rfl ?_
        refine w_gf dX8_on_52 rfl hJ.1.1 zs_0 (zr_0_4 hJ.1) ?_
        refine w_gfi dX8_on_55 rfl hJ.1 zs_49 (Nat.le_of_ble_eq_true rfl) zo_49_0 ?_
        intro x1 f2 h3 h4
        replace hb : zHd _ := hb x1.toInt (ziE f2) h3 h4
        rcases zcut v50_2.toInt x1.toInt with h5 | h5
        · skip
          replace hb : zHd _ := hb.1 h5
          refine w_cge_f dX8_on_58 (t := 190) rfl (by omega) ?_
          refine w_ic dX8_on_61 zi_2 ?_
          refine w_bi dX8_on_62 (c := 7) (by decide) ?_
          refine w_lo dX8_on_64 rfl rfl rfl rfl ?_
          refine w_mulc dX8_on_65 zt_7 (by have := zt_7; omega) ?_
          intro x6 h7
          have := zt_7
          replace hb : zHd _ := hb x6.toInt (by have := zt_7; omega)
          refine w_add dX8_on_66 (by have := zt_2; omega) ?_
          intro x8 h9
          have := zt_2
          replace hb : zHd _ := hb x8.toInt (by have := zt_2; omega)
          refine w_lo (ml' := [some (.ref 0), some (.int u50_1), some (.int v50_2), some (.int x8), o50_4]) dX8_on_67 rfl rfl rfl rfl ?_
          refine w_lo dX8_on_68 rfl rfl rfl rfl ?_
          refine w_lo dX8_on_69 rfl rfl rfl rfl ?_
          refine w_iv dX8_on_70 rfl rfl (As := [.int x8]) rfl rfl hJ.1.1 zs_0 (Nat.le_of_ble_eq_true rfl) ?_
          obtain ⟨P12, hp13, hb⟩ := hb
          replace hb : zHd _ := hb
          refine ZV.imp (u_2092 x8 (by omega) (by omega) hN hJ.1 hp13) ?_
          rintro _ ⟨x15, M10, rfl, h16, h17, hJ11, hq14⟩
          replace hb : zHd _ := hb x15.toInt h16 h17 (zi M10) (zi_fr hJ11.2) hq14
          have hJ19 := zJ_trans hJ hJ11 zSub_nil
          show ZW _ _ _ _ _ _ _ (73, [some (.ref 0), some (.int u50_1), some (.int v50_2), some (.int x8), o50_4], [.int x15], M10)
          refine w_lo (ml' := [some (.ref 0), some (.int u50_1), some (.int v50_2), some (.int x8), some (.int x15)]) dX8_on_73 rfl rfl rfl rfl ?_
          refine w_lo dX8_on_75 rfl rfl rfl rfl ?_
          refine w_gf dX8_on_76 rfl hJ19.1.1 zs_0 (zr_0_4 hJ19.1) ?_
          refine w_gf dX8_on_79 rfl hJ19.1.1 zs_49 (zr_49_2 hJ19.1) ?_
          refine w_lo dX8_on_82 rfl rfl rfl rfl ?_
          refine w_lo dX8_on_83 rfl rfl rfl rfl ?_
          have h20 := hb.1
          replace hb : zHd _ := hb.2
          refine w_isi dX8_on_85 hJ19 zs_50 (by omega) (by omega) zu_50 (by omega) (by omega) (zIR_s (zIR_s (zIR_s (zIR_s (zIR_a (by omega) (by omega)))))) ?_
          intro M21 hJ22 f23 hn24
          replace hb : zHd _ := hb (zi M21) (zi_zup hn24 f23 rfl rfl)
          refine w_lo dX8_on_86 rfl rfl rfl rfl ?_
          refine w_gf dX8_on_87 rfl hJ22.1.1 zs_0 (zr_0_4 hJ22.1) ?_
          refine w_gf dX8_on_90 rfl hJ22.1.1 zs_49 (zr_49_3 hJ22.1) ?_
          refine w_lo dX8_on_93 rfl rfl rfl rfl ?_
          refine w_lo dX8_on_95 rfl rfl rfl rfl ?_
          refine w_lo dX8_on_96 rfl rfl rfl rfl ?_
          refine w_ic dX8_on_97 zi_1 ?_
          refine w_add dX8_on_98 (by have := zt_1; omega) ?_
          intro x26 h27
          have := zt_1
          replace hb : zHd _ := hb x26.toInt (by have := zt_1; omega)
          refine w_iv dX8_on_99 rfl rfl (As := [.int x26]) rfl rfl hJ22.1.1 zs_0 (Nat.le_of_ble_eq_true rfl) ?_
          obtain ⟨P30, hp31, hb⟩ := hb
          replace hb : zHd _ := hb
          refine ZV.imp (u_2092 x26 (by omega) (by omega) hN hJ22.1 hp31) ?_
          rintro _ ⟨x33, M28, rfl, h34, h35, hJ29, hq32⟩
          replace hb : zHd _ := hb x33.toInt h34 h35 (zi M28) (zi_fr hJ29.2) hq32
          have hJ37 := zJ_trans hJ22 hJ29 zSub_nil
          show ZW _ _ _ _ _ _ _ (102, [some (.ref 0), some (.int u50_1), some (.int v50_2), some (.int x8), some (.int x15)], [.int x33, .int x15, .ref 51], M28)
          refine w_ic dX8_on_102 zi_1 ?_
          rcases Int.decEq x33.toInt (1 : Int) with h38 | h38
          · skip
            replace hb : zHd _ := hb.1 h38
            refine w_cne_t dX8_on_103 (t := 110) rfl (by have := zt_1; omega) ?_
            refine w_ic dX8_on_110 zi_0 ?_
            refine w_bsi dX8_on_111 hJ37 zs_51 (by omega) (by omega) zu_51 (by have := zt_0; omega) (by have := zt_0; omega) (zIR_s (zIR_s (zIR_s (zIR_s (zIR_a (by omega) (by omega)))))) ?_
            intro M39 hJ40 f41 hn42
            replace hb : zHd _ := hb (zi M39) (zi_zup hn42 f41 rfl zt_0)
            refine w_lo dX8_on_112 rfl rfl rfl rfl ?_
            refine w_gf dX8_on_113 rfl hJ40.1.1 zs_0 (zr_0_4 hJ40.1) ?_
            refine w_gf dX8_on_116 rfl hJ40.1.1 zs_49 (zr_49_4 hJ40.1) ?_
            refine w_lo dX8_on_119 rfl rfl rfl rfl ?_
            refine w_lo dX8_on_121 rfl rfl rfl rfl ?_
            refine w_lo dX8_on_122 rfl rfl rfl rfl ?_
            refine w_ic dX8_on_123 zi_2 ?_
            refine w_add dX8_on_124 (by have := zt_2; omega) ?_
            intro x44 h45
            have := zt_2
            replace hb : zHd _ := hb x44.toInt (by have := zt_2; omega)
            refine w_iv dX8_on_125 rfl rfl (As := [.int x44]) rfl rfl hJ40.1.1 zs_0 (Nat.le_of_ble_eq_true rfl) ?_
            obtain ⟨P48, hp49, hb⟩ := hb
            replace hb : zHd _ := hb
            refine ZV.imp (u_2092 x44 (by omega) (by omega) hN hJ40.1 hp49) ?_
            rintro _ ⟨x51, M46, rfl, h52, h53, hJ47, hq50⟩
            replace hb : zHd _ := hb x51.toInt h52 h53 (zi M46) (zi_fr hJ47.2) hq50
            have hJ55 := zJ_trans hJ40 hJ47 zSub_nil
            show ZW _ _ _ _ _ _ _ (128, [some (.ref 0), some (.int u50_1), some (.int v50_2), some (.int x8), some (.int x15)], [.int x51, .int x15, .ref 52], M46)
            refine w_ic dX8_on_128 zi_1 ?_
            refine w_sub dX8_on_129 (by have := zt_1; omega) ?_
            intro x56 h57
            have := zt_1
            replace hb : zHd _ := hb x56.toInt (by have := zt_1; omega)
            have h58 := hb.1
            replace hb : zHd _ := hb.2
            refine w_isi dX8_on_130 hJ55 zs_52 (by omega) (by omega) zu_52 (by omega) (by omega) (zIR_s (zIR_s (zIR_s (zIR_s (zIR_a (by omega) (by omega)))))) ?_
            intro M59 hJ60 f61 hn62
            replace hb : zHd _ := hb (zi M59) (zi_zup hn62 f61 rfl rfl)
            refine w_lo dX8_on_131 rfl rfl rfl rfl ?_
            refine w_gf dX8_on_132 rfl hJ60.1.1 zs_0 (zr_0_4 hJ60.1) ?_
            refine w_gf dX8_on_135 rfl hJ60.1.1 zs_49 (zr_49_5 hJ60.1) ?_
            refine w_lo dX8_on_138 rfl rfl rfl rfl ?_
            refine w_lo dX8_on_140 rfl rfl rfl rfl ?_
            refine w_lo dX8_on_141 rfl rfl rfl rfl ?_
            refine w_ic dX8_on_142 zi_3 ?_
            refine w_add dX8_on_143 (by have := zt_3; omega) ?_
            intro x64 h65
            have := zt_3
            replace hb : zHd _ := hb x64.toInt (by have := zt_3; omega)
            refine w_iv dX8_on_144 rfl rfl (As := [.int x64]) rfl rfl hJ60.1.1 zs_0 (Nat.le_of_ble_eq_true rfl) ?_
            obtain ⟨P68, hp69, hb⟩ := hb
            replace hb : zHd _ := hb
            refine ZV.imp (u_2092 x64 (by omega) (by omega) hN hJ60.1 hp69) ?_
            rintro _ ⟨x71, M66, rfl, h72, h73, hJ67, hq70⟩
            replace hb : zHd _ := hb x71.toInt h72 h73 (zi M66) (zi_fr hJ67.2) hq70
            have hJ75 := zJ_trans hJ60 hJ67 zSub_nil
            show ZW _ _ _ _ _ _ _ (147, [some (.ref 0), some (.int u50_1), some (.int v50_2), some (.int x8), some (.int x15)], [.int x71, .int x15, .ref 53], M66)
            refine w_isi dX8_on_147 hJ75 zs_53 (by omega) (by omega) zu_53 (zbot _) (ztop _) (zIR_s (zIR_s (zIR_s (zIR_s (zIR_a (by omega) (by omega)))))) ?_
            intro M76 hJ77 f78 hn79
            replace hb : zHd _ := hb (zi M76) (zi_zup hn79 f78 rfl rfl)
            refine w_lo dX8_on_148 rfl rfl rfl rfl ?_
            refine w_gf dX8_on_149 rfl hJ77.1.1 zs_0 (zr_0_4 hJ77.1) ?_
            refine w_gf dX8_on_152 rfl hJ77.1.1 zs_49 (zr_49_6 hJ77.1) ?_
            refine w_lo dX8_on_155 rfl rfl rfl rfl ?_
            refine w_lo dX8_on_157 rfl rfl rfl rfl ?_
            refine w_lo dX8_on_158 rfl rfl rfl rfl ?_
            refine w_ic dX8_on_159 zi_4 ?_
            refine w_add dX8_on_160 (by have := zt_4; omega) ?_
            intro x81 h82
            have := zt_4
            replace hb : zHd _ := hb x81.toInt (by have := zt_4; omega)
            refine w_iv dX8_on_161 rfl rfl (As := [.int x81]) rfl rfl hJ77.1.1 zs_0 (Nat.le_of_ble_eq_true rfl) ?_
            obtain ⟨P85, hp86, hb⟩ := hb
            replace hb : zHd _ := hb
            refine ZV.imp (u_2092 x81 (by omega) (by omega) hN hJ77.1 hp86) ?_
            rintro _ ⟨x88, M83, rfl, h89, h90, hJ84, hq87⟩
            replace hb : zHd _ := hb x88.toInt h89 h90 (zi M83) (zi_fr hJ84.2) hq87
            have hJ92 := zJ_trans hJ77 hJ84 zSub_nil
            show ZW _ _ _ _ _ _ _ (164, [some (.ref 0), some (.int u50_1), some (.int v50_2), some (.int x8), some (.int x15)], [.int x88, .int x15, .ref 54], M83)
            refine w_ic dX8_on_164 zi_1 ?_
            refine w_sub dX8_on_165 (by have := zt_1; omega) ?_
            intro x93 h94
            have := zt_1
            replace hb : zHd _ := hb x93.toInt (by have := zt_1; omega)
            have h95 := hb.1
            replace hb : zHd _ := hb.2
            refine w_isi dX8_on_166 hJ92 zs_54 (by omega) (by omega) zu_54 (by omega) (by omega) (zIR_s (zIR_s (zIR_s (zIR_s (zIR_a (by omega) (by omega)))))) ?_
            intro M96 hJ97 f98 hn99
            replace hb : zHd _ := hb (zi M96) (zi_zup hn99 f98 rfl rfl)
            refine w_lo dX8_on_167 rfl rfl rfl rfl ?_
            refine w_gf dX8_on_168 rfl hJ97.1.1 zs_0 (zr_0_4 hJ97.1) ?_
            refine w_gf dX8_on_171 rfl hJ97.1.1 zs_49 (zr_49_9 hJ97.1) ?_
            refine w_lo dX8_on_174 rfl rfl rfl rfl ?_
            refine w_lo dX8_on_176 rfl rfl rfl rfl ?_
            refine w_lo dX8_on_177 rfl rfl rfl rfl ?_
            refine w_ic dX8_on_178 zi_5 ?_
            refine w_add dX8_on_179 (by have := zt_5; omega) ?_
            intro x101 h102
            have := zt_5
            replace hb : zHd _ := hb x101.toInt (by have := zt_5; omega)
            refine w_iv dX8_on_180 rfl rfl (As := [.int x101]) rfl rfl hJ97.1.1 zs_0 (Nat.le_of_ble_eq_true rfl) ?_
            obtain ⟨P105, hp106, hb⟩ := hb
            replace hb : zHd _ := hb
            refine ZV.imp (u_2091 x101 (by omega) (by omega) hN hJ97.1 hp106) ?_
            rintro _ ⟨x108, M103, rfl, h109, h110, hJ104, hq107⟩
            replace hb : zHd _ := hb x108.toInt h109 h110 (zi M103) (zi_fr hJ104.2) hq107
            have hJ112 := zJ_trans hJ97 hJ104 zSub_nil
            show ZW _ _ _ _ _ _ _ (183, [some (.ref 0), some (.int u50_1), some (.int v50_2), some (.int x8), some (.int x15)], [.int x108, .int x15, .ref 57], M103)
            refine w_isi dX8_on_183 hJ112 zs_57 (by omega) (by omega) zu_57 (zbot _) (ztop _) (zIR_s (zIR_s (zIR_s (zIR_s (zIR_a (by omega) (by omega)))))) ?_
            intro M113 hJ114 f115 hn116
            replace hb : zHd _ := hb (zi M113) (zi_zup hn116 f115 rfl rfl)
            refine w_inc (kk := 2) dX8_on_184 rfl (m := 1) (by decide) (by omega) ?_
            intro x118 h119
            refine ⟨_, rfl, ?_⟩
            replace hb : zHd _ := hb x118.toInt h119
            show ZW _ _ _ _ _ _ _ (187, [some (.ref 0), some (.int u50_1), some (.int x118), some (.int x8), some (.int x15)], [], M113)
            refine w_gt dX8_on_187 (t := 50) rfl ?_
            obtain ⟨m, hm, hI⟩ := hb
            exact (ih m hm).1 M113 u50_1 x118 (some (.int x8)) (some (.int x15)) hJ114 (by omega) (by omega) hI
          · skip
            replace hb : zHd _ := hb.2 h38
            refine w_cne_f dX8_on_103 (t := 110) rfl (by have := zt_1; omega) ?_
            refine w_ic dX8_on_106 zi_1 ?_
            refine w_gt dX8_on_107 (t := 111) rfl ?_
            refine w_bsi dX8_on_111 hJ37 zs_51 (by omega) (by omega) zu_51 (by have := zt_1; omega) (by have := zt_1; omega) (zIR_s (zIR_s (zIR_s (zIR_s (zIR_a (by omega) (by omega)))))) ?_
            intro M120 hJ121 f122 hn123
            replace hb : zHd _ := hb (zi M120) (zi_zup hn123 f122 rfl zt_1)
            refine w_lo dX8_on_112 rfl rfl rfl rfl ?_
            refine w_gf dX8_on_113 rfl hJ121.1.1 zs_0 (zr_0_4 hJ121.1) ?_
            refine w_gf dX8_on_116 rfl hJ121.1.1 zs_49 (zr_49_4 hJ121.1) ?_
            refine w_lo dX8_on_119 rfl rfl rfl rfl ?_
            refine w_lo dX8_on_121 rfl rfl rfl rfl ?_
            refine w_lo dX8_on_122 rfl rfl rfl rfl ?_
            refine w_ic dX8_on_123 zi_2 ?_
            refine w_add dX8_on_124 (by have := zt_2; omega) ?_
            intro x125 h126
            have := zt_2
            replace hb : zHd _ := hb x125.toInt (by have := zt_2; omega)
            refine w_iv dX8_on_125 rfl rfl (As := [.int x125]) rfl rfl hJ121.1.1 zs_0 (Nat.le_of_ble_eq_true rfl) ?_
            obtain ⟨P129, hp130, hb⟩ := hb
            replace hb : zHd _ := hb
            refine ZV.imp (u_2092 x125 (by omega) (by omega) hN hJ121.1 hp130) ?_
            rintro _ ⟨x132, M127, rfl, h133, h134, hJ128, hq131⟩
            replace hb : zHd _ := hb x132.toInt h133 h134 (zi M127) (zi_fr hJ128.2) hq131
            have hJ136 := zJ_trans hJ121 hJ128 zSub_nil
            show ZW _ _ _ _ _ _ _ (128, [some (.ref 0), some (.int u50_1), some (.int v50_2), some (.int x8), some (.int x15)], [.int x132, .int x15, .ref 52], M127)
            refine w_ic dX8_on_128 zi_1 ?_
            refine w_sub dX8_on_129 (by have := zt_1; omega) ?_
            intro x137 h138
            have := zt_1
            replace hb : zHd _ := hb x137.toInt (by have := zt_1; omega)
            have h139 := hb.1
            replace hb : zHd _ := hb.2
            refine w_isi dX8_on_130 hJ136 zs_52 (by omega) (by omega) zu_52 (by omega) (by omega) (zIR_s (zIR_s (zIR_s (zIR_s (zIR_a (by omega) (by omega)))))) ?_
            intro M140 hJ141 f142 hn143
            replace hb : zHd _ := hb (zi M140) (zi_zup hn143 f142 rfl rfl)
            refine w_lo dX8_on_131 rfl rfl rfl rfl ?_
            refine w_gf dX8_on_132 rfl hJ141.1.1 zs_0 (zr_0_4 hJ141.1) ?_
            refine w_gf dX8_on_135 rfl hJ141.1.1 zs_49 (zr_49_5 hJ141.1) ?_
            refine w_lo dX8_on_138 rfl rfl rfl rfl ?_
            refine w_lo dX8_on_140 rfl rfl rfl rfl ?_
            refine w_lo dX8_on_141 rfl rfl rfl rfl ?_
            refine w_ic dX8_on_142 zi_3 ?_
            refine w_add dX8_on_143 (by have := zt_3; omega) ?_
            intro x145 h146
            have := zt_3
            replace hb : zHd _ := hb x145.toInt (by have := zt_3; omega)
            refine w_iv dX8_on_144 rfl rfl (As := [.int x145]) rfl rfl hJ141.1.1 zs_0 (Nat.le_of_ble_eq_true rfl) ?_
            obtain ⟨P149, hp150, hb⟩ := hb
            replace hb : zHd _ := hb
            refine ZV.imp (u_2092 x145 (by omega) (by omega) hN hJ141.1 hp150) ?_
            rintro _ ⟨x152, M147, rfl, h153, h154, hJ148, hq151⟩
            replace hb : zHd _ := hb x152.toInt h153 h154 (zi M147) (zi_fr hJ148.2) hq151
            have hJ156 := zJ_trans hJ141 hJ148 zSub_nil
            show ZW _ _ _ _ _ _ _ (147, [some (.ref 0), some (.int u50_1), some (.int v50_2), some (.int x8), some (.int x15)], [.int x152, .int x15, .ref 53], M147)
            refine w_isi dX8_on_147 hJ156 zs_53 (by omega) (by omega) zu_53 (zbot _) (ztop _) (zIR_s (zIR_s (zIR_s (zIR_s (zIR_a (by omega) (by omega)))))) ?_
            intro M157 hJ158 f159 hn160
            replace hb : zHd _ := hb (zi M157) (zi_zup hn160 f159 rfl rfl)
            refine w_lo dX8_on_148 rfl rfl rfl rfl ?_
            refine w_gf dX8_on_149 rfl hJ158.1.1 zs_0 (zr_0_4 hJ158.1) ?_
            refine w_gf dX8_on_152 rfl hJ158.1.1 zs_49 (zr_49_6 hJ158.1) ?_
            refine w_lo dX8_on_155 rfl rfl rfl rfl ?_
            refine w_lo dX8_on_157 rfl rfl rfl rfl ?_
            refine w_lo dX8_on_158 rfl rfl rfl rfl ?_
            refine w_ic dX8_on_159 zi_4 ?_
            refine w_add dX8_on_160 (by have := zt_4; omega) ?_
            intro x162 h163
            have := zt_4
            replace hb : zHd _ := hb x162.toInt (by have := zt_4; omega)
            refine w_iv dX8_on_161 rfl rfl (As := [.int x162]) rfl rfl hJ158.1.1 zs_0 (Nat.le_of_ble_eq_true rfl) ?_
            obtain ⟨P166, hp167, hb⟩ := hb
            replace hb : zHd _ := hb
            refine ZV.imp (u_2092 x162 (by omega) (by omega) hN hJ158.1 hp167) ?_
            rintro _ ⟨x169, M164, rfl, h170, h171, hJ165, hq168⟩
            replace hb : zHd _ := hb x169.toInt h170 h171 (zi M164) (zi_fr hJ165.2) hq168
            have hJ173 := zJ_trans hJ158 hJ165 zSub_nil
            show ZW _ _ _ _ _ _ _ (164, [some (.ref 0), some (.int u50_1), some (.int v50_2), some (.int x8), some (.int x15)], [.int x169, .int x15, .ref 54], M164)
            refine w_ic dX8_on_164 zi_1 ?_
            refine w_sub dX8_on_165 (by have := zt_1; omega) ?_
            intro x174 h175
            have := zt_1
            replace hb : zHd _ := hb x174.toInt (by have := zt_1; omega)
            have h176 := hb.1
            replace hb : zHd _ := hb.2
            refine w_isi dX8_on_166 hJ173 zs_54 (by omega) (by omega) zu_54 (by omega) (by omega) (zIR_s (zIR_s (zIR_s (zIR_s (zIR_a (by omega) (by omega)))))) ?_
            intro M177 hJ178 f179 hn180
            replace hb : zHd _ := hb (zi M177) (zi_zup hn180 f179 rfl rfl)
            refine w_lo dX8_on_167 rfl rfl rfl rfl ?_
            refine w_gf dX8_on_168 rfl hJ178.1.1 zs_0 (zr_0_4 hJ178.1) ?_
            refine w_gf dX8_on_171 rfl hJ178.1.1 zs_49 (zr_49_9 hJ178.1) ?_
            refine w_lo dX8_on_174 rfl rfl rfl rfl ?_
            refine w_lo dX8_on_176 rfl rfl rfl rfl ?_
            refine w_lo dX8_on_177 rfl rfl rfl rfl ?_
            refine w_ic dX8_on_178 zi_5 ?_
            refine w_add dX8_on_179 (by have := zt_5; omega) ?_
            intro x182 h183
            have := zt_5
            replace hb : zHd _ := hb x182.toInt (by have := zt_5; omega)
            refine w_iv dX8_on_180 rfl rfl (As := [.int x182]) rfl rfl hJ178.1.1 zs_0 (Nat.le_of_ble_eq_true rfl) ?_
            obtain ⟨P186, hp187, hb⟩ := hb
            replace hb : zHd _ := hb
            refine ZV.imp (u_2091 x182 (by omega) (by omega) hN hJ178.1 hp187) ?_
            rintro _ ⟨x189, M184, rfl, h190, h191, hJ185, hq188⟩
            replace hb : zHd _ := hb x189.toInt h190 h191 (zi M184) (zi_fr hJ185.2) hq188
            have hJ193 := zJ_trans hJ178 hJ185 zSub_nil
            show ZW _ _ _ _ _ _ _ (183, [some (.ref 0), some (.int u50_1), some (.int v50_2), some (.int x8), some (.int x15)], [.int x189, .int x15, .ref 57], M184)
            refine w_isi dX8_on_183 hJ193 zs_57 (by omega) (by omega) zu_57 (zbot _) (ztop _) (zIR_s (zIR_s (zIR_s (zIR_s (zIR_a (by omega) (by omega)))))) ?_
            intro M194 hJ195 f196 hn197
            replace hb : zHd _ := hb (zi M194) (zi_zup hn197 f196 rfl rfl)
            refine w_inc (kk := 2) dX8_on_184 rfl (m := 1) (by decide) (by omega) ?_
            intro x199 h200
            refine ⟨_, rfl, ?_⟩
            replace hb : zHd _ := hb x199.toInt h200
            show ZW _ _ _ _ _ _ _ (187, [some (.ref 0), some (.int u50_1), some (.int x199), some (.int x8), some (.int x15)], [], M194)
            refine w_gt dX8_on_187 (t := 50) rfl ?_
            obtain ⟨m, hm, hI⟩ := hb
            exact (ih m hm).1 M194 u50_1 x199 (some (.int x8)) (some (.int x15)) hJ195 (by omega) (by omega) hI
        · skip
          replace hb : zHd _ := hb.2 h5
          refine w_cge_t dX8_on_58 (t := 190) rfl (by omega) ?_
          refine w_ic dX8_on_190 zi_0 ?_
          refine w_lo (ml' := [some (.ref 0), some (.int u50_1), some (.int 0), o50_3, o50_4]) dX8_on_191 rfl rfl rfl rfl ?_
          obtain ⟨m, hm, hI⟩ := hb
          exact (ih m hm).2 M u50_1 0 o50_3 o50_4 hJ (by have := zt_0; omega) (by have := zt_0; omega) hI
      · intro M u192_1 v192_2 o192_3 o192_4 hJ v192_20 v192_21 hI
        have hb : zHd _ := hb192 n (zi M) v192_2.toInt (zi_fr hJ.2) v192_20 v192_21 hI
        refine w_lo dX8_on_192 rfl rfl rfl rfl ?_
        refine w_lo dX8_on_193 rfl rfl rfl rfl ?_
        refine w_gf dX8_on_194 rfl hJ.1.1 zs_0 (zr_0_4 hJ.1) ?_
        refine w_gfi dX8_on_197 rfl hJ.1 zs_49 (Nat.le_of_ble_eq_true rfl) zo_49_0 ?_
        intro x201 f202 h203 h204
        replace hb : zHd _ := hb x201.toInt (ziE f202) h203 h204
        refine w_ic dX8_on_200 zi_1 ?_
        refine w_sub dX8_on_201 (by have := zt_1; omega) ?_
        intro x205 h206
        have := zt_1
        replace hb : zHd _ := hb x205.toInt (by have := zt_1; omega)
        rcases zcut v192_2.toInt x205.toInt with h207 | h207
        · skip
          replace hb : zHd _ := hb.1 h207
          refine w_cge_f dX8_on_202 (t := 267) rfl (by omega) ?_
          refine w_ic dX8_on_205 zi_2 ?_
          refine w_bi dX8_on_206 (c := 7) (by decide) ?_
          refine w_lo dX8_on_208 rfl rfl rfl rfl ?_
          refine w_gf dX8_on_209 rfl hJ.1.1 zs_0 (zr_0_4 hJ.1) ?_
          refine w_gf dX8_on_212 rfl hJ.1.1 zs_49 f202 ?_
          refine w_mulc dX8_on_215 zt_7 (by have := zt_7; omega) ?_
          intro x208 h209
          have := zt_7
          replace hb : zHd _ := hb x208.toInt (by have := zt_7; omega)
          refine w_add dX8_on_216 (by have := zt_2; omega) ?_
          intro x210 h211
          have := zt_2
          replace hb : zHd _ := hb x210.toInt (by have := zt_2; omega)
          refine w_ic dX8_on_217 zi_2 ?_
          refine w_lo dX8_on_218 rfl rfl rfl rfl ?_
          refine w_mulc dX8_on_219 zt_2 (by have := zt_2; omega) ?_
          intro x212 h213
          have := zt_2
          replace hb : zHd _ := hb x212.toInt (by have := zt_2; omega)
          refine w_add dX8_on_220 (by omega) ?_
          intro x214 h215
          replace hb : zHd _ := hb x214.toInt (by omega)
          refine w_lo (ml' := [some (.ref 0), some (.int u192_1), some (.int v192_2), some (.int x214), o192_4]) dX8_on_221 rfl rfl rfl rfl ?_
          refine w_lo dX8_on_222 rfl rfl rfl rfl ?_
          refine w_gf dX8_on_223 rfl hJ.1.1 zs_0 (zr_0_4 hJ.1) ?_
          refine w_gf dX8_on_226 rfl hJ.1.1 zs_49 (zr_49_12 hJ.1) ?_
          refine w_lo dX8_on_229 rfl rfl rfl rfl ?_
          refine w_lo dX8_on_230 rfl rfl rfl rfl ?_
          refine w_lo dX8_on_231 rfl rfl rfl rfl ?_
          refine w_iv dX8_on_232 rfl rfl (As := [.int x214]) rfl rfl hJ.1.1 zs_0 (Nat.le_of_ble_eq_true rfl) ?_
          obtain ⟨P218, hp219, hb⟩ := hb
          replace hb : zHd _ := hb
          refine ZV.imp (u_2092 x214 (by omega) (by omega) hN hJ.1 hp219) ?_
          rintro _ ⟨x221, M216, rfl, h222, h223, hJ217, hq220⟩
          replace hb : zHd _ := hb x221.toInt h222 h223 (zi M216) (zi_fr hJ217.2) hq220
          have hJ225 := zJ_trans hJ hJ217 zSub_nil
          show ZW _ _ _ _ _ _ _ (235, [some (.ref 0), some (.int u192_1), some (.int v192_2), some (.int x214), o192_4], [.int x221, .int v192_2, .ref 60], M216)
          refine w_ic dX8_on_235 zi_1 ?_
          rcases Int.decEq x221.toInt (1 : Int) with h226 | h226
          · skip
            replace hb : zHd _ := hb.1 h226
            refine w_cne_t dX8_on_236 (t := 243) rfl (by have := zt_1; omega) ?_
            refine w_ic dX8_on_243 zi_0 ?_
            refine w_bsi dX8_on_244 hJ225 zs_60 (by omega) (by omega) zu_60 (by have := zt_0; omega) (by have := zt_0; omega) (zIR_s (zIR_s (zIR_s (zIR_s (zIR_a (by omega) (by omega)))))) ?_
            intro M227 hJ228 f229 hn230
            replace hb : zHd _ := hb (zi M227) (zi_zup hn230 f229 rfl zt_0)
            refine w_lo dX8_on_245 rfl rfl rfl rfl ?_
            refine w_gf dX8_on_246 rfl hJ228.1.1 zs_0 (zr_0_4 hJ228.1) ?_
            refine w_gf dX8_on_249 rfl hJ228.1.1 zs_49 (zr_49_13 hJ228.1) ?_
            refine w_lo dX8_on_252 rfl rfl rfl rfl ?_
            refine w_lo dX8_on_253 rfl rfl rfl rfl ?_
            refine w_lo dX8_on_254 rfl rfl rfl rfl ?_
            refine w_ic dX8_on_255 zi_1 ?_
            refine w_add dX8_on_256 (by have := zt_1; omega) ?_
            intro x232 h233
            have := zt_1
            replace hb : zHd _ := hb x232.toInt (by have := zt_1; omega)
            refine w_iv dX8_on_257 rfl rfl (As := [.int x232]) rfl rfl hJ228.1.1 zs_0 (Nat.le_of_ble_eq_true rfl) ?_
            obtain ⟨P236, hp237, hb⟩ := hb
            replace hb : zHd _ := hb
            refine ZV.imp (u_2092 x232 (by omega) (by omega) hN hJ228.1 hp237) ?_
            rintro _ ⟨x239, M234, rfl, h240, h241, hJ235, hq238⟩
            replace hb : zHd _ := hb x239.toInt h240 h241 (zi M234) (zi_fr hJ235.2) hq238
            have hJ243 := zJ_trans hJ228 hJ235 zSub_nil
            show ZW _ _ _ _ _ _ _ (260, [some (.ref 0), some (.int u192_1), some (.int v192_2), some (.int x214), o192_4], [.int x239, .int v192_2, .ref 61], M234)
            refine w_isi dX8_on_260 hJ243 zs_61 (by omega) (by omega) zu_61 (by omega) (by omega) (zIR_s (zIR_s (zIR_s (zIR_s (zIR_a (by omega) (by omega)))))) ?_
            intro M244 hJ245 f246 hn247
            replace hb : zHd _ := hb (zi M244) (zi_zup hn247 f246 rfl rfl)
            refine w_inc (kk := 2) dX8_on_261 rfl (m := 1) (by decide) (by omega) ?_
            intro x249 h250
            refine ⟨_, rfl, ?_⟩
            replace hb : zHd _ := hb x249.toInt h250
            show ZW _ _ _ _ _ _ _ (264, [some (.ref 0), some (.int u192_1), some (.int x249), some (.int x214), o192_4], [], M244)
            refine w_gt dX8_on_264 (t := 192) rfl ?_
            obtain ⟨m, hm, hI⟩ := hb
            exact (ih m hm).2 M244 u192_1 x249 (some (.int x214)) o192_4 hJ245 (by omega) (by omega) hI
          · skip
            replace hb : zHd _ := hb.2 h226
            refine w_cne_f dX8_on_236 (t := 243) rfl (by have := zt_1; omega) ?_
            refine w_ic dX8_on_239 zi_1 ?_
            refine w_gt dX8_on_240 (t := 244) rfl ?_
            refine w_bsi dX8_on_244 hJ225 zs_60 (by omega) (by omega) zu_60 (by have := zt_1; omega) (by have := zt_1; omega) (zIR_s (zIR_s (zIR_s (zIR_s (zIR_a (by omega) (by omega)))))) ?_
            intro M251 hJ252 f253 hn254
            replace hb : zHd _ := hb (zi M251) (zi_zup hn254 f253 rfl zt_1)
            refine w_lo dX8_on_245 rfl rfl rfl rfl ?_
            refine w_gf dX8_on_246 rfl hJ252.1.1 zs_0 (zr_0_4 hJ252.1) ?_
            refine w_gf dX8_on_249 rfl hJ252.1.1 zs_49 (zr_49_13 hJ252.1) ?_
            refine w_lo dX8_on_252 rfl rfl rfl rfl ?_
            refine w_lo dX8_on_253 rfl rfl rfl rfl ?_
            refine w_lo dX8_on_254 rfl rfl rfl rfl ?_
            refine w_ic dX8_on_255 zi_1 ?_
            refine w_add dX8_on_256 (by have := zt_1; omega) ?_
            intro x256 h257
            have := zt_1
            replace hb : zHd _ := hb x256.toInt (by have := zt_1; omega)
            refine w_iv dX8_on_257 rfl rfl (As := [.int x256]) rfl rfl hJ252.1.1 zs_0 (Nat.le_of_ble_eq_true rfl) ?_
            obtain ⟨P260, hp261, hb⟩ := hb
            replace hb : zHd _ := hb
            refine ZV.imp (u_2092 x256 (by omega) (by omega) hN hJ252.1 hp261) ?_
            rintro _ ⟨x263, M258, rfl, h264, h265, hJ259, hq262⟩
            replace hb : zHd _ := hb x263.toInt h264 h265 (zi M258) (zi_fr hJ259.2) hq262
            have hJ267 := zJ_trans hJ252 hJ259 zSub_nil
            show ZW _ _ _ _ _ _ _ (260, [some (.ref 0), some (.int u192_1), some (.int v192_2), some (.int x214), o192_4], [.int x263, .int v192_2, .ref 61], M258)
            refine w_isi dX8_on_260 hJ267 zs_61 (by omega) (by omega) zu_61 (by omega) (by omega) (zIR_s (zIR_s (zIR_s (zIR_s (zIR_a (by omega) (by omega)))))) ?_
            intro M268 hJ269 f270 hn271
            replace hb : zHd _ := hb (zi M268) (zi_zup hn271 f270 rfl rfl)
            refine w_inc (kk := 2) dX8_on_261 rfl (m := 1) (by decide) (by omega) ?_
            intro x273 h274
            refine ⟨_, rfl, ?_⟩
            replace hb : zHd _ := hb x273.toInt h274
            show ZW _ _ _ _ _ _ _ (264, [some (.ref 0), some (.int u192_1), some (.int x273), some (.int x214), o192_4], [], M268)
            refine w_gt dX8_on_264 (t := 192) rfl ?_
            obtain ⟨m, hm, hI⟩ := hb
            exact (ih m hm).2 M268 u192_1 x273 (some (.int x214)) o192_4 hJ269 (by omega) (by omega) hI
        · skip
          replace hb : zHd _ := hb.2 h207
          refine w_cge_t dX8_on_202 (t := 267) rfl (by omega) ?_
          refine w_lo dX8_on_267 rfl rfl rfl rfl ?_
          refine w_gf dX8_on_268 rfl hJ.1.1 zs_0 (zr_0_6 hJ.1) ?_
          refine w_iv dX8_on_271 rfl rfl (As := []) rfl rfl hJ.1.1 zs_77 (Nat.le_of_ble_eq_true rfl) ?_
          obtain ⟨P277, hp278, hb⟩ := hb
          replace hb : zHd _ := hb
          refine ZV.imp (u_1 hN hJ.1 hp278) ?_
          rintro _ ⟨M275, rfl, hJ276, hq279⟩
          replace hb : zHd _ := hb  (zi M275) (zi_fr hJ276.2) hq279
          have hJ281 := zJ_trans hJ hJ276 (zSub_cons (fun _ _ h h' hk => zIR_s (zIR_e (by omega) (by omega) hk)) zSub_nil)
          show ZW _ _ _ _ _ _ _ (274, [some (.ref 0), some (.int u192_1), some (.int v192_2), o192_3, o192_4], [], M275)
          refine w_lo dX8_on_274 rfl rfl rfl rfl ?_
          refine w_ic dX8_on_275 zi_0 ?_
          refine w_pfi dX8_on_276 rfl hJ281 zs_0 (Nat.le_of_ble_eq_true rfl) zo_0_11 (by have := zt_0; omega) (by have := zt_0; omega) (zIR_s (zIR_s (zIR_s (zIR_s (zIR_s (zIR_s (zIR_k (by omega) (by omega)))))))) rfl rfl rfl ?_
          intro M282 hJ283 f284 hn285
          replace hb : zHd _ := hb (zi M282) (zi_zup hn285 f284 rfl zt_0)
          refine w_lo dX8_on_279 rfl rfl rfl rfl ?_
          refine w_pu dX8_on_280 rfl rfl ?_
          refine w_gfi dX8_on_281 rfl hJ283.1 zs_0 (Nat.le_of_ble_eq_true rfl) zo_0_15 ?_
          intro x287 f288 h289 h290
          replace hb : zHd _ := hb x287.toInt (ziE f288)
          refine w_ic dX8_on_284 zi_1 ?_
          refine w_puI dX8_on_285 rfl rfl ?_
          intro x291
          replace hb : zHd _ := hb x291.toInt 
          refine w_pfi dX8_on_286 rfl hJ283 zs_0 (Nat.le_of_ble_eq_true rfl) zo_0_15 (zbot _) (ztop _) (zIR_s (zIR_s (zIR_s (zIR_s (zIR_s (zIR_s (zIR_s (zIR_s (zIR_k (by omega) (by omega)))))))))) rfl rfl rfl ?_
          intro M292 hJ293 f294 hn295
          replace hb : zHd _ := hb (zi M292) (zi_zup hn295 f294 rfl rfl)
          refine w_ic dX8_on_289 zi_1 ?_
          refine w_en dX8_on_290 rfl ?_
          exact ⟨_, _, rfl, (by have := zt_1; omega), (by have := zt_1; omega), hJ293, hb⟩
  have hb : zHd _ := hbE
  show ZW _ _ _ _ _ _ _ (0, [some (.ref 0), none, none, none, none], [], M0)
  refine w_lo dX8_on_0 rfl rfl rfl rfl ?_
  refine w_gfi dX8_on_1 rfl hJ0.1 zs_0 (Nat.le_of_ble_eq_true rfl) zo_0_1 ?_
  intro x297 f298 h299 h300
  replace hb : zHd _ := hb x297.toInt (ziE f298) h299 h300
  refine w_lo (ml' := [some (.ref 0), some (.int x297), none, none, none]) dX8_on_4 rfl rfl rfl rfl ?_
  refine w_lo dX8_on_5 rfl rfl rfl rfl ?_
  refine w_ic dX8_on_6 zi_0 ?_
  refine w_pfi dX8_on_7 rfl hJ0 zs_0 (Nat.le_of_ble_eq_true rfl) zo_0_1 (by have := zt_0; omega) (by have := zt_0; omega) (zIR_s (zIR_s (zIR_k (by omega) (by omega)))) rfl rfl rfl ?_
  intro M301 hJ302 f303 hn304
  replace hb : zHd _ := hb (zi M301) (zi_zup hn304 f303 rfl zt_0)
  refine w_lo dX8_on_10 rfl rfl rfl rfl ?_
  refine w_lo dX8_on_11 rfl rfl rfl rfl ?_
  refine w_iv dX8_on_12 rfl rfl (As := [.int x297]) rfl rfl hJ302.1.1 zs_0 (Nat.le_of_ble_eq_true rfl) ?_
  obtain ⟨P308, hp309, hb⟩ := hb
  replace hb : zHd _ := hb
  refine ZV.imp (u_2111 x297 (by omega) (by omega) hN hJ302.1 hp309) ?_
  rintro _ ⟨x311, M306, rfl, h312, h313, hJ307, hq310⟩
  replace hb : zHd _ := hb x311.toInt h312 h313 (zi M306) (zi_fr hJ307.2) hq310
  have hJ315 := zJ_trans hJ302 hJ307 zSub_nil
  show ZW _ _ _ _ _ _ _ (15, [some (.ref 0), some (.int x297), none, none, none], [.int x311], M306)
  rcases Int.decEq x311.toInt (0 : Int) with h316 | h316
  · skip
    replace hb : zHd _ := hb.1 h316
    refine w_ine_t dX8_on_15 (t := 25) rfl (by omega) ?_
    refine w_lo dX8_on_25 rfl rfl rfl rfl ?_
    refine w_gf dX8_on_26 rfl hJ315.1.1 zs_0 (zr_0_4 hJ315.1) ?_
    refine w_lo dX8_on_29 rfl rfl rfl rfl ?_
    obtain ⟨b317, f318, h319⟩ := zd_0_3 hJ315.1
    have h320 := zDm_b h319
    refine w_gf dX8_on_30 rfl hJ315.1.1 zs_0 f318 ?_
    replace hb : zHd _ := hb b317 (ziR f318) (zDm_or h319)
    refine w_iv dX8_on_33 rfl rfl (As := [.ref b317]) rfl rfl hJ315.1.1 zs_49 (Nat.le_of_ble_eq_true rfl) ?_
    obtain ⟨P323, hp324, hb⟩ := hb
    replace hb : zHd _ := hb
    refine ZV.imp (u_1537 49 hb_6_49 b317 h319 hN hJ315.1 hp324) ?_
    rintro _ ⟨M321, rfl, hJ322, hq325⟩
    replace hb : zHd _ := hb  (zi M321) (zi_fr hJ322.2) hq325
    have hJ327 := zJ_trans hJ315 hJ322 (zSub_cons (fun _ _ h h' hk => zIR_e (by omega) (by omega) hk) (zSub_cons (fun _ _ h h' hk => zIR_s (zIR_s (zIR_s (zIR_e (by omega) (by omega) hk)))) (zSub_cons (fun _ _ h h' hk => zIR_s (zIR_s (zIR_s (zIR_s (zIR_a (by omega) (by omega)))))) (zSub_cons (fun _ _ h h' hk => zIR_s (zIR_s (zIR_s (zIR_s (zIR_s (zIR_s (zIR_s (zIR_e (by omega) (by omega) hk)))))))) zSub_nil))))
    show ZW _ _ _ _ _ _ _ (36, [some (.ref 0), some (.int x297), none, none, none], [], M321)
    refine w_lo dX8_on_36 rfl rfl rfl rfl ?_
    refine w_gf dX8_on_37 rfl hJ327.1.1 zs_0 (zr_0_4 hJ327.1) ?_
    refine w_lo dX8_on_40 rfl rfl rfl rfl ?_
    refine w_ic dX8_on_41 zi_0 ?_
    refine w_iv dX8_on_42 rfl rfl (As := [.int 0]) rfl rfl hJ327.1.1 zs_0 (Nat.le_of_ble_eq_true rfl) ?_
    obtain ⟨P330, hp331, hb⟩ := hb
    replace hb : zHd _ := hb
    have hp331c : b_2091 (zi M321) (0 : Int32).toInt P330 := by rw [zt_0]; exact hp331
    refine ZV.imp (u_2091 0 (by have := zt_0; omega) (by have := zt_0; omega) hN hJ327.1 hp331c) ?_
    rintro _ ⟨x333, M328, rfl, h334, h335, hJ329, hq332⟩
    replace hb : zHd _ := hb x333.toInt h334 h335 (zi M328) (zi_fr hJ329.2) hq332
    have hJ337 := zJ_trans hJ327 hJ329 zSub_nil
    show ZW _ _ _ _ _ _ _ (45, [some (.ref 0), some (.int x297), none, none, none], [.int x333, .ref 49], M328)
    refine w_pfi dX8_on_45 rfl hJ337 zs_49 (Nat.le_of_ble_eq_true rfl) zo_49_1 (zbot _) (ztop _) (zIR_s (zIR_s (zIR_s (zIR_k (by omega) (by omega))))) rfl rfl rfl ?_
    intro M338 hJ339 f340 hn341
    replace hb : zHd _ := hb (zi M338) (zi_zup hn341 f340 rfl rfl)
    refine w_ic dX8_on_48 zi_0 ?_
    refine w_lo (ml' := [some (.ref 0), some (.int x297), some (.int 0), none, none]) dX8_on_49 rfl rfl rfl rfl ?_
    obtain ⟨m, hI⟩ := hb
    exact (main m).1 M338 x297 0 none none hJ339 (by have := zt_0; omega) (by have := zt_0; omega) hI
  · skip
    replace hb : zHd _ := hb.2 h316
    refine w_ine_f dX8_on_15 (t := 25) rfl (by omega) ?_
    refine w_lo dX8_on_18 rfl rfl rfl rfl ?_
    refine w_ic dX8_on_19 zi_5 ?_
    refine w_iv dX8_on_20 rfl rfl (As := [.int 5]) rfl rfl hJ315.1.1 zs_0 (Nat.le_of_ble_eq_true rfl) ?_
    refine ZV.imp (k_2050 5 (by have := zt_5; omega) (by have := zt_5; omega) hN hJ315.1) ?_
    rintro _ ⟨M343, rfl, hJ344, hq345⟩
    replace hb : zHd _ := hb  (zi M343) (zi_fr hJ344.2)
    have hJ347 := zJ_trans hJ315 hJ344 (zSub_cons (fun _ _ h h' hk => zIR_s (zIR_s (zIR_s (zIR_s (zIR_s (zIR_a (by omega) (by omega))))))) zSub_nil)
    show ZW _ _ _ _ _ _ _ (23, [some (.ref 0), some (.int x297), none, none, none], [], M343)
    refine w_ic dX8_on_23 zi_0 ?_
    refine w_en dX8_on_24 rfl ?_
    exact ⟨_, _, rfl, (by have := zt_0; omega), (by have := zt_0; omega), hJ347, hb⟩
