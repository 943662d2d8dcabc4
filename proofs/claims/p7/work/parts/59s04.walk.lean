/-! walks by pure conditions (wip/safe/vcp.py) -/
set_option maxRecDepth 100000 in
theorem u_2363 {X : List Int32} {d N : Nat} {M0 : zM} (a0 : Int32) (ha00 : (0 : Int) ≤ a0.toInt) (ha01 : a0.toInt ≤ 1) (hN : N ≤ 600) (hB0 : zB N M0) {Q : zF → Prop} (hb : b_2363 (zi M0) a0.toInt Q) : ZV X (d + 2) 2363 [.ref 386, .int a0] M0 (zRV N [(434, 435, 1000), (386, 387, 70), (386, 387, 71), (386, 387, 72)] M0 (fun M' => Q (zi M'))) := by
  have hJ0 : zJ N [(434, 435, 1000), (386, 387, 70), (386, 387, 71), (386, 387, 72)] M0 M0 := zJ_refl hB0
  refine ZV.of (ini := false) rfl (Nat.le_of_ble_eq_true rfl) (by decide +kernel) ?_
  obtain ⟨I20, hbE, hb20⟩ := hb
  replace hbE : zHd _ := hbE
  replace hb20 : zHd _ := hb20
  have main : ∀ n : Nat,
      (∀ (M : zM) (v20_1 : Int32) (v20_2 : Int32), zJ N [(434, 435, 1000), (386, 387, 70), (386, 387, 71), (386, 387, 72)] M0 M → ((0 : Int) ≤ v20_1.toInt) → (v20_1.toInt ≤ 1) → ((0 : Int) ≤ v20_2.toInt) → (v20_2.toInt ≤ 12) → I20 n (zi M) v20_1.toInt v20_2.toInt → ZW X (d + 1) 9 false none cX9_rowNow (zRV N [(434, 435, 1000), (386, 387, 70), (386, 387, 71), (386, 387, 72)] M0 (fun M' => Q (zi M'))) (20, [some (.ref 386), some (.int v20_1), some (.int v20_2)], [], M)) := by
    intro n
    induction n using Nat.strongRecOn with
    | _ n ih =>
      · intro M v20_1 v20_2 hJ v20_10 v20_11 v20_20 v20_21 hI
        have hb : zHd _ := hb20 n (zi M) v20_1.toInt v20_2.toInt (zi_fr hJ.2) v20_10 v20_11 v20_20 v20_21 hI
        refine w_lo dX9_rowNow_20 rfl rfl rfl rfl ?_
        refine w_lo dX9_rowNow_21 rfl rfl rfl rfl ?_
        refine w_gfi dX9_rowNow_22 rfl hJ.1 zs_386 (Nat.le_of_ble_eq_true rfl) zo_386_70 ?_
        intro x1 f2 h3 h4
        replace hb : zHd _ := hb x1.toInt (ziE f2) h3 h4
        rcases zcut v20_2.toInt x1.toInt with h5 | h5
        · skip
          replace hb : zHd _ := hb.1 h5
          refine w_cge_f dX9_rowNow_25 (t := 51) rfl (by omega) ?_
          refine w_lo dX9_rowNow_28 rfl rfl rfl rfl ?_
          refine w_gf dX9_rowNow_29 rfl hJ.1.1 zs_386 (zr_386_69 hJ.1) ?_
          refine w_lo dX9_rowNow_32 rfl rfl rfl rfl ?_
          refine w_lo dX9_rowNow_33 rfl rfl rfl rfl ?_
          refine w_gf dX9_rowNow_34 rfl hJ.1.1 zs_386 (zr_386_50 hJ.1) ?_
          refine w_bi dX9_rowNow_37 (c := 12) (by decide) ?_
          refine w_lo dX9_rowNow_39 rfl rfl rfl rfl ?_
          refine w_mulc dX9_rowNow_40 zt_12 (by have := zt_12; omega) ?_
          intro x6 h7
          have := zt_12
          replace hb : zHd _ := hb x6.toInt (by have := zt_12; omega)
          refine w_lo dX9_rowNow_41 rfl rfl rfl rfl ?_
          refine w_add dX9_rowNow_42 (by omega) ?_
          intro x8 h9
          replace hb : zHd _ := hb x8.toInt (by omega)
          refine w_iai dX9_rowNow_43 hJ.1 zs_419 (by omega) (by omega) zu_419 ?_
          intro x13 f10 h11 h12
          replace hb : zHd _ := hb x13.toInt (ziEk f10 rfl) h11 h12
          refine w_isi dX9_rowNow_44 hJ zs_434 (by omega) (by omega) zu_434 (by omega) (by omega) (zIR_a (by omega) (by omega)) ?_
          intro M14 hJ15 f16 hn17
          replace hb : zHd _ := hb (zi M14) (zi_zup hn17 f16 rfl rfl)
          refine w_inc (kk := 2) dX9_rowNow_45 rfl (m := 1) (by decide) (by omega) ?_
          intro x19 h20
          refine ⟨_, rfl, ?_⟩
          replace hb : zHd _ := hb x19.toInt h20
          show ZW _ _ _ _ _ _ _ (48, [some (.ref 386), some (.int v20_1), some (.int x19)], [], M14)
          refine w_gt dX9_rowNow_48 (t := 20) rfl ?_
          obtain ⟨m, hm, hI⟩ := hb
          exact (ih m hm) M14 v20_1 x19 hJ15 (by omega) (by omega) (by omega) (by omega) hI
        · skip
          replace hb : zHd _ := hb.2 h5
          refine w_cge_t dX9_rowNow_25 (t := 51) rfl (by omega) ?_
          refine w_en dX9_rowNow_51 rfl ?_
          exact ⟨_, rfl, hJ, hb⟩
  have hb : zHd _ := hbE
  show ZW _ _ _ _ _ _ _ (0, [some (.ref 386), some (.int a0), none], [], M0)
  refine w_lo dX9_rowNow_0 rfl rfl rfl rfl ?_
  refine w_lo dX9_rowNow_1 rfl rfl rfl rfl ?_
  refine w_iv dX9_rowNow_2 rfl rfl (As := []) rfl rfl hJ0.1.1 zs_386 (Nat.le_of_ble_eq_true rfl) ?_
  refine ZV.of (ini := false) rfl (Nat.le_of_ble_eq_true rfl) (by decide +kernel) ?_
  show ZW _ _ _ _ _ _ _ (0, [some (.ref 386)], [], M0)
  refine w_lo dX9_many_0 rfl rfl rfl rfl ?_
  refine w_gf dX9_many_1 rfl hJ0.1.1 zs_386 (zr_386_13 hJ0.1) ?_
  refine w_lo dX9_many_4 rfl rfl rfl rfl ?_
  refine w_gfi dX9_many_5 rfl hJ0.1 zs_386 (Nat.le_of_ble_eq_true rfl) zo_386_12 ?_
  intro x21 f22 h23 h24
  replace hb : zHd _ := hb x21.toInt (ziE f22) h23 h24
  refine w_iai dX9_many_8 hJ0.1 zs_388 (by omega) (by omega) zu_388 ?_
  intro x28 f25 h26 h27
  replace hb : zHd _ := hb x28.toInt (ziEk f25 rfl) h26 h27
  refine w_eni dX9_many_9 rfl rfl ?_
  show ZW _ _ _ _ _ _ _ (5, [some (.ref 386), some (.int a0), none], [.int x28, .ref 386], M0)
  refine w_pfi dX9_rowNow_5 rfl hJ0 zs_386 (Nat.le_of_ble_eq_true rfl) zo_386_70 (by omega) (by omega) (zIR_s (zIR_k (by omega) (by omega))) rfl rfl rfl ?_
  intro M29 hJ30 f31 hn32
  replace hb : zHd _ := hb (zi M29) (zi_zup hn32 f31 rfl rfl)
  refine w_lo dX9_rowNow_8 rfl rfl rfl rfl ?_
  refine w_ic dX9_rowNow_9 zi_0 ?_
  refine w_pfi dX9_rowNow_10 rfl hJ30 zs_386 (Nat.le_of_ble_eq_true rfl) zo_386_71 (by have := zt_0; omega) (by have := zt_0; omega) (zIR_s (zIR_s (zIR_k (by omega) (by omega)))) rfl rfl rfl ?_
  intro M34 hJ35 f36 hn37
  replace hb : zHd _ := hb (zi M34) (zi_zup hn37 f36 rfl zt_0)
  refine w_lo dX9_rowNow_13 rfl rfl rfl rfl ?_
  refine w_lo dX9_rowNow_14 rfl rfl rfl rfl ?_
  refine w_pfi dX9_rowNow_15 rfl hJ35 zs_386 (Nat.le_of_ble_eq_true rfl) zo_386_72 (by omega) (by omega) (zIR_s (zIR_s (zIR_s (zIR_k (by omega) (by omega))))) rfl rfl rfl ?_
  intro M39 hJ40 f41 hn42
  replace hb : zHd _ := hb (zi M39) (zi_zup hn42 f41 rfl rfl)
  refine w_ic dX9_rowNow_18 zi_0 ?_
  refine w_lo (ml' := [some (.ref 386), some (.int a0), some (.int 0)]) dX9_rowNow_19 rfl rfl rfl rfl ?_
  obtain ⟨m, hI⟩ := hb
  exact (main m) M39 a0 0 hJ40 (by omega) (by omega) (by have := zt_0; omega) (by have := zt_0; omega) hI
set_option maxRecDepth 100000 in
theorem u_2371 {X : List Int32} {d N : Nat} {M0 : zM} (a0 : Int32) (ha00 : (0 : Int) ≤ a0.toInt) (ha01 : a0.toInt ≤ 1600) (a1 : Int32) (ha10 : (0 : Int) ≤ a1.toInt) (ha11 : a1.toInt ≤ 1600) (hN : N ≤ 600) (hB0 : zB N M0) {Q : Int → zF → Prop} (hb : b_2371 (zi M0) a0.toInt a1.toInt Q) : ZV X (d + 3) 2371 [.ref 386, .int a0, .int a1] M0 (zRG N [(416, 417, 1000)] M0 (fun v M' => Q v.toInt (zi M'))) := by
  have hJ0 : zJ N [(416, 417, 1000)] M0 M0 := zJ_refl hB0
  refine ZV.of (ini := false) rfl (Nat.le_of_ble_eq_true rfl) (by decide +kernel) ?_
  obtain ⟨I14, hbE, hb14⟩ := hb
  replace hbE : zHd _ := hbE
  replace hb14 : zHd _ := hb14
  have main : ∀ n : Nat,
      (∀ (M : zM) (u14_1 : Int32) (v14_2 : Int32) (v14_3 : Int32) (v14_4 : Int32) (o14_5 : Option Value), zJ N [(416, 417, 1000)] M0 M → ((0 : Int) ≤ v14_2.toInt) → (v14_2.toInt ≤ 1600) → ((0 : Int) ≤ v14_3.toInt) → (v14_3.toInt ≤ 2046) → ((0 : Int) ≤ v14_4.toInt) → (v14_4.toInt ≤ 3200) → I14 n (zi M) v14_2.toInt v14_3.toInt v14_4.toInt → ZW X (d + 2) 9 false (some .long) cX9_reckons (zRG N [(416, 417, 1000)] M0 (fun v M' => Q v.toInt (zi M'))) (14, [some (.ref 386), some (.int u14_1), some (.int v14_2), some (.int v14_3), some (.int v14_4), o14_5], [], M)) := by
    intro n
    induction n using Nat.strongRecOn with
    | _ n ih =>
      · intro M u14_1 v14_2 v14_3 v14_4 o14_5 hJ v14_20 v14_21 v14_30 v14_31 v14_40 v14_41 hI
        have hb : zHd _ := hb14 n (zi M) v14_2.toInt v14_3.toInt v14_4.toInt (zi_fr hJ.2) v14_20 v14_21 v14_30 v14_31 v14_40 v14_41 hI
        refine w_lo dX9_reckons_14 rfl rfl rfl rfl ?_
        refine w_si dX9_reckons_16 (c := 1600) (by decide) ?_
        refine w_lo dX9_reckons_19 rfl rfl rfl rfl ?_
        refine w_gfi dX9_reckons_20 rfl hJ.1 zs_386 (Nat.le_of_ble_eq_true rfl) zo_386_12 ?_
        intro x1 f2 h3 h4
        replace hb : zHd _ := hb x1.toInt (ziE f2) h3 h4
        refine w_mulc dX9_reckons_23 zt_1600 (by have := zt_1600; omega) ?_
        intro x5 h6
        have := zt_1600
        replace hb : zHd _ := hb x5.toInt (by have := zt_1600; omega)
        refine w_lo dX9_reckons_24 rfl rfl rfl rfl ?_
        refine w_add dX9_reckons_25 (by omega) ?_
        intro x7 h8
        replace hb : zHd _ := hb x7.toInt (by omega)
        rcases zcut v14_4.toInt x7.toInt with h9 | h9
        · skip
          replace hb : zHd _ := hb.1 h9
          refine w_cge_f dX9_reckons_26 (t := 156) rfl (by omega) ?_
          refine w_lo dX9_reckons_29 rfl rfl rfl rfl ?_
          refine w_gf dX9_reckons_30 rfl hJ.1.1 zs_386 (zr_386_32 hJ.1) ?_
          refine w_lo dX9_reckons_33 rfl rfl rfl rfl ?_
          refine w_iai dX9_reckons_35 hJ.1 zs_407 (by omega) (by omega) zu_407 ?_
          intro x13 f10 h11 h12
          replace hb : zHd _ := hb x13.toInt (ziEk f10 rfl) h11 h12
          refine w_lo (ml' := [some (.ref 386), some (.int u14_1), some (.int v14_2), some (.int v14_3), some (.int v14_4), some (.int x13)]) dX9_reckons_36 rfl rfl rfl rfl ?_
          refine w_lo dX9_reckons_38 rfl rfl rfl rfl ?_
          refine w_bi dX9_reckons_40 (c := 9) (by decide) ?_
          rcases zcut (9 : Int) x13.toInt with h14 | h14
          · skip
            replace hb : zHd _ := hb.1 h14
            refine w_cgt_t dX9_reckons_42 (t := 92) rfl (by have := zt_9; omega) ?_
            refine w_lo dX9_reckons_92 rfl rfl rfl rfl ?_
            refine w_bi dX9_reckons_94 (c := 22) (by decide) ?_
            rcases Int.decEq x13.toInt (22 : Int) with h15 | h15
            · skip
              replace hb : zHd _ := hb.1 h15
              refine w_cne_t dX9_reckons_96 (t := 120) rfl (by have := zt_22; omega) ?_
              refine w_inc (kk := 3) dX9_reckons_120 rfl (m := -1) (by decide) (by omega) ?_
              intro x16 h17
              refine ⟨_, rfl, ?_⟩
              replace hb : zHd _ := hb x16.toInt h17
              show ZW _ _ _ _ _ _ _ (123, [some (.ref 386), some (.int u14_1), some (.int v14_2), some (.int x16), some (.int v14_4), some (.int x13)], [], M)
              refine w_lo dX9_reckons_123 rfl rfl rfl rfl ?_
              refine w_gf dX9_reckons_124 rfl hJ.1.1 zs_386 (zr_386_47 hJ.1) ?_
              refine w_lo dX9_reckons_127 rfl rfl rfl rfl ?_
              refine w_ic dX9_reckons_128 zi_1 ?_
              refine w_sub dX9_reckons_129 (by have := zt_1; omega) ?_
              intro x18 h19
              have := zt_1
              replace hb : zHd _ := hb x18.toInt (by have := zt_1; omega)
              refine w_lo dX9_reckons_130 rfl rfl rfl rfl ?_
              refine w_lo dX9_reckons_132 rfl rfl rfl rfl ?_
              refine w_gf dX9_reckons_133 rfl hJ.1.1 zs_386 (zr_386_47 hJ.1) ?_
              refine w_lo dX9_reckons_136 rfl rfl rfl rfl ?_
              refine w_ic dX9_reckons_137 zi_1 ?_
              refine w_sub dX9_reckons_138 (by have := zt_1; omega) ?_
              intro x20 h21
              have := zt_1
              replace hb : zHd _ := hb x20.toInt (by have := zt_1; omega)
              have h22 := hb.1
              replace hb : zHd _ := hb.2
              refine w_lal dX9_reckons_139 hJ.1 zs_416 (by omega) (by omega) zu_416 ?_
              intro y26 f23
              replace hb : zHd _ := hb y26.toInt (ziLk f23 rfl)
              refine w_lo dX9_reckons_140 rfl rfl rfl rfl ?_
              refine w_gf dX9_reckons_141 rfl hJ.1.1 zs_386 (zr_386_47 hJ.1) ?_
              refine w_lo dX9_reckons_144 rfl rfl rfl rfl ?_
              have h27 := hb.1
              replace hb : zHd _ := hb.2
              refine w_lal dX9_reckons_145 hJ.1 zs_416 (by omega) (by omega) zu_416 ?_
              intro y31 f28
              replace hb : zHd _ := hb y31.toInt (ziLk f28 rfl)
              refine w_ss dX9_reckons_146 rfl rfl (As := [.int x13, .long y26, .long y31]) rfl rfl (Nat.le_of_ble_eq_true rfl) ?_
              refine ZV.imp (k_2372 x13 (by omega) (by omega) y26 y31 hN hJ.1) ?_
              rintro _ ⟨y35, M32, rfl, hJ33, hq34⟩
              replace hb : zHd _ := hb y35.toInt  (zi M32) (zi_fr hJ33.2)
              have hJ37 := zJ_trans hJ hJ33 zSub_nil
              show ZW _ _ _ _ _ _ _ (149, [some (.ref 386), some (.int u14_1), some (.int v14_2), some (.int x16), some (.int v14_4), some (.int x13)], [.long y35, .int x18, .ref 416], M32)
              have h38 := hb.1
              replace hb : zHd _ := hb.2
              refine w_lsi dX9_reckons_149 hJ37 zs_416 (by omega) (by omega) zu_416 (zIR_a (by omega) (by omega)) ?_
              intro M39 hJ40 f41 hn42
              replace hb : zHd _ := hb (zi M39) (zi_zupL hn42 f41 rfl rfl)
              refine w_inc (kk := 4) dX9_reckons_150 rfl (m := 1) (by decide) (by omega) ?_
              intro x44 h45
              refine ⟨_, rfl, ?_⟩
              replace hb : zHd _ := hb x44.toInt h45
              show ZW _ _ _ _ _ _ _ (153, [some (.ref 386), some (.int u14_1), some (.int v14_2), some (.int x16), some (.int x44), some (.int x13)], [], M39)
              refine w_gt dX9_reckons_153 (t := 14) rfl ?_
              obtain ⟨m, hm, hI⟩ := hb
              exact (ih m hm) M39 u14_1 v14_2 x16 x44 (some (.int x13)) hJ40 (by omega) (by omega) (by omega) (by omega) (by omega) (by omega) hI
            · skip
              replace hb : zHd _ := hb.2 h15
              refine w_cne_f dX9_reckons_96 (t := 120) rfl (by have := zt_22; omega) ?_
              refine w_lo dX9_reckons_99 rfl rfl rfl rfl ?_
              refine w_gf dX9_reckons_100 rfl hJ.1.1 zs_386 (zr_386_47 hJ.1) ?_
              refine w_lo dX9_reckons_103 rfl rfl rfl rfl ?_
              refine w_ic dX9_reckons_104 zi_1 ?_
              refine w_sub dX9_reckons_105 (by have := zt_1; omega) ?_
              intro x46 h47
              have := zt_1
              replace hb : zHd _ := hb x46.toInt (by have := zt_1; omega)
              refine w_lc dX9_reckons_106 (c := (1 : Int64)) (by decide) ?_
              refine w_lo dX9_reckons_107 rfl rfl rfl rfl ?_
              refine w_gf dX9_reckons_108 rfl hJ.1.1 zs_386 (zr_386_47 hJ.1) ?_
              refine w_lo dX9_reckons_111 rfl rfl rfl rfl ?_
              refine w_ic dX9_reckons_112 zi_1 ?_
              refine w_sub dX9_reckons_113 (by have := zt_1; omega) ?_
              intro x48 h49
              have := zt_1
              replace hb : zHd _ := hb x48.toInt (by have := zt_1; omega)
              have h50 := hb.1
              replace hb : zHd _ := hb.2
              refine w_lal dX9_reckons_114 hJ.1 zs_416 (by omega) (by omega) zu_416 ?_
              intro y54 f51
              replace hb : zHd _ := hb y54.toInt (ziLk f51 rfl)
              refine w_puL dX9_reckons_115 rfl rfl ?_
              intro y55
              replace hb : zHd _ := hb y55.toInt 
              have h56 := hb.1
              replace hb : zHd _ := hb.2
              refine w_lsi dX9_reckons_116 hJ zs_416 (by omega) (by omega) zu_416 (zIR_a (by omega) (by omega)) ?_
              intro M57 hJ58 f59 hn60
              replace hb : zHd _ := hb (zi M57) (zi_zupL hn60 f59 rfl rfl)
              refine w_gt dX9_reckons_117 (t := 150) rfl ?_
              refine w_inc (kk := 4) dX9_reckons_150 rfl (m := 1) (by decide) (by omega) ?_
              intro x62 h63
              refine ⟨_, rfl, ?_⟩
              replace hb : zHd _ := hb x62.toInt h63
              show ZW _ _ _ _ _ _ _ (153, [some (.ref 386), some (.int u14_1), some (.int v14_2), some (.int v14_3), some (.int x62), some (.int x13)], [], M57)
              refine w_gt dX9_reckons_153 (t := 14) rfl ?_
              obtain ⟨m, hm, hI⟩ := hb
              exact (ih m hm) M57 u14_1 v14_2 v14_3 x62 (some (.int x13)) hJ58 (by omega) (by omega) (by omega) (by omega) (by omega) (by omega) hI
          · skip
            replace hb : zHd _ := hb.2 h14
            refine w_cgt_f dX9_reckons_42 (t := 92) rfl (by have := zt_9; omega) ?_
            refine w_lo dX9_reckons_45 rfl rfl rfl rfl ?_
            refine w_gf dX9_reckons_46 rfl hJ.1.1 zs_386 (zr_386_47 hJ.1) ?_
            refine w_lo dX9_reckons_49 rfl rfl rfl rfl ?_
            refine w_lo dX9_reckons_50 rfl rfl rfl rfl ?_
            rcases Int.decEq x13.toInt (0 : Int) with h64 | h64
            · skip
              replace hb : zHd _ := hb.1 h64
              refine w_ine_t dX9_reckons_52 (t := 66) rfl (by omega) ?_
              refine w_lo dX9_reckons_66 rfl rfl rfl rfl ?_
              refine w_bi dX9_reckons_68 (c := 9) (by decide) ?_
              rcases Int.decEq x13.toInt (9 : Int) with h65 | h65
              · skip
                replace hb : zHd _ := hb.1 h65
                refine w_cne_t dX9_reckons_70 (t := 77) rfl (by have := zt_9; omega) ?_
                refine w_lo dX9_reckons_77 rfl rfl rfl rfl ?_
                refine w_gf dX9_reckons_78 rfl hJ.1.1 zs_386 (zr_386_48 hJ.1) ?_
                refine w_lo dX9_reckons_81 rfl rfl rfl rfl ?_
                refine w_iai dX9_reckons_83 hJ.1 zs_417 (by omega) (by omega) zu_417 ?_
                intro x69 f66 h67 h68
                replace hb : zHd _ := hb x69.toInt (ziEk f66 rfl)
                refine w_i2l dX9_reckons_84 ?_
                intro y70 h71
                have := ztop x69; have := zbot x69
                replace hb : zHd _ := hb y70.toInt (by omega)
                have h72 := hb.1
                replace hb : zHd _ := hb.2
                refine w_lsi dX9_reckons_85 hJ zs_416 (by omega) (by omega) zu_416 (zIR_a (by omega) (by omega)) ?_
                intro M73 hJ74 f75 hn76
                replace hb : zHd _ := hb (zi M73) (zi_zupL hn76 f75 rfl rfl)
                refine w_inc (kk := 3) dX9_reckons_86 rfl (m := 1) (by decide) (by omega) ?_
                intro x78 h79
                refine ⟨_, rfl, ?_⟩
                replace hb : zHd _ := hb x78.toInt h79
                show ZW _ _ _ _ _ _ _ (89, [some (.ref 386), some (.int u14_1), some (.int v14_2), some (.int x78), some (.int v14_4), some (.int x13)], [], M73)
                refine w_gt dX9_reckons_89 (t := 150) rfl ?_
                refine w_inc (kk := 4) dX9_reckons_150 rfl (m := 1) (by decide) (by omega) ?_
                intro x80 h81
                refine ⟨_, rfl, ?_⟩
                replace hb : zHd _ := hb x80.toInt h81
                show ZW _ _ _ _ _ _ _ (153, [some (.ref 386), some (.int u14_1), some (.int v14_2), some (.int x78), some (.int x80), some (.int x13)], [], M73)
                refine w_gt dX9_reckons_153 (t := 14) rfl ?_
                obtain ⟨m, hm, hI⟩ := hb
                exact (ih m hm) M73 u14_1 v14_2 x78 x80 (some (.int x13)) hJ74 (by omega) (by omega) (by omega) (by omega) (by omega) (by omega) hI
              · skip
                replace hb : zHd _ := hb.2 h65
                refine w_cne_f dX9_reckons_70 (t := 77) rfl (by have := zt_9; omega) ?_
                refine w_lc dX9_reckons_73 (c := (1 : Int64)) (by decide) ?_
                refine w_gt dX9_reckons_74 (t := 85) rfl ?_
                have h82 := hb.1
                replace hb : zHd _ := hb.2
                refine w_lsi dX9_reckons_85 hJ zs_416 (by omega) (by omega) zu_416 (zIR_a (by omega) (by omega)) ?_
                intro M83 hJ84 f85 hn86
                replace hb : zHd _ := hb (zi M83) (zi_zupL hn86 f85 rfl ztl_1)
                refine w_inc (kk := 3) dX9_reckons_86 rfl (m := 1) (by decide) (by omega) ?_
                intro x88 h89
                refine ⟨_, rfl, ?_⟩
                replace hb : zHd _ := hb x88.toInt h89
                show ZW _ _ _ _ _ _ _ (89, [some (.ref 386), some (.int u14_1), some (.int v14_2), some (.int x88), some (.int v14_4), some (.int x13)], [], M83)
                refine w_gt dX9_reckons_89 (t := 150) rfl ?_
                refine w_inc (kk := 4) dX9_reckons_150 rfl (m := 1) (by decide) (by omega) ?_
                intro x90 h91
                refine ⟨_, rfl, ?_⟩
                replace hb : zHd _ := hb x90.toInt h91
                show ZW _ _ _ _ _ _ _ (153, [some (.ref 386), some (.int u14_1), some (.int v14_2), some (.int x88), some (.int x90), some (.int x13)], [], M83)
                refine w_gt dX9_reckons_153 (t := 14) rfl ?_
                obtain ⟨m, hm, hI⟩ := hb
                exact (ih m hm) M83 u14_1 v14_2 x88 x90 (some (.int x13)) hJ84 (by omega) (by omega) (by omega) (by omega) (by omega) (by omega) hI
            · skip
              replace hb : zHd _ := hb.2 h64
              refine w_ine_f dX9_reckons_52 (t := 66) rfl (by omega) ?_
              refine w_lo dX9_reckons_55 rfl rfl rfl rfl ?_
              refine w_gf dX9_reckons_56 rfl hJ.1.1 zs_386 (zr_386_33 hJ.1) ?_
              refine w_lo dX9_reckons_59 rfl rfl rfl rfl ?_
              refine w_iai dX9_reckons_61 hJ.1 zs_408 (by omega) (by omega) zu_408 ?_
              intro x95 f92 h93 h94
              replace hb : zHd _ := hb x95.toInt (ziEk f92 rfl)
              refine w_i2l dX9_reckons_62 ?_
              intro y96 h97
              have := ztop x95; have := zbot x95
              replace hb : zHd _ := hb y96.toInt (by omega)
              refine w_gt dX9_reckons_63 (t := 85) rfl ?_
              have h98 := hb.1
              replace hb : zHd _ := hb.2
              refine w_lsi dX9_reckons_85 hJ zs_416 (by omega) (by omega) zu_416 (zIR_a (by omega) (by omega)) ?_
              intro M99 hJ100 f101 hn102
              replace hb : zHd _ := hb (zi M99) (zi_zupL hn102 f101 rfl rfl)
              refine w_inc (kk := 3) dX9_reckons_86 rfl (m := 1) (by decide) (by omega) ?_
              intro x104 h105
              refine ⟨_, rfl, ?_⟩
              replace hb : zHd _ := hb x104.toInt h105
              show ZW _ _ _ _ _ _ _ (89, [some (.ref 386), some (.int u14_1), some (.int v14_2), some (.int x104), some (.int v14_4), some (.int x13)], [], M99)
              refine w_gt dX9_reckons_89 (t := 150) rfl ?_
              refine w_inc (kk := 4) dX9_reckons_150 rfl (m := 1) (by decide) (by omega) ?_
              intro x106 h107
              refine ⟨_, rfl, ?_⟩
              replace hb : zHd _ := hb x106.toInt h107
              show ZW _ _ _ _ _ _ _ (153, [some (.ref 386), some (.int u14_1), some (.int v14_2), some (.int x104), some (.int x106), some (.int x13)], [], M99)
              refine w_gt dX9_reckons_153 (t := 14) rfl ?_
              obtain ⟨m, hm, hI⟩ := hb
              exact (ih m hm) M99 u14_1 v14_2 x104 x106 (some (.int x13)) hJ100 (by omega) (by omega) (by omega) (by omega) (by omega) (by omega) hI
        · skip
          replace hb : zHd _ := hb.2 h9
          refine w_cge_t dX9_reckons_26 (t := 156) rfl (by omega) ?_
          refine w_lo dX9_reckons_156 rfl rfl rfl rfl ?_
          refine w_gf dX9_reckons_157 rfl hJ.1.1 zs_386 (zr_386_47 hJ.1) ?_
          refine w_ic dX9_reckons_160 zi_0 ?_
          refine w_lal dX9_reckons_161 hJ.1 zs_416 (by have := zt_0; omega) (by have := zt_0; omega) zu_416 ?_
          intro y111 f108
          replace hb : zHd _ := hb y111.toInt (ziLk f108 (by decide))
          refine w_en dX9_reckons_162 rfl ?_
          exact ⟨_, _, rfl, hJ, hb⟩
  have hb : zHd _ := hbE
  show ZW _ _ _ _ _ _ _ (0, [some (.ref 386), some (.int a0), some (.int a1), none, none, none], [], M0)
  refine w_ic dX9_reckons_0 zi_0 ?_
  refine w_lo (ml' := [some (.ref 386), some (.int a0), some (.int a1), some (.int 0), none, none]) dX9_reckons_1 rfl rfl rfl rfl ?_
  refine w_si dX9_reckons_2 (c := 1600) (by decide) ?_
  refine w_lo dX9_reckons_5 rfl rfl rfl rfl ?_
  refine w_gfi dX9_reckons_6 rfl hJ0.1 zs_386 (Nat.le_of_ble_eq_true rfl) zo_386_12 ?_
  intro x112 f113 h114 h115
  replace hb : zHd _ := hb x112.toInt (ziE f113) h114 h115
  refine w_mulc dX9_reckons_9 zt_1600 (by have := zt_1600; omega) ?_
  intro x116 h117
  have := zt_1600
  replace hb : zHd _ := hb x116.toInt (by have := zt_1600; omega)
  refine w_lo dX9_reckons_10 rfl rfl rfl rfl ?_
  refine w_add dX9_reckons_11 (by omega) ?_
  intro x118 h119
  replace hb : zHd _ := hb x118.toInt (by omega)
  refine w_lo (ml' := [some (.ref 386), some (.int a0), some (.int a1), some (.int 0), some (.int x118), none]) dX9_reckons_12 rfl rfl rfl rfl ?_
  obtain ⟨m, hI⟩ := hb
  exact (main m) M0 a0 a1 0 x118 none hJ0 (by omega) (by omega) (by have := zt_0; omega) (by have := zt_0; omega) (by omega) (by omega) hI
set_option maxRecDepth 100000 in
theorem u_2370 {X : List Int32} {d N : Nat} {M0 : zM} (a0 : Int32) (ha00 : (0 : Int) ≤ a0.toInt) (ha01 : a0.toInt ≤ 1) (a1 : Int32) (ha10 : (1 : Int) ≤ a1.toInt) (ha11 : a1.toInt ≤ 2147483647) (a2 : Int32) (hN : N ≤ 600) (hB0 : zB N M0) {Q : Int → zF → Prop} (hb : b_2370 (zi M0) a0.toInt a1.toInt a2.toInt Q) : ZV X (d + 4) 2370 [.ref 386, .int a0, .int a1, .int a2] M0 (zRI N [(416, 417, 1000)] M0 (-2147483648) (2147483647) (fun v M' => Q v.toInt (zi M'))) := by
  have hJ0 : zJ N [(416, 417, 1000)] M0 M0 := zJ_refl hB0
  refine ZV.of (ini := false) rfl (Nat.le_of_ble_eq_true rfl) (by decide +kernel) ?_
  obtain ⟨I9, hbE, hb9⟩ := hb
  replace hbE : zHd _ := hbE
  replace hb9 : zHd _ := hb9
  have main : ∀ n : Nat,
      (∀ (M : zM) (v9_1 : Int32) (v9_2 : Int32) (v9_3 : Int32) (v9_4 : Int32) (o9_5 : Option Value) (o9_6 : Option Value), zJ N [(416, 417, 1000)] M0 M → ((0 : Int) ≤ v9_1.toInt) → (v9_1.toInt ≤ 1) → ((1 : Int) ≤ v9_2.toInt) → (v9_2.toInt ≤ 2147483647) → ((-2147483648 : Int) ≤ v9_3.toInt) → (v9_3.toInt ≤ 2147483647) → ((0 : Int) ≤ v9_4.toInt) → (v9_4.toInt ≤ 18) → I9 n (zi M) v9_1.toInt v9_2.toInt v9_3.toInt v9_4.toInt → ZW X (d + 3) 9 false (some .int) cX9_lawOf (zRI N [(416, 417, 1000)] M0 (-2147483648) (2147483647) (fun v M' => Q v.toInt (zi M'))) (9, [some (.ref 386), some (.int v9_1), some (.int v9_2), some (.int v9_3), some (.int v9_4), o9_5, o9_6], [], M)) := by
    intro n
    induction n using Nat.strongRecOn with
    | _ n ih =>
      · intro M v9_1 v9_2 v9_3 v9_4 o9_5 o9_6 hJ v9_10 v9_11 v9_20 v9_21 v9_30 v9_31 v9_40 v9_41 hI
        have hb : zHd _ := hb9 n (zi M) v9_1.toInt v9_2.toInt v9_3.toInt v9_4.toInt (zi_fr hJ.2) v9_10 v9_11 v9_20 v9_40 v9_41 hI
        refine w_lo dX9_lawOf_9 rfl rfl rfl rfl ?_
        refine w_bi dX9_lawOf_11 (c := 8) (by decide) ?_
        refine w_lo dX9_lawOf_13 rfl rfl rfl rfl ?_
        refine w_gfi dX9_lawOf_14 rfl hJ.1 zs_386 (Nat.le_of_ble_eq_true rfl) zo_386_12 ?_
        intro x1 f2 h3 h4
        replace hb : zHd _ := hb x1.toInt (ziE f2) h3 h4
        refine w_mulc dX9_lawOf_17 zt_8 (by have := zt_8; omega) ?_
        intro x5 h6
        have := zt_8
        replace hb : zHd _ := hb x5.toInt (by have := zt_8; omega)
        refine w_lo dX9_lawOf_18 rfl rfl rfl rfl ?_
        refine w_gf dX9_lawOf_19 rfl hJ.1.1 zs_386 (zr_386_27 hJ.1) ?_
        refine w_lo dX9_lawOf_22 rfl rfl rfl rfl ?_
        refine w_gf dX9_lawOf_23 rfl hJ.1.1 zs_386 f2 ?_
        refine w_iai dX9_lawOf_26 hJ.1 zs_402 (by omega) (by omega) zu_402 ?_
        intro x10 f7 h8 h9
        replace hb : zHd _ := hb x10.toInt (ziEk f7 rfl) h8 h9
        refine w_add dX9_lawOf_27 (by omega) ?_
        intro x11 h12
        replace hb : zHd _ := hb x11.toInt (by omega)
        rcases zcut v9_4.toInt x11.toInt with h13 | h13
        · skip
          replace hb : zHd _ := hb.1 h13
          refine w_cge_f dX9_lawOf_28 (t := 121) rfl (by omega) ?_
          refine w_lo dX9_lawOf_31 rfl rfl rfl rfl ?_
          refine w_gf dX9_lawOf_32 rfl hJ.1.1 zs_386 (zr_386_28 hJ.1) ?_
          refine w_lo dX9_lawOf_35 rfl rfl rfl rfl ?_
          refine w_iai dX9_lawOf_37 hJ.1 zs_403 (by omega) (by omega) zu_403 ?_
          intro x17 f14 h15 h16
          replace hb : zHd _ := hb x17.toInt (ziEk f14 rfl) h15 h16
          refine w_lo dX9_lawOf_38 rfl rfl rfl rfl ?_
          rcases Int.decEq x17.toInt v9_1.toInt with h18 | h18
          · skip
            replace hb : zHd _ := hb.1 h18
            refine w_cne_t dX9_lawOf_39 (t := 115) rfl (by omega) ?_
            refine w_inc (kk := 4) dX9_lawOf_115 rfl (m := 1) (by decide) (by omega) ?_
            intro x19 h20
            refine ⟨_, rfl, ?_⟩
            replace hb : zHd _ := hb x19.toInt h20
            show ZW _ _ _ _ _ _ _ (118, [some (.ref 386), some (.int v9_1), some (.int v9_2), some (.int v9_3), some (.int x19), o9_5, o9_6], [], M)
            refine w_gt dX9_lawOf_118 (t := 9) rfl ?_
            obtain ⟨m, hm, hI⟩ := hb
            exact (ih m hm) M v9_1 v9_2 v9_3 x19 o9_5 o9_6 hJ (by omega) (by omega) (by omega) (ztop _) (zbot _) (ztop _) (by omega) (by omega) hI
          · skip
            replace hb : zHd _ := hb.2 h18
            refine w_cne_f dX9_lawOf_39 (t := 115) rfl (by omega) ?_
            refine w_lo dX9_lawOf_42 rfl rfl rfl rfl ?_
            refine w_lo dX9_lawOf_43 rfl rfl rfl rfl ?_
            refine w_gf dX9_lawOf_44 rfl hJ.1.1 zs_386 (zr_386_30 hJ.1) ?_
            refine w_lo dX9_lawOf_47 rfl rfl rfl rfl ?_
            refine w_iai dX9_lawOf_49 hJ.1 zs_405 (by omega) (by omega) zu_405 ?_
            intro x24 f21 h22 h23
            replace hb : zHd _ := hb x24.toInt (ziEk f21 rfl) h22 h23
            refine w_lo dX9_lawOf_50 rfl rfl rfl rfl ?_
            refine w_gf dX9_lawOf_51 rfl hJ.1.1 zs_386 (zr_386_31 hJ.1) ?_
            refine w_lo dX9_lawOf_54 rfl rfl rfl rfl ?_
            refine w_iai dX9_lawOf_56 hJ.1 zs_406 (by omega) (by omega) zu_406 ?_
            intro x28 f25 h26 h27
            replace hb : zHd _ := hb x28.toInt (ziEk f25 rfl) h26 h27
            refine w_iv dX9_lawOf_57 rfl rfl (As := [.int x24, .int x28]) rfl rfl hJ.1.1 zs_386 (Nat.le_of_ble_eq_true rfl) ?_
            obtain ⟨P31, hp32, hb⟩ := hb
            replace hb : zHd _ := hb
            refine ZV.imp (u_2371 x24 (by omega) (by omega) x28 (by omega) (by omega) hN hJ.1 hp32) ?_
            rintro _ ⟨y34, M29, rfl, hJ30, hq33⟩
            replace hb : zHd _ := hb y34.toInt  (zi M29) (zi_fr hJ30.2) hq33
            have hJ36 := zJ_trans hJ hJ30 (zSub_cons (fun _ _ h h' hk => zIR_a (by omega) (by omega)) zSub_nil)
            show ZW _ _ _ _ _ _ _ (60, [some (.ref 386), some (.int v9_1), some (.int v9_2), some (.int v9_3), some (.int v9_4), o9_5, o9_6], [.long y34], M29)
            refine w_lc dX9_lawOf_60 (c := (0 : Int64)) (by decide) ?_
            refine w_lcm dX9_lawOf_61 ?_
            intro x37 h38
            have := ztl_0
            replace hb : zHd _ := hb x37.toInt (by omega)
            rcases Int.decEq x37.toInt (0 : Int) with h39 | h39
            · skip
              replace hb : zHd _ := hb.1 h39
              refine w_ine_t dX9_lawOf_62 (t := 68) rfl (by omega) ?_
              refine w_lo dX9_lawOf_68 rfl rfl rfl rfl ?_
              refine w_lo dX9_lawOf_69 rfl rfl rfl rfl ?_
              refine w_gf dX9_lawOf_70 rfl hJ36.1.1 zs_386 (zr_386_29 hJ36.1) ?_
              refine w_lo dX9_lawOf_73 rfl rfl rfl rfl ?_
              refine w_iai dX9_lawOf_75 hJ36.1 zs_404 (by omega) (by omega) zu_404 ?_
              intro x43 f40 h41 h42
              replace hb : zHd _ := hb x43.toInt (ziEk f40 rfl) h41 h42
              refine w_lo dX9_lawOf_76 rfl rfl rfl rfl ?_
              refine w_gf dX9_lawOf_77 rfl hJ36.1.1 zs_386 (zr_386_30 hJ36.1) ?_
              refine w_lo dX9_lawOf_80 rfl rfl rfl rfl ?_
              have f47 := (hJ30.2 (405) (v9_4 : Int32).toInt.toNat (zNI (by omega) zNI_nil)).trans (f21)
              refine w_ia dX9_lawOf_82 hJ36.1.1 zs_405 (znat (by omega)) f47 ?_
              refine w_iv dX9_lawOf_83 rfl rfl (As := [.int x43, .int x24]) rfl rfl hJ36.1.1 zs_386 (Nat.le_of_ble_eq_true rfl) ?_
              obtain ⟨P50, hp51, hb⟩ := hb
              replace hb : zHd _ := hb
              refine ZV.imp (u_2371 x43 (by omega) (by omega) x24 (by omega) (by omega) hN hJ36.1 hp51) ?_
              rintro _ ⟨y53, M48, rfl, hJ49, hq52⟩
              replace hb : zHd _ := hb y53.toInt  (zi M48) (zi_fr hJ49.2) hq52
              have hJ55 := zJ_trans hJ36 hJ49 (zSub_cons (fun _ _ h h' hk => zIR_a (by omega) (by omega)) zSub_nil)
              show ZW _ _ _ _ _ _ _ (86, [some (.ref 386), some (.int v9_1), some (.int v9_2), some (.int v9_3), some (.int v9_4), o9_5, o9_6], [.long y53], M48)
              refine w_lo (ml' := [some (.ref 386), some (.int v9_1), some (.int v9_2), some (.int v9_3), some (.int v9_4), some (.long y53), none]) dX9_lawOf_86 rfl rfl rfl rfl ?_
              refine w_lo dX9_lawOf_88 rfl rfl rfl rfl ?_
              refine w_lc dX9_lawOf_90 (c := (0 : Int64)) (by decide) ?_
              refine w_lcm dX9_lawOf_91 ?_
              intro x56 h57
              have := ztl_0
              replace hb : zHd _ := hb x56.toInt (by omega)
              rcases zcut x56.toInt (0 : Int) with h58 | h58
              · skip
                replace hb : zHd _ := hb.1 h58
                refine w_ige_f dX9_lawOf_92 (t := 99) rfl (by omega) ?_
                refine w_ic dX9_lawOf_95 zi_0 ?_
                refine w_gt dX9_lawOf_96 (t := 114) rfl ?_
                refine w_en dX9_lawOf_114 rfl ?_
                exact ⟨_, _, rfl, (zbot _), (ztop _), hJ55, hb⟩
              · skip
                replace hb : zHd _ := hb.2 h58
                refine w_ige_t dX9_lawOf_92 (t := 99) rfl (by omega) ?_
                refine w_lo dX9_lawOf_99 rfl rfl rfl rfl ?_
                refine w_lo dX9_lawOf_101 rfl rfl rfl rfl ?_
                refine w_i2l dX9_lawOf_102 ?_
                intro y59 h60
                have := ztop v9_2; have := zbot v9_2
                replace hb : zHd _ := hb y59.toInt (by omega)
                refine w_lcm dX9_lawOf_103 ?_
                intro x61 h62
                skip
                replace hb : zHd _ := hb x61.toInt (by omega)
                rcases zcut (0 : Int) x61.toInt with h63 | h63
                · skip
                  replace hb : zHd _ := hb.1 h63
                  refine w_ile_f dX9_lawOf_104 (t := 111) rfl (by omega) ?_
                  refine w_lo dX9_lawOf_107 rfl rfl rfl rfl ?_
                  refine w_gt dX9_lawOf_108 (t := 114) rfl ?_
                  refine w_eni dX9_lawOf_114 rfl rfl ?_
                  exact ⟨_, _, rfl, (zbot _), (ztop _), hJ55, hb⟩
                · skip
                  replace hb : zHd _ := hb.2 h63
                  refine w_ile_t dX9_lawOf_104 (t := 111) rfl (by omega) ?_
                  refine w_lo dX9_lawOf_111 rfl rfl rfl rfl ?_
                  refine w_l2i dX9_lawOf_113 (by omega) ?_
                  intro x64 h65
                  skip
                  replace hb : zHd _ := hb x64.toInt (by omega)
                  refine w_eni dX9_lawOf_114 rfl rfl ?_
                  exact ⟨_, _, rfl, (zbot _), (ztop _), hJ55, hb⟩
            · skip
              replace hb : zHd _ := hb.2 h39
              refine w_ine_f dX9_lawOf_62 (t := 68) rfl (by omega) ?_
              refine w_gt dX9_lawOf_65 (t := 115) rfl ?_
              refine w_inc (kk := 4) dX9_lawOf_115 rfl (m := 1) (by decide) (by omega) ?_
              intro x66 h67
              refine ⟨_, rfl, ?_⟩
              replace hb : zHd _ := hb x66.toInt h67
              show ZW _ _ _ _ _ _ _ (118, [some (.ref 386), some (.int v9_1), some (.int v9_2), some (.int v9_3), some (.int x66), o9_5, o9_6], [], M29)
              refine w_gt dX9_lawOf_118 (t := 9) rfl ?_
              obtain ⟨m, hm, hI⟩ := hb
              exact (ih m hm) M29 v9_1 v9_2 v9_3 x66 o9_5 o9_6 hJ36 (by omega) (by omega) (by omega) (ztop _) (zbot _) (ztop _) (by omega) (by omega) hI
        · skip
          replace hb : zHd _ := hb.2 h13
          refine w_cge_t dX9_lawOf_28 (t := 121) rfl (by omega) ?_
          refine w_lo dX9_lawOf_121 rfl rfl rfl rfl ?_
          refine w_eni dX9_lawOf_122 rfl rfl ?_
          exact ⟨_, _, rfl, (zbot _), (ztop _), hJ, hb⟩
  have hb : zHd _ := hbE
  show ZW _ _ _ _ _ _ _ (0, [some (.ref 386), some (.int a0), some (.int a1), some (.int a2), none, none, none], [], M0)
  refine w_bi dX9_lawOf_0 (c := 8) (by decide) ?_
  refine w_lo dX9_lawOf_2 rfl rfl rfl rfl ?_
  refine w_gfi dX9_lawOf_3 rfl hJ0.1 zs_386 (Nat.le_of_ble_eq_true rfl) zo_386_12 ?_
  intro x68 f69 h70 h71
  replace hb : zHd _ := hb x68.toInt (ziE f69) h70 h71
  refine w_mulc dX9_lawOf_6 zt_8 (by have := zt_8; omega) ?_
  intro x72 h73
  have := zt_8
  replace hb : zHd _ := hb x72.toInt (by have := zt_8; omega)
  refine w_lo (ml' := [some (.ref 386), some (.int a0), some (.int a1), some (.int a2), some (.int x72), none, none]) dX9_lawOf_7 rfl rfl rfl rfl ?_
  obtain ⟨m, hI⟩ := hb
  exact (main m) M0 a0 a1 a2 x72 none none hJ0 (by omega) (by omega) (by omega) (ztop _) (zbot _) (ztop _) (by omega) (by omega) hI
set_option maxRecDepth 100000 in
theorem u_2377 {X : List Int32} {d N : Nat} {M0 : zM}  (hN : N ≤ 600) (hB0 : zB N M0) {Q : zF → Prop} (hb : b_2377 (zi M0) Q) : ZV X (d + 2) 2377 [.ref 386] M0 (zRV N [(418, 433, 1000), (386, 387, 64), (386, 387, 65)] M0 (fun M' => Q (zi M'))) := by
  have hJ0 : zJ N [(418, 433, 1000), (386, 387, 64), (386, 387, 65)] M0 M0 := zJ_refl hB0
  refine ZV.of (ini := false) rfl (Nat.le_of_ble_eq_true rfl) (by decide +kernel) ?_
  unfold b_2377 at hb
  replace hb : zHd _ := hb
  show ZW _ _ _ _ _ _ _ (0, [some (.ref 386)], [], M0)
  refine w_lo dX9_keeps_0 rfl rfl rfl rfl ?_
  refine w_gfi dX9_keeps_1 rfl hJ0.1 zs_386 (Nat.le_of_ble_eq_true rfl) zo_386_65 ?_
  intro x1 f2 h3 h4
  replace hb : zHd _ := hb x1.toInt (ziE f2) h3 h4
  refine w_bi dX9_keeps_4 (c := 20) (by decide) ?_
  rcases Int.decEq x1.toInt (20 : Int) with h5 | h5
  · skip
    replace hb : zHd _ := hb.1 h5
    refine w_cne_t dX9_keeps_6 (t := 32) rfl (by have := zt_20; omega) ?_
    refine w_lo dX9_keeps_32 rfl rfl rfl rfl ?_
    refine w_lo dX9_keeps_33 rfl rfl rfl rfl ?_
    refine w_lo dX9_keeps_34 rfl rfl rfl rfl ?_
    refine w_gf dX9_keeps_35 rfl hJ0.1.1 zs_386 f2 ?_
    refine w_iv dX9_keeps_38 rfl rfl (As := [.int x1]) rfl rfl hJ0.1.1 zs_386 (Nat.le_of_ble_eq_true rfl) ?_
    refine ZV.of (ini := false) rfl (Nat.le_of_ble_eq_true rfl) (by decide +kernel) ?_
    show ZW _ _ _ _ _ _ _ (0, [some (.ref 386), some (.int x1)], [], M0)
    refine w_ic dX9_ring_0 zi_2 ?_
    refine w_lo dX9_ring_1 rfl rfl rfl rfl ?_
    refine w_gfi dX9_ring_2 rfl hJ0.1 zs_386 (Nat.le_of_ble_eq_true rfl) zo_386_64 ?_
    intro x6 f7 h8 h9
    replace hb : zHd _ := hb x6.toInt (ziE f7) h8 h9
    refine w_lo dX9_ring_5 rfl rfl rfl rfl ?_
    refine w_add dX9_ring_6 (by omega) ?_
    intro x10 h11
    replace hb : zHd _ := hb x10.toInt (by omega)
    refine w_bi dX9_ring_7 (c := 20) (by decide) ?_
    refine w_remE dX9_ring_9 (by omega) (by have := zt_20; omega) ?_
    intro x12 h13 h14 h15
    have := zt_20
    replace hb : zHd _ := hb x12.toInt h13 (by omega) (by rw [h15, zt_20])
    refine w_add dX9_ring_10 (by have := zt_2; omega) ?_
    intro x16 h17
    have := zt_2
    replace hb : zHd _ := hb x16.toInt (by have := zt_2; omega)
    refine w_eni dX9_ring_11 rfl rfl ?_
    show ZW _ _ _ _ _ _ _ (41, [some (.ref 386)], [.int x16, .ref 386], M0)
    refine w_ic dX9_keeps_41 zi_0 ?_
    refine w_iv dX9_keeps_42 rfl rfl (As := [.int x16, .int 0]) rfl rfl hJ0.1.1 zs_386 (Nat.le_of_ble_eq_true rfl) ?_
    obtain ⟨P20, hp21, hb⟩ := hb
    replace hb : zHd _ := hb
    have hp21c : b_2347 (zi M0) x16.toInt (0 : Int32).toInt P20 := by rw [zt_0]; exact hp21
    refine ZV.imp (u_2347 x16 (by omega) (by omega) 0 (by have := zt_0; omega) (by have := zt_0; omega) hN hJ0.1 hp21c) ?_
    rintro _ ⟨M18, rfl, hJ19, hq22⟩
    replace hb : zHd _ := hb  (zi M18) (zi_fr hJ19.2) hq22
    have hJ24 := zJ_trans hJ0 hJ19 (zSub_cons (fun _ _ h h' hk => zIR_a (by omega) (by omega)) zSub_nil)
    show ZW _ _ _ _ _ _ _ (45, [some (.ref 386)], [], M18)
    refine w_lo dX9_keeps_45 rfl rfl rfl rfl ?_
    refine w_pu dX9_keeps_46 rfl rfl ?_
    have f25 := (hJ19.2 (386) 65 (zNI (by omega) zNI_nil)).trans (f2)
    refine w_gf dX9_keeps_47 rfl hJ24.1.1 zs_386 f25 ?_
    refine w_ic dX9_keeps_50 zi_1 ?_
    refine w_add dX9_keeps_51 (by have := zt_1; omega) ?_
    intro x26 h27
    have := zt_1
    replace hb : zHd _ := hb x26.toInt (by have := zt_1; omega)
    refine w_pfi dX9_keeps_52 rfl hJ24 zs_386 (Nat.le_of_ble_eq_true rfl) zo_386_65 (by omega) (by omega) (zIR_s (zIR_s (zIR_k (by omega) (by omega)))) rfl rfl rfl ?_
    intro M28 hJ29 f30 hn31
    replace hb : zHd _ := hb (zi M28) (zi_zup hn31 f30 rfl rfl)
    refine w_en dX9_keeps_55 rfl ?_
    exact ⟨_, rfl, hJ29, hb⟩
  · skip
    replace hb : zHd _ := hb.2 h5
    refine w_cne_f dX9_keeps_6 (t := 32) rfl (by have := zt_20; omega) ?_
    refine w_lo dX9_keeps_9 rfl rfl rfl rfl ?_
    refine w_lo dX9_keeps_10 rfl rfl rfl rfl ?_
    refine w_gfi dX9_keeps_11 rfl hJ0.1 zs_386 (Nat.le_of_ble_eq_true rfl) zo_386_64 ?_
    intro x33 f34 h35 h36
    replace hb : zHd _ := hb x33.toInt (ziE f34) h35 h36
    refine w_ic dX9_keeps_14 zi_1 ?_
    refine w_add dX9_keeps_15 (by have := zt_1; omega) ?_
    intro x37 h38
    have := zt_1
    replace hb : zHd _ := hb x37.toInt (by have := zt_1; omega)
    refine w_bi dX9_keeps_16 (c := 20) (by decide) ?_
    refine w_remE dX9_keeps_18 (by omega) (by have := zt_20; omega) ?_
    intro x39 h40 h41 h42
    have := zt_20
    replace hb : zHd _ := hb x39.toInt h40 (by omega) (by rw [h42, zt_20])
    refine w_pfi dX9_keeps_19 rfl hJ0 zs_386 (Nat.le_of_ble_eq_true rfl) zo_386_64 (by omega) (by omega) (zIR_s (zIR_k (by omega) (by omega))) rfl rfl rfl ?_
    intro M43 hJ44 f45 hn46
    replace hb : zHd _ := hb (zi M43) (zi_zup hn46 f45 rfl rfl)
    refine w_lo dX9_keeps_22 rfl rfl rfl rfl ?_
    refine w_pu dX9_keeps_23 rfl rfl ?_
    have f48 := (hn46 (386) 65 (Or.inr (by decide))).trans (f2)
    refine w_gf dX9_keeps_24 rfl hJ44.1.1 zs_386 f48 ?_
    refine w_ic dX9_keeps_27 zi_1 ?_
    refine w_sub dX9_keeps_28 (by have := zt_1; omega) ?_
    intro x49 h50
    have := zt_1
    replace hb : zHd _ := hb x49.toInt (by have := zt_1; omega)
    refine w_pfi dX9_keeps_29 rfl hJ44 zs_386 (Nat.le_of_ble_eq_true rfl) zo_386_65 (by omega) (by omega) (zIR_s (zIR_s (zIR_k (by omega) (by omega)))) rfl rfl rfl ?_
    intro M51 hJ52 f53 hn54
    replace hb : zHd _ := hb (zi M51) (zi_zup hn54 f53 rfl rfl)
    refine w_lo dX9_keeps_32 rfl rfl rfl rfl ?_
    refine w_lo dX9_keeps_33 rfl rfl rfl rfl ?_
    refine w_lo dX9_keeps_34 rfl rfl rfl rfl ?_
    refine w_gf dX9_keeps_35 rfl hJ52.1.1 zs_386 f53 ?_
    refine w_iv dX9_keeps_38 rfl rfl (As := [.int x49]) rfl rfl hJ52.1.1 zs_386 (Nat.le_of_ble_eq_true rfl) ?_
    refine ZV.of (ini := false) rfl (Nat.le_of_ble_eq_true rfl) (by decide +kernel) ?_
    show ZW _ _ _ _ _ _ _ (0, [some (.ref 386), some (.int x49)], [], M51)
    refine w_ic dX9_ring_0 zi_2 ?_
    refine w_lo dX9_ring_1 rfl rfl rfl rfl ?_
    have f56 := (hn54 (386) 64 (Or.inr (by decide))).trans (f45)
    refine w_gf dX9_ring_2 rfl hJ52.1.1 zs_386 f56 ?_
    refine w_lo dX9_ring_5 rfl rfl rfl rfl ?_
    refine w_add dX9_ring_6 (by omega) ?_
    intro x57 h58
    replace hb : zHd _ := hb x57.toInt (by omega)
    refine w_bi dX9_ring_7 (c := 20) (by decide) ?_
    refine w_remE dX9_ring_9 (by omega) (by have := zt_20; omega) ?_
    intro x59 h60 h61 h62
    have := zt_20
    replace hb : zHd _ := hb x59.toInt h60 (by omega) (by rw [h62, zt_20])
    refine w_add dX9_ring_10 (by have := zt_2; omega) ?_
    intro x63 h64
    have := zt_2
    replace hb : zHd _ := hb x63.toInt (by have := zt_2; omega)
    refine w_eni dX9_ring_11 rfl rfl ?_
    show ZW _ _ _ _ _ _ _ (41, [some (.ref 386)], [.int x63, .ref 386], M51)
    refine w_ic dX9_keeps_41 zi_0 ?_
    refine w_iv dX9_keeps_42 rfl rfl (As := [.int x63, .int 0]) rfl rfl hJ52.1.1 zs_386 (Nat.le_of_ble_eq_true rfl) ?_
    obtain ⟨P67, hp68, hb⟩ := hb
    replace hb : zHd _ := hb
    have hp68c : b_2347 (zi M51) x63.toInt (0 : Int32).toInt P67 := by rw [zt_0]; exact hp68
    refine ZV.imp (u_2347 x63 (by omega) (by omega) 0 (by have := zt_0; omega) (by have := zt_0; omega) hN hJ52.1 hp68c) ?_
    rintro _ ⟨M65, rfl, hJ66, hq69⟩
    replace hb : zHd _ := hb  (zi M65) (zi_fr hJ66.2) hq69
    have hJ71 := zJ_trans hJ52 hJ66 (zSub_cons (fun _ _ h h' hk => zIR_a (by omega) (by omega)) zSub_nil)
    show ZW _ _ _ _ _ _ _ (45, [some (.ref 386)], [], M65)
    refine w_lo dX9_keeps_45 rfl rfl rfl rfl ?_
    refine w_pu dX9_keeps_46 rfl rfl ?_
    have f72 := (hJ66.2 (386) 65 (zNI (by omega) zNI_nil)).trans (f53)
    refine w_gf dX9_keeps_47 rfl hJ71.1.1 zs_386 f72 ?_
    refine w_ic dX9_keeps_50 zi_1 ?_
    refine w_add dX9_keeps_51 (by have := zt_1; omega) ?_
    intro x73 h74
    have := zt_1
    replace hb : zHd _ := hb x73.toInt (by have := zt_1; omega)
    refine w_pfi dX9_keeps_52 rfl hJ71 zs_386 (Nat.le_of_ble_eq_true rfl) zo_386_65 (by omega) (by omega) (zIR_s (zIR_s (zIR_k (by omega) (by omega)))) rfl rfl rfl ?_
    intro M75 hJ76 f77 hn78
    replace hb : zHd _ := hb (zi M75) (zi_zup hn78 f77 rfl rfl)
    refine w_en dX9_keeps_55 rfl ?_
    exact ⟨_, rfl, hJ76, hb⟩
set_option maxRecDepth 100000 in
theorem u_2390 {X : List Int32} {d N : Nat} {M0 : zM}  (hN : N ≤ 600) (hB0 : zB N M0) {Q : Int → zF → Prop} (hb : b_2390 (zi M0) Q) : ZV X (d + 1) 2390 [.ref 386] M0 (zRI N [] M0 (-2147483648) (2147483647) (fun v M' => Q v.toInt (zi M'))) := by
  have hJ0 : zJ N [] M0 M0 := zJ_refl hB0
  refine ZV.of (ini := false) rfl (Nat.le_of_ble_eq_true rfl) (by decide +kernel) ?_
  obtain ⟨I4, hbE, hb4⟩ := hb
  replace hbE : zHd _ := hbE
  replace hb4 : zHd _ := hb4
  have main : ∀ n : Nat,
      (∀ (M : zM) (v4_1 : Int32) (v4_2 : Int32), zJ N [] M0 M → ((-2147483648 : Int) ≤ v4_1.toInt) → (v4_1.toInt ≤ 2147483647) → ((0 : Int) ≤ v4_2.toInt) → (v4_2.toInt ≤ 6) → I4 n (zi M) v4_1.toInt v4_2.toInt → ZW X (d + 0) 9 false (some .int) cX9_oddsAll (zRI N [] M0 (-2147483648) (2147483647) (fun v M' => Q v.toInt (zi M'))) (4, [some (.ref 386), some (.int v4_1), some (.int v4_2)], [], M)) := by
    intro n
    induction n using Nat.strongRecOn with
    | _ n ih =>
      · intro M v4_1 v4_2 hJ v4_10 v4_11 v4_20 v4_21 hI
        have hb : zHd _ := hb4 n (zi M) v4_1.toInt v4_2.toInt (zi_fr hJ.2) v4_20 v4_21 hI
        refine w_lo dX9_oddsAll_4 rfl rfl rfl rfl ?_
        refine w_lo dX9_oddsAll_5 rfl rfl rfl rfl ?_
        refine w_gf dX9_oddsAll_6 rfl hJ.1.1 zs_386 (zr_386_21 hJ.1) ?_
        refine w_lo dX9_oddsAll_9 rfl rfl rfl rfl ?_
        refine w_gfi dX9_oddsAll_10 rfl hJ.1 zs_386 (Nat.le_of_ble_eq_true rfl) zo_386_12 ?_
        intro x1 f2 h3 h4
        replace hb : zHd _ := hb x1.toInt (ziE f2) h3 h4
        refine w_iai dX9_oddsAll_13 hJ.1 zs_396 (by omega) (by omega) zu_396 ?_
        intro x8 f5 h6 h7
        replace hb : zHd _ := hb x8.toInt (ziEk f5 rfl) h6 h7
        rcases zcut v4_2.toInt x8.toInt with h9 | h9
        · skip
          replace hb : zHd _ := hb.1 h9
          refine w_cge_f dX9_oddsAll_14 (t := 40) rfl (by omega) ?_
          refine w_lo dX9_oddsAll_17 rfl rfl rfl rfl ?_
          refine w_lo dX9_oddsAll_18 rfl rfl rfl rfl ?_
          refine w_gf dX9_oddsAll_19 rfl hJ.1.1 zs_386 (zr_386_26 hJ.1) ?_
          refine w_bi dX9_oddsAll_22 (c := 6) (by decide) ?_
          refine w_lo dX9_oddsAll_24 rfl rfl rfl rfl ?_
          refine w_gf dX9_oddsAll_25 rfl hJ.1.1 zs_386 f2 ?_
          refine w_mulc dX9_oddsAll_28 zt_6 (by have := zt_6; omega) ?_
          intro x10 h11
          have := zt_6
          replace hb : zHd _ := hb x10.toInt (by have := zt_6; omega)
          refine w_lo dX9_oddsAll_29 rfl rfl rfl rfl ?_
          refine w_add dX9_oddsAll_30 (by omega) ?_
          intro x12 h13
          replace hb : zHd _ := hb x12.toInt (by omega)
          refine w_iai dX9_oddsAll_31 hJ.1 zs_401 (by omega) (by omega) zu_401 ?_
          intro x17 f14 h15 h16
          replace hb : zHd _ := hb x17.toInt (ziEk f14 rfl)
          have h18 := hb.1
          replace hb : zHd _ := hb.2
          refine w_add dX9_oddsAll_32 (by omega) ?_
          intro x19 h20
          replace hb : zHd _ := hb x19.toInt (by omega)
          refine w_lo (ml' := [some (.ref 386), some (.int x19), some (.int v4_2)]) dX9_oddsAll_33 rfl rfl rfl rfl ?_
          refine w_inc (kk := 2) dX9_oddsAll_34 rfl (m := 1) (by decide) (by omega) ?_
          intro x21 h22
          refine ⟨_, rfl, ?_⟩
          replace hb : zHd _ := hb x21.toInt h22
          show ZW _ _ _ _ _ _ _ (37, [some (.ref 386), some (.int x19), some (.int x21)], [], M)
          refine w_gt dX9_oddsAll_37 (t := 4) rfl ?_
          obtain ⟨m, hm, hI⟩ := hb
          exact (ih m hm) M x19 x21 hJ (zbot _) (ztop _) (by omega) (by omega) hI
        · skip
          replace hb : zHd _ := hb.2 h9
          refine w_cge_t dX9_oddsAll_14 (t := 40) rfl (by omega) ?_
          refine w_lo dX9_oddsAll_40 rfl rfl rfl rfl ?_
          refine w_eni dX9_oddsAll_41 rfl rfl ?_
          exact ⟨_, _, rfl, (zbot _), (ztop _), hJ, hb⟩
  have hb : zHd _ := hbE
  show ZW _ _ _ _ _ _ _ (0, [some (.ref 386), none, none], [], M0)
  refine w_ic dX9_oddsAll_0 zi_0 ?_
  refine w_lo (ml' := [some (.ref 386), some (.int 0), none]) dX9_oddsAll_1 rfl rfl rfl rfl ?_
  refine w_ic dX9_oddsAll_2 zi_0 ?_
  refine w_lo (ml' := [some (.ref 386), some (.int 0), some (.int 0)]) dX9_oddsAll_3 rfl rfl rfl rfl ?_
  obtain ⟨m, hI⟩ := hb
  exact (main m) M0 0 0 hJ0 (zbot _) (ztop _) (by have := zt_0; omega) (by have := zt_0; omega) hI
set_option maxRecDepth 100000 in
theorem u_2392 {X : List Int32} {d N : Nat} {M0 : zM} (a0 : Int32) (a1 : Int32) (ha10 : (0 : Int) ≤ a1.toInt) (ha11 : a1.toInt ≤ 1) (hN : N ≤ 600) (hB0 : zB N M0) {Q : Int → zF → Prop} (hb : b_2392 (zi M0) a0.toInt a1.toInt Q) : ZV X (d + 3) 2392 [.ref 386, .int a0, .int a1] M0 (zRI N [(415, 416, 1000), (418, 433, 1000), (386, 387, 64), (386, 387, 65)] M0 (0) (1) (fun v M' => Q v.toInt (zi M'))) := by
  have hJ0 : zJ N [(415, 416, 1000), (418, 433, 1000), (386, 387, 64), (386, 387, 65)] M0 M0 := zJ_refl hB0
  refine ZV.of (ini := false) rfl (Nat.le_of_ble_eq_true rfl) (by decide +kernel) ?_
  unfold b_2392 at hb
  replace hb : zHd _ := hb
  show ZW _ _ _ _ _ _ _ (0, [some (.ref 386), some (.int a0), some (.int a1)], [], M0)
  refine w_lo dX9_wake_0 rfl rfl rfl rfl ?_
  refine w_lo dX9_wake_1 rfl rfl rfl rfl ?_
  refine w_iv dX9_wake_2 rfl rfl (As := [.int a0]) rfl rfl hJ0.1.1 zs_386 (Nat.le_of_ble_eq_true rfl) ?_
  refine ZV.of (ini := false) rfl (Nat.le_of_ble_eq_true rfl) (by decide +kernel) ?_
  show ZW _ _ _ _ _ _ _ (0, [some (.ref 386), some (.int a0)], [], M0)
  refine w_lo dX9_isBoy_0 rfl rfl rfl rfl ?_
  rcases zcut a0.toInt (0 : Int) with h1 | h1
  · skip
    replace hb : zHd _ := hb.1 h1
    refine w_ilt_t dX9_isBoy_1 (t := 21) rfl (by omega) ?_
    refine w_ic dX9_isBoy_21 zi_0 ?_
    refine w_en dX9_isBoy_22 rfl ?_
    show ZW _ _ _ _ _ _ _ (5, [some (.ref 386), some (.int a0), some (.int a1)], [.int 0], M0)
    refine w_ieq_t dX9_wake_5 (t := 26) rfl (by have := zt_0; omega) ?_
    refine w_lo dX9_wake_26 rfl rfl rfl rfl ?_
    refine w_ic dX9_wake_27 zi_2 ?_
    refine w_iv dX9_wake_28 rfl rfl (As := [.int 2]) rfl rfl hJ0.1.1 zs_386 (Nat.le_of_ble_eq_true rfl) ?_
    refine ZV.imp (k_2306 2 (by have := zt_2; omega) (by have := zt_2; omega) hN hJ0.1) ?_
    rintro _ ⟨x5, M2, rfl, h6, h7, hJ3, hq4⟩
    replace hb : zHd _ := hb x5.toInt h6 h7 (zi M2) (zi_fr hJ3.2)
    have hJ9 := zJ_trans hJ0 hJ3 (zSub_cons (fun _ _ h h' hk => zIR_a (by omega) (by omega)) zSub_nil)
    show ZW _ _ _ _ _ _ _ (31, [some (.ref 386), some (.int a0), some (.int a1)], [.int x5], M2)
    refine w_ilt_t dX9_wake_31 (t := 38) rfl (by omega) ?_
    refine w_ic dX9_wake_38 zi_0 ?_
    refine w_en dX9_wake_39 rfl ?_
    exact ⟨_, _, rfl, (by have := zt_0; omega), (by have := zt_0; omega), hJ9, hb⟩
  · skip
    replace hb : zHd _ := hb.2 h1
    refine w_ilt_f dX9_isBoy_1 (t := 21) rfl (by omega) ?_
    refine w_lo dX9_isBoy_4 rfl rfl rfl rfl ?_
    refine w_lo dX9_isBoy_5 rfl rfl rfl rfl ?_
    refine w_gf dX9_isBoy_6 rfl hJ0.1.1 zs_386 (zr_386_13 hJ0.1) ?_
    refine w_lo dX9_isBoy_9 rfl rfl rfl rfl ?_
    refine w_gfi dX9_isBoy_10 rfl hJ0.1 zs_386 (Nat.le_of_ble_eq_true rfl) zo_386_12 ?_
    intro x10 f11 h12 h13
    replace hb : zHd _ := hb x10.toInt (ziE f11) h12 h13
    refine w_iai dX9_isBoy_13 hJ0.1 zs_388 (by omega) (by omega) zu_388 ?_
    intro x17 f14 h15 h16
    replace hb : zHd _ := hb x17.toInt (ziEk f14 rfl) h15 h16
    rcases zcut a0.toInt x17.toInt with h18 | h18
    · skip
      replace hb : zHd _ := hb.1 h18
      refine w_cge_f dX9_isBoy_14 (t := 21) rfl (by omega) ?_
      refine w_ic dX9_isBoy_17 zi_1 ?_
      refine w_gt dX9_isBoy_18 (t := 22) rfl ?_
      refine w_en dX9_isBoy_22 rfl ?_
      show ZW _ _ _ _ _ _ _ (5, [some (.ref 386), some (.int a0), some (.int a1)], [.int 1], M0)
      refine w_ieq_f dX9_wake_5 (t := 26) rfl (by have := zt_1; omega) ?_
      refine w_lo dX9_wake_8 rfl rfl rfl rfl ?_
      refine w_gf dX9_wake_9 rfl hJ0.1.1 zs_386 (zr_386_51 hJ0.1) ?_
      refine w_lo dX9_wake_12 rfl rfl rfl rfl ?_
      refine w_iai dX9_wake_13 hJ0.1 zs_420 (by omega) (by omega) zu_420 ?_
      intro x22 f19 h20 h21
      replace hb : zHd _ := hb x22.toInt (ziEk f19 rfl) h20 h21
      rcases Int.decEq x22.toInt (0 : Int) with h23 | h23
      · skip
        replace hb : zHd _ := hb.1 h23
        refine w_ine_t dX9_wake_14 (t := 21) rfl (by omega) ?_
        refine w_ic dX9_wake_21 zi_0 ?_
        refine w_lo dX9_wake_22 rfl rfl rfl rfl ?_
        rcases Int.decEq (0 : Int) a1.toInt with h24 | h24
        · skip
          replace hb : zHd _ := hb.1 h24
          refine w_cne_t dX9_wake_23 (t := 40) rfl (by have := zt_0; omega) ?_
          refine w_lo dX9_wake_40 rfl rfl rfl rfl ?_
          refine w_iv dX9_wake_41 rfl rfl (As := []) rfl rfl hJ0.1.1 zs_386 (Nat.le_of_ble_eq_true rfl) ?_
          obtain ⟨P27, hp28, hb⟩ := hb
          replace hb : zHd _ := hb
          refine ZV.imp (u_2377 hN hJ0.1 hp28) ?_
          rintro _ ⟨M25, rfl, hJ26, hq29⟩
          replace hb : zHd _ := hb  (zi M25) (zi_fr hJ26.2) hq29
          have hJ31 := zJ_trans hJ0 hJ26 (zSub_cons (fun _ _ h h' hk => zIR_s (zIR_a (by omega) (by omega))) (zSub_cons (fun _ _ h h' hk => zIR_s (zIR_s (zIR_e (by omega) (by omega) hk))) (zSub_cons (fun _ _ h h' hk => zIR_s (zIR_s (zIR_s (zIR_e (by omega) (by omega) hk)))) zSub_nil)))
          show ZW _ _ _ _ _ _ _ (44, [some (.ref 386), some (.int a0), some (.int a1)], [], M25)
          refine w_lo dX9_wake_44 rfl rfl rfl rfl ?_
          refine w_ieq_f dX9_wake_45 (t := 57) rfl (by omega) ?_
          refine w_lo dX9_wake_48 rfl rfl rfl rfl ?_
          refine w_ic dX9_wake_49 zi_0 ?_
          refine w_lo dX9_wake_50 rfl rfl rfl rfl ?_
          refine w_iv dX9_wake_51 rfl rfl (As := [.int 0, .int a0]) rfl rfl hJ31.1.1 zs_386 (Nat.le_of_ble_eq_true rfl) ?_
          refine ZV.imp (k_2387 0 (by have := zt_0; omega) (by have := zt_0; omega) a0 (by omega) (by omega) hN hJ31.1) ?_
          rintro _ ⟨M32, rfl, hJ33, hq34⟩
          replace hb : zHd _ := hb  (zi M32) (zi_fr hJ33.2)
          have hJ36 := zJ_trans hJ31 hJ33 (zSub_cons (fun _ _ h h' hk => zIR_s (zIR_a (by omega) (by omega))) zSub_nil)
          show ZW _ _ _ _ _ _ _ (54, [some (.ref 386), some (.int a0), some (.int a1)], [], M32)
          refine w_gt dX9_wake_54 (t := 64) rfl ?_
          refine w_ic dX9_wake_64 zi_1 ?_
          refine w_en dX9_wake_65 rfl ?_
          exact ⟨_, _, rfl, (by have := zt_1; omega), (by have := zt_1; omega), hJ36, hb⟩
        · skip
          replace hb : zHd _ := hb.2 h24
          refine w_cne_f dX9_wake_23 (t := 40) rfl (by have := zt_0; omega) ?_
          refine w_lo dX9_wake_26 rfl rfl rfl rfl ?_
          refine w_ic dX9_wake_27 zi_2 ?_
          refine w_iv dX9_wake_28 rfl rfl (As := [.int 2]) rfl rfl hJ0.1.1 zs_386 (Nat.le_of_ble_eq_true rfl) ?_
          refine ZV.imp (k_2306 2 (by have := zt_2; omega) (by have := zt_2; omega) hN hJ0.1) ?_
          rintro _ ⟨x40, M37, rfl, h41, h42, hJ38, hq39⟩
          replace hb : zHd _ := hb x40.toInt h41 h42 (zi M37) (zi_fr hJ38.2)
          have hJ44 := zJ_trans hJ0 hJ38 (zSub_cons (fun _ _ h h' hk => zIR_a (by omega) (by omega)) zSub_nil)
          show ZW _ _ _ _ _ _ _ (31, [some (.ref 386), some (.int a0), some (.int a1)], [.int x40], M37)
          refine w_ilt_t dX9_wake_31 (t := 38) rfl (by omega) ?_
          refine w_ic dX9_wake_38 zi_0 ?_
          refine w_en dX9_wake_39 rfl ?_
          exact ⟨_, _, rfl, (by have := zt_0; omega), (by have := zt_0; omega), hJ44, hb⟩
      · skip
        replace hb : zHd _ := hb.2 h23
        refine w_ine_f dX9_wake_14 (t := 21) rfl (by omega) ?_
        refine w_ic dX9_wake_17 zi_1 ?_
        refine w_gt dX9_wake_18 (t := 22) rfl ?_
        refine w_lo dX9_wake_22 rfl rfl rfl rfl ?_
        rcases Int.decEq (1 : Int) a1.toInt with h45 | h45
        · skip
          replace hb : zHd _ := hb.1 h45
          refine w_cne_t dX9_wake_23 (t := 40) rfl (by have := zt_1; omega) ?_
          refine w_lo dX9_wake_40 rfl rfl rfl rfl ?_
          refine w_iv dX9_wake_41 rfl rfl (As := []) rfl rfl hJ0.1.1 zs_386 (Nat.le_of_ble_eq_true rfl) ?_
          obtain ⟨P48, hp49, hb⟩ := hb
          replace hb : zHd _ := hb
          refine ZV.imp (u_2377 hN hJ0.1 hp49) ?_
          rintro _ ⟨M46, rfl, hJ47, hq50⟩
          replace hb : zHd _ := hb  (zi M46) (zi_fr hJ47.2) hq50
          have hJ52 := zJ_trans hJ0 hJ47 (zSub_cons (fun _ _ h h' hk => zIR_s (zIR_a (by omega) (by omega))) (zSub_cons (fun _ _ h h' hk => zIR_s (zIR_s (zIR_e (by omega) (by omega) hk))) (zSub_cons (fun _ _ h h' hk => zIR_s (zIR_s (zIR_s (zIR_e (by omega) (by omega) hk)))) zSub_nil)))
          show ZW _ _ _ _ _ _ _ (44, [some (.ref 386), some (.int a0), some (.int a1)], [], M46)
          refine w_lo dX9_wake_44 rfl rfl rfl rfl ?_
          refine w_ieq_t dX9_wake_45 (t := 57) rfl (by omega) ?_
          refine w_lo dX9_wake_57 rfl rfl rfl rfl ?_
          refine w_gf dX9_wake_58 rfl hJ52.1.1 zs_386 (zr_386_51 hJ52.1) ?_
          refine w_lo dX9_wake_61 rfl rfl rfl rfl ?_
          refine w_ic dX9_wake_62 zi_1 ?_
          refine w_isi dX9_wake_63 hJ52 zs_420 (by omega) (by omega) zu_420 (by have := zt_1; omega) (by have := zt_1; omega) (zIR_s (zIR_a (by omega) (by omega))) ?_
          intro M53 hJ54 f55 hn56
          replace hb : zHd _ := hb (zi M53) (zi_zup hn56 f55 rfl zt_1)
          refine w_ic dX9_wake_64 zi_1 ?_
          refine w_en dX9_wake_65 rfl ?_
          exact ⟨_, _, rfl, (by have := zt_1; omega), (by have := zt_1; omega), hJ54, hb⟩
        · skip
          replace hb : zHd _ := hb.2 h45
          refine w_cne_f dX9_wake_23 (t := 40) rfl (by have := zt_1; omega) ?_
          refine w_lo dX9_wake_26 rfl rfl rfl rfl ?_
          refine w_ic dX9_wake_27 zi_2 ?_
          refine w_iv dX9_wake_28 rfl rfl (As := [.int 2]) rfl rfl hJ0.1.1 zs_386 (Nat.le_of_ble_eq_true rfl) ?_
          refine ZV.imp (k_2306 2 (by have := zt_2; omega) (by have := zt_2; omega) hN hJ0.1) ?_
          rintro _ ⟨x61, M58, rfl, h62, h63, hJ59, hq60⟩
          replace hb : zHd _ := hb x61.toInt h62 h63 (zi M58) (zi_fr hJ59.2)
          have hJ65 := zJ_trans hJ0 hJ59 (zSub_cons (fun _ _ h h' hk => zIR_a (by omega) (by omega)) zSub_nil)
          show ZW _ _ _ _ _ _ _ (31, [some (.ref 386), some (.int a0), some (.int a1)], [.int x61], M58)
          refine w_ilt_t dX9_wake_31 (t := 38) rfl (by omega) ?_
          refine w_ic dX9_wake_38 zi_0 ?_
          refine w_en dX9_wake_39 rfl ?_
          exact ⟨_, _, rfl, (by have := zt_0; omega), (by have := zt_0; omega), hJ65, hb⟩
    · skip
      replace hb : zHd _ := hb.2 h18
      refine w_cge_t dX9_isBoy_14 (t := 21) rfl (by omega) ?_
      refine w_ic dX9_isBoy_21 zi_0 ?_
      refine w_en dX9_isBoy_22 rfl ?_
      show ZW _ _ _ _ _ _ _ (5, [some (.ref 386), some (.int a0), some (.int a1)], [.int 0], M0)
      refine w_ieq_t dX9_wake_5 (t := 26) rfl (by have := zt_0; omega) ?_
      refine w_lo dX9_wake_26 rfl rfl rfl rfl ?_
      refine w_ic dX9_wake_27 zi_2 ?_
      refine w_iv dX9_wake_28 rfl rfl (As := [.int 2]) rfl rfl hJ0.1.1 zs_386 (Nat.le_of_ble_eq_true rfl) ?_
      refine ZV.imp (k_2306 2 (by have := zt_2; omega) (by have := zt_2; omega) hN hJ0.1) ?_
      rintro _ ⟨x69, M66, rfl, h70, h71, hJ67, hq68⟩
      replace hb : zHd _ := hb x69.toInt h70 h71 (zi M66) (zi_fr hJ67.2)
      have hJ73 := zJ_trans hJ0 hJ67 (zSub_cons (fun _ _ h h' hk => zIR_a (by omega) (by omega)) zSub_nil)
      show ZW _ _ _ _ _ _ _ (31, [some (.ref 386), some (.int a0), some (.int a1)], [.int x69], M66)
      refine w_ilt_t dX9_wake_31 (t := 38) rfl (by omega) ?_
      refine w_ic dX9_wake_38 zi_0 ?_
      refine w_en dX9_wake_39 rfl ?_
      exact ⟨_, _, rfl, (by have := zt_0; omega), (by have := zt_0; omega), hJ73, hb⟩
set_option maxRecDepth 100000 in
theorem u_2393 {X : List Int32} {d N : Nat} {M0 : zM} (a0 : Int32) (a1 : Int32) (ha10 : (0 : Int) ≤ a1.toInt) (ha11 : a1.toInt ≤ 1) (hN : N ≤ 600) (hB0 : zB N M0) {Q : Int → zF → Prop} (hb : b_2393 (zi M0) a0.toInt a1.toInt Q) : ZV X (d + 3) 2393 [.ref 386, .int a0, .int a1] M0 (zRI N [(415, 416, 1000), (418, 433, 1000), (386, 387, 64), (386, 387, 65)] M0 (0) (1) (fun v M' => Q v.toInt (zi M'))) := by
  have hJ0 : zJ N [(415, 416, 1000), (418, 433, 1000), (386, 387, 64), (386, 387, 65)] M0 M0 := zJ_refl hB0
  refine ZV.of (ini := false) rfl (Nat.le_of_ble_eq_true rfl) (by decide +kernel) ?_
  unfold b_2393 at hb
  replace hb : zHd _ := hb
  show ZW _ _ _ _ _ _ _ (0, [some (.ref 386), some (.int a0), some (.int a1)], [], M0)
  refine w_lo dX9_tie_0 rfl rfl rfl rfl ?_
  refine w_lo dX9_tie_1 rfl rfl rfl rfl ?_
  refine w_iv dX9_tie_2 rfl rfl (As := [.int a0]) rfl rfl hJ0.1.1 zs_386 (Nat.le_of_ble_eq_true rfl) ?_
  refine ZV.of (ini := false) rfl (Nat.le_of_ble_eq_true rfl) (by decide +kernel) ?_
  show ZW _ _ _ _ _ _ _ (0, [some (.ref 386), some (.int a0)], [], M0)
  refine w_lo dX9_isKnot_0 rfl rfl rfl rfl ?_
  rcases zcut a0.toInt (0 : Int) with h1 | h1
  · skip
    replace hb : zHd _ := hb.1 h1
    refine w_ilt_t dX9_isKnot_1 (t := 23) rfl (by omega) ?_
    refine w_ic dX9_isKnot_23 zi_0 ?_
    refine w_en dX9_isKnot_24 rfl ?_
    show ZW _ _ _ _ _ _ _ (5, [some (.ref 386), some (.int a0), some (.int a1)], [.int 0], M0)
    refine w_ieq_t dX9_tie_5 (t := 27) rfl (by have := zt_0; omega) ?_
    refine w_lo dX9_tie_27 rfl rfl rfl rfl ?_
    refine w_ic dX9_tie_28 zi_3 ?_
    refine w_iv dX9_tie_29 rfl rfl (As := [.int 3]) rfl rfl hJ0.1.1 zs_386 (Nat.le_of_ble_eq_true rfl) ?_
    refine ZV.imp (k_2306 3 (by have := zt_3; omega) (by have := zt_3; omega) hN hJ0.1) ?_
    rintro _ ⟨x5, M2, rfl, h6, h7, hJ3, hq4⟩
    replace hb : zHd _ := hb x5.toInt h6 h7 (zi M2) (zi_fr hJ3.2)
    have hJ9 := zJ_trans hJ0 hJ3 (zSub_cons (fun _ _ h h' hk => zIR_a (by omega) (by omega)) zSub_nil)
    show ZW _ _ _ _ _ _ _ (32, [some (.ref 386), some (.int a0), some (.int a1)], [.int x5], M2)
    refine w_ilt_t dX9_tie_32 (t := 39) rfl (by omega) ?_
    refine w_ic dX9_tie_39 zi_0 ?_
    refine w_en dX9_tie_40 rfl ?_
    exact ⟨_, _, rfl, (by have := zt_0; omega), (by have := zt_0; omega), hJ9, hb⟩
  · skip
    replace hb : zHd _ := hb.2 h1
    refine w_ilt_f dX9_isKnot_1 (t := 23) rfl (by omega) ?_
    refine w_lo dX9_isKnot_4 rfl rfl rfl rfl ?_
    refine w_lo dX9_isKnot_5 rfl rfl rfl rfl ?_
    refine w_gf dX9_isKnot_6 rfl hJ0.1.1 zs_386 (zr_386_13 hJ0.1) ?_
    refine w_lo dX9_isKnot_9 rfl rfl rfl rfl ?_
    refine w_gfi dX9_isKnot_10 rfl hJ0.1 zs_386 (Nat.le_of_ble_eq_true rfl) zo_386_12 ?_
    intro x10 f11 h12 h13
    replace hb : zHd _ := hb x10.toInt (ziE f11) h12 h13
    refine w_iai dX9_isKnot_13 hJ0.1 zs_388 (by omega) (by omega) zu_388 ?_
    intro x17 f14 h15 h16
    replace hb : zHd _ := hb x17.toInt (ziEk f14 rfl) h15 h16
    refine w_ic dX9_isKnot_14 zi_1 ?_
    refine w_sub dX9_isKnot_15 (by have := zt_1; omega) ?_
    intro x18 h19
    have := zt_1
    replace hb : zHd _ := hb x18.toInt (by have := zt_1; omega)
    rcases zcut a0.toInt x18.toInt with h20 | h20
    · skip
      replace hb : zHd _ := hb.1 h20
      refine w_cge_f dX9_isKnot_16 (t := 23) rfl (by omega) ?_
      refine w_ic dX9_isKnot_19 zi_1 ?_
      refine w_gt dX9_isKnot_20 (t := 24) rfl ?_
      refine w_en dX9_isKnot_24 rfl ?_
      show ZW _ _ _ _ _ _ _ (5, [some (.ref 386), some (.int a0), some (.int a1)], [.int 1], M0)
      refine w_ieq_f dX9_tie_5 (t := 27) rfl (by have := zt_1; omega) ?_
      refine w_lo dX9_tie_8 rfl rfl rfl rfl ?_
      refine w_gf dX9_tie_9 rfl hJ0.1.1 zs_386 (zr_386_60 hJ0.1) ?_
      refine w_lo dX9_tie_12 rfl rfl rfl rfl ?_
      refine w_iai dX9_tie_13 hJ0.1 zs_429 (by omega) (by omega) zu_429 ?_
      intro x24 f21 h22 h23
      replace hb : zHd _ := hb x24.toInt (ziEk f21 rfl) h22 h23
      refine w_ic dX9_tie_14 zi_1 ?_
      rcases Int.decEq x24.toInt (1 : Int) with h25 | h25
      · skip
        replace hb : zHd _ := hb.1 h25
        refine w_cne_t dX9_tie_15 (t := 22) rfl (by have := zt_1; omega) ?_
        refine w_ic dX9_tie_22 zi_0 ?_
        refine w_lo dX9_tie_23 rfl rfl rfl rfl ?_
        rcases Int.decEq (0 : Int) a1.toInt with h26 | h26
        · skip
          replace hb : zHd _ := hb.1 h26
          refine w_cne_t dX9_tie_24 (t := 41) rfl (by have := zt_0; omega) ?_
          refine w_lo dX9_tie_41 rfl rfl rfl rfl ?_
          refine w_iv dX9_tie_42 rfl rfl (As := []) rfl rfl hJ0.1.1 zs_386 (Nat.le_of_ble_eq_true rfl) ?_
          obtain ⟨P29, hp30, hb⟩ := hb
          replace hb : zHd _ := hb
          refine ZV.imp (u_2377 hN hJ0.1 hp30) ?_
          rintro _ ⟨M27, rfl, hJ28, hq31⟩
          replace hb : zHd _ := hb  (zi M27) (zi_fr hJ28.2) hq31
          have hJ33 := zJ_trans hJ0 hJ28 (zSub_cons (fun _ _ h h' hk => zIR_s (zIR_a (by omega) (by omega))) (zSub_cons (fun _ _ h h' hk => zIR_s (zIR_s (zIR_e (by omega) (by omega) hk))) (zSub_cons (fun _ _ h h' hk => zIR_s (zIR_s (zIR_s (zIR_e (by omega) (by omega) hk)))) zSub_nil)))
          show ZW _ _ _ _ _ _ _ (45, [some (.ref 386), some (.int a0), some (.int a1)], [], M27)
          refine w_lo dX9_tie_45 rfl rfl rfl rfl ?_
          refine w_gf dX9_tie_46 rfl hJ33.1.1 zs_386 (zr_386_60 hJ33.1) ?_
          refine w_lo dX9_tie_49 rfl rfl rfl rfl ?_
          refine w_lo dX9_tie_50 rfl rfl rfl rfl ?_
          refine w_ieq_f dX9_tie_51 (t := 58) rfl (by omega) ?_
          refine w_ic dX9_tie_54 zi_1 ?_
          refine w_gt dX9_tie_55 (t := 59) rfl ?_
          refine w_isi dX9_tie_59 hJ33 zs_429 (by omega) (by omega) zu_429 (by have := zt_1; omega) (by have := zt_1; omega) (zIR_s (zIR_a (by omega) (by omega))) ?_
          intro M34 hJ35 f36 hn37
          replace hb : zHd _ := hb (zi M34) (zi_zup hn37 f36 rfl zt_1)
          refine w_ic dX9_tie_60 zi_1 ?_
          refine w_en dX9_tie_61 rfl ?_
          exact ⟨_, _, rfl, (by have := zt_1; omega), (by have := zt_1; omega), hJ35, hb⟩
        · skip
          replace hb : zHd _ := hb.2 h26
          refine w_cne_f dX9_tie_24 (t := 41) rfl (by have := zt_0; omega) ?_
          refine w_lo dX9_tie_27 rfl rfl rfl rfl ?_
          refine w_ic dX9_tie_28 zi_3 ?_
          refine w_iv dX9_tie_29 rfl rfl (As := [.int 3]) rfl rfl hJ0.1.1 zs_386 (Nat.le_of_ble_eq_true rfl) ?_
          refine ZV.imp (k_2306 3 (by have := zt_3; omega) (by have := zt_3; omega) hN hJ0.1) ?_
          rintro _ ⟨x42, M39, rfl, h43, h44, hJ40, hq41⟩
          replace hb : zHd _ := hb x42.toInt h43 h44 (zi M39) (zi_fr hJ40.2)
          have hJ46 := zJ_trans hJ0 hJ40 (zSub_cons (fun _ _ h h' hk => zIR_a (by omega) (by omega)) zSub_nil)
          show ZW _ _ _ _ _ _ _ (32, [some (.ref 386), some (.int a0), some (.int a1)], [.int x42], M39)
          refine w_ilt_t dX9_tie_32 (t := 39) rfl (by omega) ?_
          refine w_ic dX9_tie_39 zi_0 ?_
          refine w_en dX9_tie_40 rfl ?_
          exact ⟨_, _, rfl, (by have := zt_0; omega), (by have := zt_0; omega), hJ46, hb⟩
      · skip
        replace hb : zHd _ := hb.2 h25
        refine w_cne_f dX9_tie_15 (t := 22) rfl (by have := zt_1; omega) ?_
        refine w_ic dX9_tie_18 zi_1 ?_
        refine w_gt dX9_tie_19 (t := 23) rfl ?_
        refine w_lo dX9_tie_23 rfl rfl rfl rfl ?_
        rcases Int.decEq (1 : Int) a1.toInt with h47 | h47
        · skip
          replace hb : zHd _ := hb.1 h47
          refine w_cne_t dX9_tie_24 (t := 41) rfl (by have := zt_1; omega) ?_
          refine w_lo dX9_tie_41 rfl rfl rfl rfl ?_
          refine w_iv dX9_tie_42 rfl rfl (As := []) rfl rfl hJ0.1.1 zs_386 (Nat.le_of_ble_eq_true rfl) ?_
          obtain ⟨P50, hp51, hb⟩ := hb
          replace hb : zHd _ := hb
          refine ZV.imp (u_2377 hN hJ0.1 hp51) ?_
          rintro _ ⟨M48, rfl, hJ49, hq52⟩
          replace hb : zHd _ := hb  (zi M48) (zi_fr hJ49.2) hq52
          have hJ54 := zJ_trans hJ0 hJ49 (zSub_cons (fun _ _ h h' hk => zIR_s (zIR_a (by omega) (by omega))) (zSub_cons (fun _ _ h h' hk => zIR_s (zIR_s (zIR_e (by omega) (by omega) hk))) (zSub_cons (fun _ _ h h' hk => zIR_s (zIR_s (zIR_s (zIR_e (by omega) (by omega) hk)))) zSub_nil)))
          show ZW _ _ _ _ _ _ _ (45, [some (.ref 386), some (.int a0), some (.int a1)], [], M48)
          refine w_lo dX9_tie_45 rfl rfl rfl rfl ?_
          refine w_gf dX9_tie_46 rfl hJ54.1.1 zs_386 (zr_386_60 hJ54.1) ?_
          refine w_lo dX9_tie_49 rfl rfl rfl rfl ?_
          refine w_lo dX9_tie_50 rfl rfl rfl rfl ?_
          refine w_ieq_t dX9_tie_51 (t := 58) rfl (by omega) ?_
          refine w_ic dX9_tie_58 zi_0 ?_
          refine w_isi dX9_tie_59 hJ54 zs_429 (by omega) (by omega) zu_429 (by have := zt_0; omega) (by have := zt_0; omega) (zIR_s (zIR_a (by omega) (by omega))) ?_
          intro M55 hJ56 f57 hn58
          replace hb : zHd _ := hb (zi M55) (zi_zup hn58 f57 rfl zt_0)
          refine w_ic dX9_tie_60 zi_1 ?_
          refine w_en dX9_tie_61 rfl ?_
          exact ⟨_, _, rfl, (by have := zt_1; omega), (by have := zt_1; omega), hJ56, hb⟩
        · skip
          replace hb : zHd _ := hb.2 h47
          refine w_cne_f dX9_tie_24 (t := 41) rfl (by have := zt_1; omega) ?_
          refine w_lo dX9_tie_27 rfl rfl rfl rfl ?_
          refine w_ic dX9_tie_28 zi_3 ?_
          refine w_iv dX9_tie_29 rfl rfl (As := [.int 3]) rfl rfl hJ0.1.1 zs_386 (Nat.le_of_ble_eq_true rfl) ?_
          refine ZV.imp (k_2306 3 (by have := zt_3; omega) (by have := zt_3; omega) hN hJ0.1) ?_
          rintro _ ⟨x63, M60, rfl, h64, h65, hJ61, hq62⟩
          replace hb : zHd _ := hb x63.toInt h64 h65 (zi M60) (zi_fr hJ61.2)
          have hJ67 := zJ_trans hJ0 hJ61 (zSub_cons (fun _ _ h h' hk => zIR_a (by omega) (by omega)) zSub_nil)
          show ZW _ _ _ _ _ _ _ (32, [some (.ref 386), some (.int a0), some (.int a1)], [.int x63], M60)
          refine w_ilt_t dX9_tie_32 (t := 39) rfl (by omega) ?_
          refine w_ic dX9_tie_39 zi_0 ?_
          refine w_en dX9_tie_40 rfl ?_
          exact ⟨_, _, rfl, (by have := zt_0; omega), (by have := zt_0; omega), hJ67, hb⟩
    · skip
      replace hb : zHd _ := hb.2 h20
      refine w_cge_t dX9_isKnot_16 (t := 23) rfl (by omega) ?_
      refine w_ic dX9_isKnot_23 zi_0 ?_
      refine w_en dX9_isKnot_24 rfl ?_
      show ZW _ _ _ _ _ _ _ (5, [some (.ref 386), some (.int a0), some (.int a1)], [.int 0], M0)
      refine w_ieq_t dX9_tie_5 (t := 27) rfl (by have := zt_0; omega) ?_
      refine w_lo dX9_tie_27 rfl rfl rfl rfl ?_
      refine w_ic dX9_tie_28 zi_3 ?_
      refine w_iv dX9_tie_29 rfl rfl (As := [.int 3]) rfl rfl hJ0.1.1 zs_386 (Nat.le_of_ble_eq_true rfl) ?_
      refine ZV.imp (k_2306 3 (by have := zt_3; omega) (by have := zt_3; omega) hN hJ0.1) ?_
      rintro _ ⟨x71, M68, rfl, h72, h73, hJ69, hq70⟩
      replace hb : zHd _ := hb x71.toInt h72 h73 (zi M68) (zi_fr hJ69.2)
      have hJ75 := zJ_trans hJ0 hJ69 (zSub_cons (fun _ _ h h' hk => zIR_a (by omega) (by omega)) zSub_nil)
      show ZW _ _ _ _ _ _ _ (32, [some (.ref 386), some (.int a0), some (.int a1)], [.int x71], M68)
      refine w_ilt_t dX9_tie_32 (t := 39) rfl (by omega) ?_
      refine w_ic dX9_tie_39 zi_0 ?_
      refine w_en dX9_tie_40 rfl ?_
      exact ⟨_, _, rfl, (by have := zt_0; omega), (by have := zt_0; omega), hJ75, hb⟩
set_option maxRecDepth 100000 in
theorem u_2394 {X : List Int32} {d N : Nat} {M0 : zM} (a0 : Int32) (a1 : Int32) (hN : N ≤ 600) (hB0 : zB N M0) {Q : Int → zF → Prop} (hb : b_2394 (zi M0) a0.toInt a1.toInt Q) : ZV X (d + 3) 2394 [.ref 386, .int a0, .int a1] M0 (zRI N [(415, 416, 1000), (418, 433, 1000), (386, 387, 64), (386, 387, 65)] M0 (-2147483648) (2147483647) (fun v M' => Q v.toInt (zi M'))) := by
  have hJ0 : zJ N [(415, 416, 1000), (418, 433, 1000), (386, 387, 64), (386, 387, 65)] M0 M0 := zJ_refl hB0
  refine ZV.of (ini := false) rfl (Nat.le_of_ble_eq_true rfl) (by decide +kernel) ?_
  unfold b_2394 at hb
  replace hb : zHd _ := hb
  show ZW _ _ _ _ _ _ _ (0, [some (.ref 386), some (.int a0), some (.int a1), none], [], M0)
  refine w_lo dX9_slack_0 rfl rfl rfl rfl ?_
  refine w_lo dX9_slack_1 rfl rfl rfl rfl ?_
  refine w_iv dX9_slack_2 rfl rfl (As := [.int a0]) rfl rfl hJ0.1.1 zs_386 (Nat.le_of_ble_eq_true rfl) ?_
  refine ZV.of (ini := false) rfl (Nat.le_of_ble_eq_true rfl) (by decide +kernel) ?_
  show ZW _ _ _ _ _ _ _ (0, [some (.ref 386), some (.int a0)], [], M0)
  refine w_lo dX9_isKnot_0 rfl rfl rfl rfl ?_
  rcases zcut a0.toInt (0 : Int) with h1 | h1
  · skip
    replace hb : zHd _ := hb.1 h1
    refine w_ilt_t dX9_isKnot_1 (t := 23) rfl (by omega) ?_
    refine w_ic dX9_isKnot_23 zi_0 ?_
    refine w_en dX9_isKnot_24 rfl ?_
    show ZW _ _ _ _ _ _ _ (5, [some (.ref 386), some (.int a0), some (.int a1), none], [.int 0], M0)
    refine w_ieq_t dX9_slack_5 (t := 18) rfl (by have := zt_0; omega) ?_
    refine w_lo dX9_slack_18 rfl rfl rfl rfl ?_
    refine w_ic dX9_slack_19 zi_3 ?_
    refine w_iv dX9_slack_20 rfl rfl (As := [.int 3]) rfl rfl hJ0.1.1 zs_386 (Nat.le_of_ble_eq_true rfl) ?_
    refine ZV.imp (k_2306 3 (by have := zt_3; omega) (by have := zt_3; omega) hN hJ0.1) ?_
    rintro _ ⟨x5, M2, rfl, h6, h7, hJ3, hq4⟩
    replace hb : zHd _ := hb x5.toInt h6 h7 (zi M2) (zi_fr hJ3.2)
    have hJ9 := zJ_trans hJ0 hJ3 (zSub_cons (fun _ _ h h' hk => zIR_a (by omega) (by omega)) zSub_nil)
    show ZW _ _ _ _ _ _ _ (23, [some (.ref 386), some (.int a0), some (.int a1), none], [.int x5], M2)
    refine w_eni dX9_slack_23 rfl rfl ?_
    exact ⟨_, _, rfl, (zbot _), (ztop _), hJ9, hb⟩
  · skip
    replace hb : zHd _ := hb.2 h1
    refine w_ilt_f dX9_isKnot_1 (t := 23) rfl (by omega) ?_
    refine w_lo dX9_isKnot_4 rfl rfl rfl rfl ?_
    refine w_lo dX9_isKnot_5 rfl rfl rfl rfl ?_
    refine w_gf dX9_isKnot_6 rfl hJ0.1.1 zs_386 (zr_386_13 hJ0.1) ?_
    refine w_lo dX9_isKnot_9 rfl rfl rfl rfl ?_
    refine w_gfi dX9_isKnot_10 rfl hJ0.1 zs_386 (Nat.le_of_ble_eq_true rfl) zo_386_12 ?_
    intro x10 f11 h12 h13
    replace hb : zHd _ := hb x10.toInt (ziE f11) h12 h13
    refine w_iai dX9_isKnot_13 hJ0.1 zs_388 (by omega) (by omega) zu_388 ?_
    intro x17 f14 h15 h16
    replace hb : zHd _ := hb x17.toInt (ziEk f14 rfl) h15 h16
    refine w_ic dX9_isKnot_14 zi_1 ?_
    refine w_sub dX9_isKnot_15 (by have := zt_1; omega) ?_
    intro x18 h19
    have := zt_1
    replace hb : zHd _ := hb x18.toInt (by have := zt_1; omega)
    rcases zcut a0.toInt x18.toInt with h20 | h20
    · skip
      replace hb : zHd _ := hb.1 h20
      refine w_cge_f dX9_isKnot_16 (t := 23) rfl (by omega) ?_
      refine w_ic dX9_isKnot_19 zi_1 ?_
      refine w_gt dX9_isKnot_20 (t := 24) rfl ?_
      refine w_en dX9_isKnot_24 rfl ?_
      show ZW _ _ _ _ _ _ _ (5, [some (.ref 386), some (.int a0), some (.int a1), none], [.int 1], M0)
      refine w_ieq_f dX9_slack_5 (t := 18) rfl (by have := zt_1; omega) ?_
      refine w_lo dX9_slack_8 rfl rfl rfl rfl ?_
      refine w_ic dX9_slack_9 zi_0 ?_
      refine w_bi dX9_slack_10 (c := 99) (by decide) ?_
      refine w_ss dX9_slack_12 rfl rfl (As := [.int a1, .int 0, .int 99]) rfl rfl (Nat.le_of_ble_eq_true rfl) ?_
      refine ZV.of (ini := false) rfl (Nat.le_of_ble_eq_true rfl) (by decide +kernel) ?_
      show ZW _ _ _ _ _ _ _ (0, [some (.int a1), some (.int 0), some (.int 99)], [], M0)
      refine w_lo dX9_is_0 rfl rfl rfl rfl ?_
      refine w_lo dX9_is_1 rfl rfl rfl rfl ?_
      rcases zcut a1.toInt (0 : Int) with h21 | h21
      · skip
        replace hb : zHd _ := hb.1 h21
        refine w_clt_t dX9_is_2 (t := 14) rfl (by have := zt_0; omega) ?_
        refine w_ic dX9_is_14 zi_0 ?_
        refine w_en dX9_is_15 rfl ?_
        show ZW _ _ _ _ _ _ _ (15, [some (.ref 386), some (.int a0), some (.int a1), none], [.int 0], M0)
        refine w_ine_f dX9_slack_15 (t := 24) rfl (by have := zt_0; omega) ?_
        refine w_lo dX9_slack_18 rfl rfl rfl rfl ?_
        refine w_ic dX9_slack_19 zi_3 ?_
        refine w_iv dX9_slack_20 rfl rfl (As := [.int 3]) rfl rfl hJ0.1.1 zs_386 (Nat.le_of_ble_eq_true rfl) ?_
        refine ZV.imp (k_2306 3 (by have := zt_3; omega) (by have := zt_3; omega) hN hJ0.1) ?_
        rintro _ ⟨x25, M22, rfl, h26, h27, hJ23, hq24⟩
        replace hb : zHd _ := hb x25.toInt h26 h27 (zi M22) (zi_fr hJ23.2)
        have hJ29 := zJ_trans hJ0 hJ23 (zSub_cons (fun _ _ h h' hk => zIR_a (by omega) (by omega)) zSub_nil)
        show ZW _ _ _ _ _ _ _ (23, [some (.ref 386), some (.int a0), some (.int a1), none], [.int x25], M22)
        refine w_eni dX9_slack_23 rfl rfl ?_
        exact ⟨_, _, rfl, (zbot _), (ztop _), hJ29, hb⟩
      · skip
        replace hb : zHd _ := hb.2 h21
        refine w_clt_f dX9_is_2 (t := 14) rfl (by have := zt_0; omega) ?_
        refine w_lo dX9_is_5 rfl rfl rfl rfl ?_
        refine w_lo dX9_is_6 rfl rfl rfl rfl ?_
        rcases zcut (99 : Int) a1.toInt with h30 | h30
        · skip
          replace hb : zHd _ := hb.1 h30
          refine w_cgt_t dX9_is_7 (t := 14) rfl (by have := zt_99; omega) ?_
          refine w_ic dX9_is_14 zi_0 ?_
          refine w_en dX9_is_15 rfl ?_
          show ZW _ _ _ _ _ _ _ (15, [some (.ref 386), some (.int a0), some (.int a1), none], [.int 0], M0)
          refine w_ine_f dX9_slack_15 (t := 24) rfl (by have := zt_0; omega) ?_
          refine w_lo dX9_slack_18 rfl rfl rfl rfl ?_
          refine w_ic dX9_slack_19 zi_3 ?_
          refine w_iv dX9_slack_20 rfl rfl (As := [.int 3]) rfl rfl hJ0.1.1 zs_386 (Nat.le_of_ble_eq_true rfl) ?_
          refine ZV.imp (k_2306 3 (by have := zt_3; omega) (by have := zt_3; omega) hN hJ0.1) ?_
          rintro _ ⟨x34, M31, rfl, h35, h36, hJ32, hq33⟩
          replace hb : zHd _ := hb x34.toInt h35 h36 (zi M31) (zi_fr hJ32.2)
          have hJ38 := zJ_trans hJ0 hJ32 (zSub_cons (fun _ _ h h' hk => zIR_a (by omega) (by omega)) zSub_nil)
          show ZW _ _ _ _ _ _ _ (23, [some (.ref 386), some (.int a0), some (.int a1), none], [.int x34], M31)
          refine w_eni dX9_slack_23 rfl rfl ?_
          exact ⟨_, _, rfl, (zbot _), (ztop _), hJ38, hb⟩
        · skip
          replace hb : zHd _ := hb.2 h30
          refine w_cgt_f dX9_is_7 (t := 14) rfl (by have := zt_99; omega) ?_
          refine w_ic dX9_is_10 zi_1 ?_
          refine w_gt dX9_is_11 (t := 15) rfl ?_
          refine w_en dX9_is_15 rfl ?_
          show ZW _ _ _ _ _ _ _ (15, [some (.ref 386), some (.int a0), some (.int a1), none], [.int 1], M0)
          refine w_ine_t dX9_slack_15 (t := 24) rfl (by have := zt_1; omega) ?_
          refine w_lo dX9_slack_24 rfl rfl rfl rfl ?_
          refine w_iv dX9_slack_25 rfl rfl (As := []) rfl rfl hJ0.1.1 zs_386 (Nat.le_of_ble_eq_true rfl) ?_
          obtain ⟨P41, hp42, hb⟩ := hb
          replace hb : zHd _ := hb
          refine ZV.imp (u_2377 hN hJ0.1 hp42) ?_
          rintro _ ⟨M39, rfl, hJ40, hq43⟩
          replace hb : zHd _ := hb  (zi M39) (zi_fr hJ40.2) hq43
          have hJ45 := zJ_trans hJ0 hJ40 (zSub_cons (fun _ _ h h' hk => zIR_s (zIR_a (by omega) (by omega))) (zSub_cons (fun _ _ h h' hk => zIR_s (zIR_s (zIR_e (by omega) (by omega) hk))) (zSub_cons (fun _ _ h h' hk => zIR_s (zIR_s (zIR_s (zIR_e (by omega) (by omega) hk)))) zSub_nil)))
          show ZW _ _ _ _ _ _ _ (28, [some (.ref 386), some (.int a0), some (.int a1), none], [], M39)
          refine w_lo dX9_slack_28 rfl rfl rfl rfl ?_
          refine w_gf dX9_slack_29 rfl hJ45.1.1 zs_386 (zr_386_61 hJ45.1) ?_
          refine w_lo dX9_slack_32 rfl rfl rfl rfl ?_
          refine w_iai dX9_slack_33 hJ45.1 zs_430 (by omega) (by omega) zu_430 ?_
          intro x49 f46 h47 h48
          replace hb : zHd _ := hb x49.toInt (ziEk f46 rfl)
          refine w_lo (ml' := [some (.ref 386), some (.int a0), some (.int a1), some (.int x49)]) dX9_slack_34 rfl rfl rfl rfl ?_
          refine w_lo dX9_slack_35 rfl rfl rfl rfl ?_
          refine w_gf dX9_slack_36 rfl hJ45.1.1 zs_386 (zr_386_61 hJ45.1) ?_
          refine w_lo dX9_slack_39 rfl rfl rfl rfl ?_
          refine w_lo dX9_slack_40 rfl rfl rfl rfl ?_
          refine w_isi dX9_slack_41 hJ45 zs_430 (by omega) (by omega) zu_430 (zbot _) (ztop _) (zIR_s (zIR_a (by omega) (by omega))) ?_
          intro M50 hJ51 f52 hn53
          replace hb : zHd _ := hb (zi M50) (zi_zup hn53 f52 rfl rfl)
          refine w_lo dX9_slack_42 rfl rfl rfl rfl ?_
          refine w_eni dX9_slack_43 rfl rfl ?_
          exact ⟨_, _, rfl, (zbot _), (ztop _), hJ51, hb⟩
    · skip
      replace hb : zHd _ := hb.2 h20
      refine w_cge_t dX9_isKnot_16 (t := 23) rfl (by omega) ?_
      refine w_ic dX9_isKnot_23 zi_0 ?_
      refine w_en dX9_isKnot_24 rfl ?_
      show ZW _ _ _ _ _ _ _ (5, [some (.ref 386), some (.int a0), some (.int a1), none], [.int 0], M0)
      refine w_ieq_t dX9_slack_5 (t := 18) rfl (by have := zt_0; omega) ?_
      refine w_lo dX9_slack_18 rfl rfl rfl rfl ?_
      refine w_ic dX9_slack_19 zi_3 ?_
      refine w_iv dX9_slack_20 rfl rfl (As := [.int 3]) rfl rfl hJ0.1.1 zs_386 (Nat.le_of_ble_eq_true rfl) ?_
      refine ZV.imp (k_2306 3 (by have := zt_3; omega) (by have := zt_3; omega) hN hJ0.1) ?_
      rintro _ ⟨x58, M55, rfl, h59, h60, hJ56, hq57⟩
      replace hb : zHd _ := hb x58.toInt h59 h60 (zi M55) (zi_fr hJ56.2)
      have hJ62 := zJ_trans hJ0 hJ56 (zSub_cons (fun _ _ h h' hk => zIR_a (by omega) (by omega)) zSub_nil)
      show ZW _ _ _ _ _ _ _ (23, [some (.ref 386), some (.int a0), some (.int a1), none], [.int x58], M55)
      refine w_eni dX9_slack_23 rfl rfl ?_
      exact ⟨_, _, rfl, (zbot _), (ztop _), hJ62, hb⟩
set_option maxRecDepth 100000 in
theorem u_2395 {X : List Int32} {d N : Nat} {M0 : zM} (a0 : Int32) (a1 : Int32) (hN : N ≤ 600) (hB0 : zB N M0) {Q : Int → zF → Prop} (hb : b_2395 (zi M0) a0.toInt a1.toInt Q) : ZV X (d + 3) 2395 [.ref 386, .int a0, .int a1] M0 (zRI N [(415, 416, 1000), (418, 433, 1000), (386, 387, 64), (386, 387, 65)] M0 (0) (1) (fun v M' => Q v.toInt (zi M'))) := by
  have hJ0 : zJ N [(415, 416, 1000), (418, 433, 1000), (386, 387, 64), (386, 387, 65)] M0 M0 := zJ_refl hB0
  refine ZV.of (ini := false) rfl (Nat.le_of_ble_eq_true rfl) (by decide +kernel) ?_
  unfold b_2395 at hb
  replace hb : zHd _ := hb
  show ZW _ _ _ _ _ _ _ (0, [some (.ref 386), some (.int a0), some (.int a1), none], [], M0)
  refine w_lo dX9_swap_0 rfl rfl rfl rfl ?_
  refine w_lo dX9_swap_1 rfl rfl rfl rfl ?_
  refine w_iv dX9_swap_2 rfl rfl (As := [.int a0]) rfl rfl hJ0.1.1 zs_386 (Nat.le_of_ble_eq_true rfl) ?_
  refine ZV.of (ini := false) rfl (Nat.le_of_ble_eq_true rfl) (by decide +kernel) ?_
  show ZW _ _ _ _ _ _ _ (0, [some (.ref 386), some (.int a0)], [], M0)
  refine w_lo dX9_isBoy_0 rfl rfl rfl rfl ?_
  rcases zcut a0.toInt (0 : Int) with h1 | h1
  · skip
    replace hb : zHd _ := hb.1 h1
    refine w_ilt_t dX9_isBoy_1 (t := 21) rfl (by omega) ?_
    refine w_ic dX9_isBoy_21 zi_0 ?_
    refine w_en dX9_isBoy_22 rfl ?_
    show ZW _ _ _ _ _ _ _ (5, [some (.ref 386), some (.int a0), some (.int a1), none], [.int 0], M0)
    refine w_ieq_t dX9_swap_5 (t := 21) rfl (by have := zt_0; omega) ?_
    refine w_lo dX9_swap_21 rfl rfl rfl rfl ?_
    refine w_ic dX9_swap_22 zi_3 ?_
    refine w_iv dX9_swap_23 rfl rfl (As := [.int 3]) rfl rfl hJ0.1.1 zs_386 (Nat.le_of_ble_eq_true rfl) ?_
    refine ZV.imp (k_2306 3 (by have := zt_3; omega) (by have := zt_3; omega) hN hJ0.1) ?_
    rintro _ ⟨x5, M2, rfl, h6, h7, hJ3, hq4⟩
    replace hb : zHd _ := hb x5.toInt h6 h7 (zi M2) (zi_fr hJ3.2)
    have hJ9 := zJ_trans hJ0 hJ3 (zSub_cons (fun _ _ h h' hk => zIR_a (by omega) (by omega)) zSub_nil)
    show ZW _ _ _ _ _ _ _ (26, [some (.ref 386), some (.int a0), some (.int a1), none], [.int x5], M2)
    refine w_ilt_t dX9_swap_26 (t := 33) rfl (by omega) ?_
    refine w_ic dX9_swap_33 zi_0 ?_
    refine w_en dX9_swap_34 rfl ?_
    exact ⟨_, _, rfl, (by have := zt_0; omega), (by have := zt_0; omega), hJ9, hb⟩
  · skip
    replace hb : zHd _ := hb.2 h1
    refine w_ilt_f dX9_isBoy_1 (t := 21) rfl (by omega) ?_
    refine w_lo dX9_isBoy_4 rfl rfl rfl rfl ?_
    refine w_lo dX9_isBoy_5 rfl rfl rfl rfl ?_
    refine w_gf dX9_isBoy_6 rfl hJ0.1.1 zs_386 (zr_386_13 hJ0.1) ?_
    refine w_lo dX9_isBoy_9 rfl rfl rfl rfl ?_
    refine w_gfi dX9_isBoy_10 rfl hJ0.1 zs_386 (Nat.le_of_ble_eq_true rfl) zo_386_12 ?_
    intro x10 f11 h12 h13
    replace hb : zHd _ := hb x10.toInt (ziE f11) h12 h13
    refine w_iai dX9_isBoy_13 hJ0.1 zs_388 (by omega) (by omega) zu_388 ?_
    intro x17 f14 h15 h16
    replace hb : zHd _ := hb x17.toInt (ziEk f14 rfl) h15 h16
    rcases zcut a0.toInt x17.toInt with h18 | h18
    · skip
      replace hb : zHd _ := hb.1 h18
      refine w_cge_f dX9_isBoy_14 (t := 21) rfl (by omega) ?_
      refine w_ic dX9_isBoy_17 zi_1 ?_
      refine w_gt dX9_isBoy_18 (t := 22) rfl ?_
      refine w_en dX9_isBoy_22 rfl ?_
      show ZW _ _ _ _ _ _ _ (5, [some (.ref 386), some (.int a0), some (.int a1), none], [.int 1], M0)
      refine w_ieq_f dX9_swap_5 (t := 21) rfl (by have := zt_1; omega) ?_
      refine w_lo dX9_swap_8 rfl rfl rfl rfl ?_
      refine w_lo dX9_swap_9 rfl rfl rfl rfl ?_
      refine w_iv dX9_swap_10 rfl rfl (As := [.int a1]) rfl rfl hJ0.1.1 zs_386 (Nat.le_of_ble_eq_true rfl) ?_
      refine ZV.of (ini := false) rfl (Nat.le_of_ble_eq_true rfl) (by decide +kernel) ?_
      show ZW _ _ _ _ _ _ _ (0, [some (.ref 386), some (.int a1)], [], M0)
      refine w_lo dX9_isBoy_0 rfl rfl rfl rfl ?_
      rcases zcut a1.toInt (0 : Int) with h19 | h19
      · skip
        replace hb : zHd _ := hb.1 h19
        refine w_ilt_t dX9_isBoy_1 (t := 21) rfl (by omega) ?_
        refine w_ic dX9_isBoy_21 zi_0 ?_
        refine w_en dX9_isBoy_22 rfl ?_
        show ZW _ _ _ _ _ _ _ (13, [some (.ref 386), some (.int a0), some (.int a1), none], [.int 0], M0)
        refine w_ieq_t dX9_swap_13 (t := 21) rfl (by have := zt_0; omega) ?_
        refine w_lo dX9_swap_21 rfl rfl rfl rfl ?_
        refine w_ic dX9_swap_22 zi_3 ?_
        refine w_iv dX9_swap_23 rfl rfl (As := [.int 3]) rfl rfl hJ0.1.1 zs_386 (Nat.le_of_ble_eq_true rfl) ?_
        refine ZV.imp (k_2306 3 (by have := zt_3; omega) (by have := zt_3; omega) hN hJ0.1) ?_
        rintro _ ⟨x23, M20, rfl, h24, h25, hJ21, hq22⟩
        replace hb : zHd _ := hb x23.toInt h24 h25 (zi M20) (zi_fr hJ21.2)
        have hJ27 := zJ_trans hJ0 hJ21 (zSub_cons (fun _ _ h h' hk => zIR_a (by omega) (by omega)) zSub_nil)
        show ZW _ _ _ _ _ _ _ (26, [some (.ref 386), some (.int a0), some (.int a1), none], [.int x23], M20)
        refine w_ilt_t dX9_swap_26 (t := 33) rfl (by omega) ?_
        refine w_ic dX9_swap_33 zi_0 ?_
        refine w_en dX9_swap_34 rfl ?_
        exact ⟨_, _, rfl, (by have := zt_0; omega), (by have := zt_0; omega), hJ27, hb⟩
      · skip
        replace hb : zHd _ := hb.2 h19
        refine w_ilt_f dX9_isBoy_1 (t := 21) rfl (by omega) ?_
        refine w_lo dX9_isBoy_4 rfl rfl rfl rfl ?_
        refine w_lo dX9_isBoy_5 rfl rfl rfl rfl ?_
        refine w_gf dX9_isBoy_6 rfl hJ0.1.1 zs_386 (zr_386_13 hJ0.1) ?_
        refine w_lo dX9_isBoy_9 rfl rfl rfl rfl ?_
        refine w_gf dX9_isBoy_10 rfl hJ0.1.1 zs_386 f11 ?_
        refine w_ia dX9_isBoy_13 hJ0.1.1 zs_388 (znat (by omega)) f14 ?_
        rcases zcut a1.toInt x17.toInt with h31 | h31
        · skip
          replace hb : zHd _ := hb.1 h31
          refine w_cge_f dX9_isBoy_14 (t := 21) rfl (by omega) ?_
          refine w_ic dX9_isBoy_17 zi_1 ?_
          refine w_gt dX9_isBoy_18 (t := 22) rfl ?_
          refine w_en dX9_isBoy_22 rfl ?_
          show ZW _ _ _ _ _ _ _ (13, [some (.ref 386), some (.int a0), some (.int a1), none], [.int 1], M0)
          refine w_ieq_f dX9_swap_13 (t := 21) rfl (by have := zt_1; omega) ?_
          refine w_lo dX9_swap_16 rfl rfl rfl rfl ?_
          refine w_lo dX9_swap_17 rfl rfl rfl rfl ?_
          rcases Int.decEq a0.toInt a1.toInt with h32 | h32
          · skip
            replace hb : zHd _ := hb.1 h32
            refine w_cne_t dX9_swap_18 (t := 35) rfl (by omega) ?_
            refine w_lo dX9_swap_35 rfl rfl rfl rfl ?_
            refine w_iv dX9_swap_36 rfl rfl (As := []) rfl rfl hJ0.1.1 zs_386 (Nat.le_of_ble_eq_true rfl) ?_
            obtain ⟨P35, hp36, hb⟩ := hb
            replace hb : zHd _ := hb
            refine ZV.imp (u_2377 hN hJ0.1 hp36) ?_
            rintro _ ⟨M33, rfl, hJ34, hq37⟩
            replace hb : zHd _ := hb  (zi M33) (zi_fr hJ34.2) hq37
            have hJ39 := zJ_trans hJ0 hJ34 (zSub_cons (fun _ _ h h' hk => zIR_s (zIR_a (by omega) (by omega))) (zSub_cons (fun _ _ h h' hk => zIR_s (zIR_s (zIR_e (by omega) (by omega) hk))) (zSub_cons (fun _ _ h h' hk => zIR_s (zIR_s (zIR_s (zIR_e (by omega) (by omega) hk)))) zSub_nil)))
            show ZW _ _ _ _ _ _ _ (39, [some (.ref 386), some (.int a0), some (.int a1), none], [], M33)
            refine w_lo dX9_swap_39 rfl rfl rfl rfl ?_
            refine w_gf dX9_swap_40 rfl hJ39.1.1 zs_386 (zr_386_50 hJ39.1) ?_
            refine w_lo dX9_swap_43 rfl rfl rfl rfl ?_
            refine w_iai dX9_swap_44 hJ39.1 zs_419 (by omega) (by omega) zu_419 ?_
            intro x43 f40 h41 h42
            replace hb : zHd _ := hb x43.toInt (ziEk f40 rfl) h41 h42
            refine w_lo (ml' := [some (.ref 386), some (.int a0), some (.int a1), some (.int x43)]) dX9_swap_45 rfl rfl rfl rfl ?_
            refine w_lo dX9_swap_46 rfl rfl rfl rfl ?_
            refine w_gf dX9_swap_47 rfl hJ39.1.1 zs_386 (zr_386_50 hJ39.1) ?_
            refine w_lo dX9_swap_50 rfl rfl rfl rfl ?_
            refine w_lo dX9_swap_51 rfl rfl rfl rfl ?_
            refine w_gf dX9_swap_52 rfl hJ39.1.1 zs_386 (zr_386_50 hJ39.1) ?_
            refine w_lo dX9_swap_55 rfl rfl rfl rfl ?_
            refine w_iai dX9_swap_56 hJ39.1 zs_419 (by omega) (by omega) zu_419 ?_
            intro x47 f44 h45 h46
            replace hb : zHd _ := hb x47.toInt (ziEk f44 rfl) h45 h46
            refine w_isi dX9_swap_57 hJ39 zs_419 (by omega) (by omega) zu_419 (by omega) (by omega) (zIR_s (zIR_a (by omega) (by omega))) ?_
            intro M48 hJ49 f50 hn51
            replace hb : zHd _ := hb (zi M48) (zi_zup hn51 f50 rfl rfl)
            refine w_lo dX9_swap_58 rfl rfl rfl rfl ?_
            refine w_gf dX9_swap_59 rfl hJ49.1.1 zs_386 (zr_386_50 hJ49.1) ?_
            refine w_lo dX9_swap_62 rfl rfl rfl rfl ?_
            refine w_lo dX9_swap_63 rfl rfl rfl rfl ?_
            refine w_isi dX9_swap_64 hJ49 zs_419 (by omega) (by omega) zu_419 (by omega) (by omega) (zIR_s (zIR_a (by omega) (by omega))) ?_
            intro M53 hJ54 f55 hn56
            replace hb : zHd _ := hb (zi M53) (zi_zup hn56 f55 rfl rfl)
            refine w_ic dX9_swap_65 zi_1 ?_
            refine w_en dX9_swap_66 rfl ?_
            exact ⟨_, _, rfl, (by have := zt_1; omega), (by have := zt_1; omega), hJ54, hb⟩
          · skip
            replace hb : zHd _ := hb.2 h32
            refine w_cne_f dX9_swap_18 (t := 35) rfl (by omega) ?_
            refine w_lo dX9_swap_21 rfl rfl rfl rfl ?_
            refine w_ic dX9_swap_22 zi_3 ?_
            refine w_iv dX9_swap_23 rfl rfl (As := [.int 3]) rfl rfl hJ0.1.1 zs_386 (Nat.le_of_ble_eq_true rfl) ?_
            refine ZV.imp (k_2306 3 (by have := zt_3; omega) (by have := zt_3; omega) hN hJ0.1) ?_
            rintro _ ⟨x61, M58, rfl, h62, h63, hJ59, hq60⟩
            replace hb : zHd _ := hb x61.toInt h62 h63 (zi M58) (zi_fr hJ59.2)
            have hJ65 := zJ_trans hJ0 hJ59 (zSub_cons (fun _ _ h h' hk => zIR_a (by omega) (by omega)) zSub_nil)
            show ZW _ _ _ _ _ _ _ (26, [some (.ref 386), some (.int a0), some (.int a1), none], [.int x61], M58)
            refine w_ilt_t dX9_swap_26 (t := 33) rfl (by omega) ?_
            refine w_ic dX9_swap_33 zi_0 ?_
            refine w_en dX9_swap_34 rfl ?_
            exact ⟨_, _, rfl, (by have := zt_0; omega), (by have := zt_0; omega), hJ65, hb⟩
        · skip
          replace hb : zHd _ := hb.2 h31
          refine w_cge_t dX9_isBoy_14 (t := 21) rfl (by omega) ?_
          refine w_ic dX9_isBoy_21 zi_0 ?_
          refine w_en dX9_isBoy_22 rfl ?_
          show ZW _ _ _ _ _ _ _ (13, [some (.ref 386), some (.int a0), some (.int a1), none], [.int 0], M0)
          refine w_ieq_t dX9_swap_13 (t := 21) rfl (by have := zt_0; omega) ?_
          refine w_lo dX9_swap_21 rfl rfl rfl rfl ?_
          refine w_ic dX9_swap_22 zi_3 ?_
          refine w_iv dX9_swap_23 rfl rfl (As := [.int 3]) rfl rfl hJ0.1.1 zs_386 (Nat.le_of_ble_eq_true rfl) ?_
          refine ZV.imp (k_2306 3 (by have := zt_3; omega) (by have := zt_3; omega) hN hJ0.1) ?_
          rintro _ ⟨x69, M66, rfl, h70, h71, hJ67, hq68⟩
          replace hb : zHd _ := hb x69.toInt h70 h71 (zi M66) (zi_fr hJ67.2)
          have hJ73 := zJ_trans hJ0 hJ67 (zSub_cons (fun _ _ h h' hk => zIR_a (by omega) (by omega)) zSub_nil)
          show ZW _ _ _ _ _ _ _ (26, [some (.ref 386), some (.int a0), some (.int a1), none], [.int x69], M66)
          refine w_ilt_t dX9_swap_26 (t := 33) rfl (by omega) ?_
          refine w_ic dX9_swap_33 zi_0 ?_
          refine w_en dX9_swap_34 rfl ?_
          exact ⟨_, _, rfl, (by have := zt_0; omega), (by have := zt_0; omega), hJ73, hb⟩
    · skip
      replace hb : zHd _ := hb.2 h18
      refine w_cge_t dX9_isBoy_14 (t := 21) rfl (by omega) ?_
      refine w_ic dX9_isBoy_21 zi_0 ?_
      refine w_en dX9_isBoy_22 rfl ?_
      show ZW _ _ _ _ _ _ _ (5, [some (.ref 386), some (.int a0), some (.int a1), none], [.int 0], M0)
      refine w_ieq_t dX9_swap_5 (t := 21) rfl (by have := zt_0; omega) ?_
      refine w_lo dX9_swap_21 rfl rfl rfl rfl ?_
      refine w_ic dX9_swap_22 zi_3 ?_
      refine w_iv dX9_swap_23 rfl rfl (As := [.int 3]) rfl rfl hJ0.1.1 zs_386 (Nat.le_of_ble_eq_true rfl) ?_
      refine ZV.imp (k_2306 3 (by have := zt_3; omega) (by have := zt_3; omega) hN hJ0.1) ?_
      rintro _ ⟨x77, M74, rfl, h78, h79, hJ75, hq76⟩
      replace hb : zHd _ := hb x77.toInt h78 h79 (zi M74) (zi_fr hJ75.2)
      have hJ81 := zJ_trans hJ0 hJ75 (zSub_cons (fun _ _ h h' hk => zIR_a (by omega) (by omega)) zSub_nil)
      show ZW _ _ _ _ _ _ _ (26, [some (.ref 386), some (.int a0), some (.int a1), none], [.int x77], M74)
      refine w_ilt_t dX9_swap_26 (t := 33) rfl (by omega) ?_
      refine w_ic dX9_swap_33 zi_0 ?_
      refine w_en dX9_swap_34 rfl ?_
      exact ⟨_, _, rfl, (by have := zt_0; omega), (by have := zt_0; omega), hJ81, hb⟩
set_option maxRecDepth 100000 in
theorem u_2404 {X : List Int32} {d N : Nat} {M0 : zM} (a0 : Int32) (ha00 : (0 : Int) ≤ a0.toInt) (ha01 : a0.toInt ≤ 11) (a1 : Int32) (ha10 : (0 : Int) ≤ a1.toInt) (ha11 : a1.toInt ≤ 11) (hN : N ≤ 600) (hB0 : zB N M0) {Q : zF → Prop} (hb : b_2404 (zi M0) a0.toInt a1.toInt Q) : ZV X (d + 1) 2404 [.ref 386, .int a0, .int a1] M0 (zRV N [(434, 435, 1000)] M0 (fun M' => Q (zi M'))) := by
  have hJ0 : zJ N [(434, 435, 1000)] M0 M0 := zJ_refl hB0
  refine ZV.of (ini := false) rfl (Nat.le_of_ble_eq_true rfl) (by decide +kernel) ?_
  unfold b_2404 at hb
  replace hb : zHd _ := hb
  show ZW _ _ _ _ _ _ _ (0, [some (.ref 386), some (.int a0), some (.int a1), none], [], M0)
  refine w_lo dX9_changes_0 rfl rfl rfl rfl ?_
  refine w_gf dX9_changes_1 rfl hJ0.1.1 zs_386 (zr_386_69 hJ0.1) ?_
  refine w_lo dX9_changes_4 rfl rfl rfl rfl ?_
  refine w_iai dX9_changes_5 hJ0.1 zs_434 (by omega) (by omega) zu_434 ?_
  intro x4 f1 h2 h3
  replace hb : zHd _ := hb x4.toInt (ziEk f1 rfl) h2 h3
  refine w_lo (ml' := [some (.ref 386), some (.int a0), some (.int a1), some (.int x4)]) dX9_changes_6 rfl rfl rfl rfl ?_
  refine w_lo dX9_changes_7 rfl rfl rfl rfl ?_
  refine w_gf dX9_changes_8 rfl hJ0.1.1 zs_386 (zr_386_69 hJ0.1) ?_
  refine w_lo dX9_changes_11 rfl rfl rfl rfl ?_
  refine w_lo dX9_changes_12 rfl rfl rfl rfl ?_
  refine w_gf dX9_changes_13 rfl hJ0.1.1 zs_386 (zr_386_69 hJ0.1) ?_
  refine w_lo dX9_changes_16 rfl rfl rfl rfl ?_
  refine w_iai dX9_changes_17 hJ0.1 zs_434 (by omega) (by omega) zu_434 ?_
  intro x8 f5 h6 h7
  replace hb : zHd _ := hb x8.toInt (ziEk f5 rfl) h6 h7
  refine w_isi dX9_changes_18 hJ0 zs_434 (by omega) (by omega) zu_434 (by omega) (by omega) (zIR_a (by omega) (by omega)) ?_
  intro M9 hJ10 f11 hn12
  replace hb : zHd _ := hb (zi M9) (zi_zup hn12 f11 rfl rfl)
  refine w_lo dX9_changes_19 rfl rfl rfl rfl ?_
  refine w_gf dX9_changes_20 rfl hJ10.1.1 zs_386 (zr_386_69 hJ10.1) ?_
  refine w_lo dX9_changes_23 rfl rfl rfl rfl ?_
  refine w_lo dX9_changes_24 rfl rfl rfl rfl ?_
  refine w_isi dX9_changes_25 hJ10 zs_434 (by omega) (by omega) zu_434 (by omega) (by omega) (zIR_a (by omega) (by omega)) ?_
  intro M14 hJ15 f16 hn17
  replace hb : zHd _ := hb (zi M14) (zi_zup hn17 f16 rfl rfl)
  refine w_en dX9_changes_26 rfl ?_
  exact ⟨_, rfl, hJ15, hb⟩
set_option maxRecDepth 100000 in
theorem u_2403 {X : List Int32} {d N : Nat} {M0 : zM}  (hN : N ≤ 600) (hB0 : zB N M0) {Q : Int → zF → Prop} (hb : b_2403 (zi M0) Q) : ZV X (d + 2) 2403 [.ref 386] M0 (zRI N [(434, 435, 1000)] M0 (0) (1) (fun v M' => Q v.toInt (zi M'))) := by
  have hJ0 : zJ N [(434, 435, 1000)] M0 M0 := zJ_refl hB0
  refine ZV.of (ini := false) rfl (Nat.le_of_ble_eq_true rfl) (by decide +kernel) ?_
  obtain ⟨I7, I47, I86, hbE, hb7, hb47, hb86⟩ := hb
  replace hbE : zHd _ := hbE
  replace hb7 : zHd _ := hb7
  replace hb47 : zHd _ := hb47
  replace hb86 : zHd _ := hb86
  have main : ∀ n : Nat,
      (∀ (M : zM) (v7_1 : Int32) (o7_2 : Option Value) (o7_3 : Option Value) (o7_4 : Option Value), zJ N [(434, 435, 1000)] M0 M → ((-2 : Int) ≤ v7_1.toInt) → (v7_1.toInt ≤ 10) → I7 n (zi M) v7_1.toInt → ZW X (d + 1) 9 false (some .boolean) cX9_nextRow (zRI N [(434, 435, 1000)] M0 (0) (1) (fun v M' => Q v.toInt (zi M'))) (7, [some (.ref 386), some (.int v7_1), o7_2, o7_3, o7_4], [], M)) ∧
      (∀ (M : zM) (v47_1 : Int32) (v47_2 : Int32) (o47_3 : Option Value) (o47_4 : Option Value), zJ N [(434, 435, 1000)] M0 M → ((0 : Int) ≤ v47_1.toInt) → (v47_1.toInt ≤ 10) → ((-1 : Int) ≤ v47_2.toInt) → (v47_2.toInt ≤ 11) → I47 n (zi M) v47_1.toInt v47_2.toInt → ZW X (d + 1) 9 false (some .boolean) cX9_nextRow (zRI N [(434, 435, 1000)] M0 (0) (1) (fun v M' => Q v.toInt (zi M'))) (47, [some (.ref 386), some (.int v47_1), some (.int v47_2), o47_3, o47_4], [], M)) ∧
      (∀ (M : zM) (u86_1 : Int32) (u86_2 : Int32) (v86_3 : Int32) (v86_4 : Int32), zJ N [(434, 435, 1000)] M0 M → ((1 : Int) ≤ v86_3.toInt) → (v86_3.toInt ≤ 11) → ((-1 : Int) ≤ v86_4.toInt) → (v86_4.toInt ≤ 11) → I86 n (zi M) v86_3.toInt v86_4.toInt → ZW X (d + 1) 9 false (some .boolean) cX9_nextRow (zRI N [(434, 435, 1000)] M0 (0) (1) (fun v M' => Q v.toInt (zi M'))) (86, [some (.ref 386), some (.int u86_1), some (.int u86_2), some (.int v86_3), some (.int v86_4)], [], M)) := by
    intro n
    induction n using Nat.strongRecOn with
    | _ n ih =>
      refine ⟨?_, ?_, ?_⟩
      · intro M v7_1 o7_2 o7_3 o7_4 hJ v7_10 v7_11 hI
        have hb : zHd _ := hb7 n (zi M) v7_1.toInt (zi_fr hJ.2) v7_10 v7_11 hI
        refine w_lo dX9_nextRow_7 rfl rfl rfl rfl ?_
        rcases zcut v7_1.toInt (0 : Int) with h1 | h1
        · skip
          replace hb : zHd _ := hb.1 h1
          refine w_ilt_t dX9_nextRow_8 (t := 34) rfl (by omega) ?_
          refine w_lo dX9_nextRow_34 rfl rfl rfl rfl ?_
          refine w_ige_f dX9_nextRow_35 (t := 40) rfl (by omega) ?_
          refine w_ic dX9_nextRow_38 zi_0 ?_
          refine w_en dX9_nextRow_39 rfl ?_
          exact ⟨_, _, rfl, (by have := zt_0; omega), (by have := zt_0; omega), hJ, hb⟩
        · skip
          replace hb : zHd _ := hb.2 h1
          refine w_ilt_f dX9_nextRow_8 (t := 34) rfl (by omega) ?_
          refine w_lo dX9_nextRow_11 rfl rfl rfl rfl ?_
          refine w_gf dX9_nextRow_12 rfl hJ.1.1 zs_386 (zr_386_69 hJ.1) ?_
          refine w_lo dX9_nextRow_15 rfl rfl rfl rfl ?_
          refine w_iai dX9_nextRow_16 hJ.1 zs_434 (by omega) (by omega) zu_434 ?_
          intro x5 f2 h3 h4
          replace hb : zHd _ := hb x5.toInt (ziEk f2 rfl) h3 h4
          refine w_lo dX9_nextRow_17 rfl rfl rfl rfl ?_
          refine w_gf dX9_nextRow_18 rfl hJ.1.1 zs_386 (zr_386_69 hJ.1) ?_
          refine w_lo dX9_nextRow_21 rfl rfl rfl rfl ?_
          refine w_ic dX9_nextRow_22 zi_1 ?_
          refine w_add dX9_nextRow_23 (by have := zt_1; omega) ?_
          intro x6 h7
          have := zt_1
          replace hb : zHd _ := hb x6.toInt (by have := zt_1; omega)
          refine w_iai dX9_nextRow_24 hJ.1 zs_434 (by omega) (by omega) zu_434 ?_
          intro x11 f8 h9 h10
          replace hb : zHd _ := hb x11.toInt (ziEk f8 rfl) h9 h10
          rcases zcut x11.toInt x5.toInt with h12 | h12
          · skip
            replace hb : zHd _ := hb.1 h12
            refine w_cle_f dX9_nextRow_25 (t := 34) rfl (by omega) ?_
            refine w_inc (kk := 1) dX9_nextRow_28 rfl (m := -1) (by decide) (by omega) ?_
            intro x13 h14
            refine ⟨_, rfl, ?_⟩
            replace hb : zHd _ := hb x13.toInt h14
            show ZW _ _ _ _ _ _ _ (31, [some (.ref 386), some (.int x13), o7_2, o7_3, o7_4], [], M)
            refine w_gt dX9_nextRow_31 (t := 7) rfl ?_
            obtain ⟨m, hm, hI⟩ := hb
            exact (ih m hm).1 M x13 o7_2 o7_3 o7_4 hJ (by omega) (by omega) hI
          · skip
            replace hb : zHd _ := hb.2 h12
            refine w_cle_t dX9_nextRow_25 (t := 34) rfl (by omega) ?_
            refine w_lo dX9_nextRow_34 rfl rfl rfl rfl ?_
            refine w_ige_t dX9_nextRow_35 (t := 40) rfl (by omega) ?_
            refine w_lo dX9_nextRow_40 rfl rfl rfl rfl ?_
            refine w_gfi dX9_nextRow_41 rfl hJ.1 zs_386 (Nat.le_of_ble_eq_true rfl) zo_386_70 ?_
            intro x15 f16 h17 h18
            replace hb : zHd _ := hb x15.toInt (ziE f16) h17 h18
            refine w_ic dX9_nextRow_44 zi_1 ?_
            refine w_sub dX9_nextRow_45 (by have := zt_1; omega) ?_
            intro x19 h20
            have := zt_1
            replace hb : zHd _ := hb x19.toInt (by have := zt_1; omega)
            refine w_lo (ml' := [some (.ref 386), some (.int v7_1), some (.int x19), o7_3, o7_4]) dX9_nextRow_46 rfl rfl rfl rfl ?_
            obtain ⟨m, hm, hI⟩ := hb
            exact (ih m hm).2.1 M v7_1 x19 o7_3 o7_4 hJ (by omega) (by omega) (by omega) (by omega) hI
      · intro M v47_1 v47_2 o47_3 o47_4 hJ v47_10 v47_11 v47_20 v47_21 hI
        have hb : zHd _ := hb47 n (zi M) v47_1.toInt v47_2.toInt (zi_fr hJ.2) v47_10 v47_11 v47_20 v47_21 hI
        refine w_lo dX9_nextRow_47 rfl rfl rfl rfl ?_
        refine w_gf dX9_nextRow_48 rfl hJ.1.1 zs_386 (zr_386_69 hJ.1) ?_
        refine w_lo dX9_nextRow_51 rfl rfl rfl rfl ?_
        have h21 := hb.1
        replace hb : zHd _ := hb.2
        refine w_iai dX9_nextRow_52 hJ.1 zs_434 (by omega) (by omega) zu_434 ?_
        intro x25 f22 h23 h24
        replace hb : zHd _ := hb x25.toInt (ziEk f22 rfl) h23 h24
        refine w_lo dX9_nextRow_53 rfl rfl rfl rfl ?_
        refine w_gf dX9_nextRow_54 rfl hJ.1.1 zs_386 (zr_386_69 hJ.1) ?_
        refine w_lo dX9_nextRow_57 rfl rfl rfl rfl ?_
        refine w_iai dX9_nextRow_58 hJ.1 zs_434 (by omega) (by omega) zu_434 ?_
        intro x29 f26 h27 h28
        replace hb : zHd _ := hb x29.toInt (ziEk f26 rfl) h27 h28
        rcases zcut x25.toInt x29.toInt with h30 | h30
        · skip
          replace hb : zHd _ := hb.1 h30
          refine w_cge_f dX9_nextRow_59 (t := 68) rfl (by omega) ?_
          refine w_inc (kk := 2) dX9_nextRow_62 rfl (m := -1) (by decide) (by omega) ?_
          intro x31 h32
          refine ⟨_, rfl, ?_⟩
          replace hb : zHd _ := hb x31.toInt h32
          show ZW _ _ _ _ _ _ _ (65, [some (.ref 386), some (.int v47_1), some (.int x31), o47_3, o47_4], [], M)
          refine w_gt dX9_nextRow_65 (t := 47) rfl ?_
          obtain ⟨m, hm, hI⟩ := hb
          exact (ih m hm).2.1 M v47_1 x31 o47_3 o47_4 hJ (by omega) (by omega) (by omega) (by omega) hI
        · skip
          replace hb : zHd _ := hb.2 h30
          refine w_cge_t dX9_nextRow_59 (t := 68) rfl (by omega) ?_
          refine w_lo dX9_nextRow_68 rfl rfl rfl rfl ?_
          refine w_lo dX9_nextRow_69 rfl rfl rfl rfl ?_
          refine w_lo dX9_nextRow_70 rfl rfl rfl rfl ?_
          refine w_iv dX9_nextRow_71 rfl rfl (As := [.int v47_1, .int v47_2]) rfl rfl hJ.1.1 zs_386 (Nat.le_of_ble_eq_true rfl) ?_
          obtain ⟨P35, hp36, hb⟩ := hb
          replace hb : zHd _ := hb
          refine ZV.imp (u_2404 v47_1 (by omega) (by omega) v47_2 (by omega) (by omega) hN hJ.1 hp36) ?_
          rintro _ ⟨M33, rfl, hJ34, hq37⟩
          replace hb : zHd _ := hb  (zi M33) (zi_fr hJ34.2) hq37
          have hJ39 := zJ_trans hJ hJ34 (zSub_cons (fun _ _ h h' hk => zIR_a (by omega) (by omega)) zSub_nil)
          show ZW _ _ _ _ _ _ _ (74, [some (.ref 386), some (.int v47_1), some (.int v47_2), o47_3, o47_4], [], M33)
          refine w_lo dX9_nextRow_74 rfl rfl rfl rfl ?_
          refine w_ic dX9_nextRow_75 zi_1 ?_
          refine w_add dX9_nextRow_76 (by have := zt_1; omega) ?_
          intro x40 h41
          have := zt_1
          replace hb : zHd _ := hb x40.toInt (by have := zt_1; omega)
          refine w_lo (ml' := [some (.ref 386), some (.int v47_1), some (.int v47_2), some (.int x40), o47_4]) dX9_nextRow_77 rfl rfl rfl rfl ?_
          refine w_lo dX9_nextRow_78 rfl rfl rfl rfl ?_
          refine w_gfi dX9_nextRow_79 rfl hJ39.1 zs_386 (Nat.le_of_ble_eq_true rfl) zo_386_70 ?_
          intro x42 f43 h44 h45
          replace hb : zHd _ := hb x42.toInt (ziE f43) h44 h45
          refine w_ic dX9_nextRow_82 zi_1 ?_
          refine w_sub dX9_nextRow_83 (by have := zt_1; omega) ?_
          intro x46 h47
          have := zt_1
          replace hb : zHd _ := hb x46.toInt (by have := zt_1; omega)
          refine w_lo (ml' := [some (.ref 386), some (.int v47_1), some (.int v47_2), some (.int x40), some (.int x46)]) dX9_nextRow_84 rfl rfl rfl rfl ?_
          obtain ⟨m, hm, hI⟩ := hb
          exact (ih m hm).2.2 M33 v47_1 v47_2 x40 x46 hJ39 (by omega) (by omega) (by omega) (by omega) hI
      · intro M u86_1 u86_2 v86_3 v86_4 hJ v86_30 v86_31 v86_40 v86_41 hI
        have hb : zHd _ := hb86 n (zi M) v86_3.toInt v86_4.toInt (zi_fr hJ.2) v86_30 v86_31 v86_40 v86_41 hI
        refine w_lo dX9_nextRow_86 rfl rfl rfl rfl ?_
        refine w_lo dX9_nextRow_87 rfl rfl rfl rfl ?_
        rcases zcut v86_3.toInt v86_4.toInt with h48 | h48
        · skip
          replace hb : zHd _ := hb.1 h48
          refine w_cge_f dX9_nextRow_89 (t := 108) rfl (by omega) ?_
          refine w_lo dX9_nextRow_92 rfl rfl rfl rfl ?_
          refine w_lo dX9_nextRow_93 rfl rfl rfl rfl ?_
          refine w_lo dX9_nextRow_94 rfl rfl rfl rfl ?_
          refine w_iv dX9_nextRow_96 rfl rfl (As := [.int v86_3, .int v86_4]) rfl rfl hJ.1.1 zs_386 (Nat.le_of_ble_eq_true rfl) ?_
          obtain ⟨P51, hp52, hb⟩ := hb
          replace hb : zHd _ := hb
          refine ZV.imp (u_2404 v86_3 (by omega) (by omega) v86_4 (by omega) (by omega) hN hJ.1 hp52) ?_
          rintro _ ⟨M49, rfl, hJ50, hq53⟩
          replace hb : zHd _ := hb  (zi M49) (zi_fr hJ50.2) hq53
          have hJ55 := zJ_trans hJ hJ50 (zSub_cons (fun _ _ h h' hk => zIR_a (by omega) (by omega)) zSub_nil)
          show ZW _ _ _ _ _ _ _ (99, [some (.ref 386), some (.int u86_1), some (.int u86_2), some (.int v86_3), some (.int v86_4)], [], M49)
          refine w_inc (kk := 3) dX9_nextRow_99 rfl (m := 1) (by decide) (by omega) ?_
          intro x56 h57
          refine ⟨_, rfl, ?_⟩
          replace hb : zHd _ := hb x56.toInt h57
          show ZW _ _ _ _ _ _ _ (102, [some (.ref 386), some (.int u86_1), some (.int u86_2), some (.int x56), some (.int v86_4)], [], M49)
          refine w_inc (kk := 4) dX9_nextRow_102 rfl (m := -1) (by decide) (by omega) ?_
          intro x58 h59
          refine ⟨_, rfl, ?_⟩
          replace hb : zHd _ := hb x58.toInt h59
          show ZW _ _ _ _ _ _ _ (105, [some (.ref 386), some (.int u86_1), some (.int u86_2), some (.int x56), some (.int x58)], [], M49)
          refine w_gt dX9_nextRow_105 (t := 86) rfl ?_
          obtain ⟨m, hm, hI⟩ := hb
          exact (ih m hm).2.2 M49 u86_1 u86_2 x56 x58 hJ55 (by omega) (by omega) (by omega) (by omega) hI
        · skip
          replace hb : zHd _ := hb.2 h48
          refine w_cge_t dX9_nextRow_89 (t := 108) rfl (by omega) ?_
          refine w_ic dX9_nextRow_108 zi_1 ?_
          refine w_en dX9_nextRow_109 rfl ?_
          exact ⟨_, _, rfl, (by have := zt_1; omega), (by have := zt_1; omega), hJ, hb⟩
  have hb : zHd _ := hbE
  show ZW _ _ _ _ _ _ _ (0, [some (.ref 386), none, none, none, none], [], M0)
  refine w_lo dX9_nextRow_0 rfl rfl rfl rfl ?_
  refine w_gfi dX9_nextRow_1 rfl hJ0.1 zs_386 (Nat.le_of_ble_eq_true rfl) zo_386_70 ?_
  intro x60 f61 h62 h63
  replace hb : zHd _ := hb x60.toInt (ziE f61) h62 h63
  refine w_ic dX9_nextRow_4 zi_2 ?_
  refine w_sub dX9_nextRow_5 (by have := zt_2; omega) ?_
  intro x64 h65
  have := zt_2
  replace hb : zHd _ := hb x64.toInt (by have := zt_2; omega)
  refine w_lo (ml' := [some (.ref 386), some (.int x64), none, none, none]) dX9_nextRow_6 rfl rfl rfl rfl ?_
  obtain ⟨m, hI⟩ := hb
  exact (main m).1 M0 x64 none none none hJ0 (by omega) (by omega) hI
set_option maxRecDepth 100000 in
theorem u_2416 {X : List Int32} {d N : Nat} {M0 : zM} (a0 : Int32) (ha00 : (0 : Int) ≤ a0.toInt) (ha01 : a0.toInt ≤ 11) (hN : N ≤ 600) (hB0 : zB N M0) {Q : Int → zF → Prop} (hb : b_2416 (zi M0) a0.toInt Q) : ZV X (d + 2) 2416 [.ref 386, .int a0] M0 (zRI N [] M0 (-1) (10) (fun v M' => Q v.toInt (zi M'))) := by
  have hJ0 : zJ N [] M0 M0 := zJ_refl hB0
  refine ZV.of (ini := false) rfl (Nat.le_of_ble_eq_true rfl) (by decide +kernel) ?_
  obtain ⟨I2, hbE, hb2⟩ := hb
  replace hbE : zHd _ := hbE
  replace hb2 : zHd _ := hb2
  have main : ∀ n : Nat,
      (∀ (M : zM) (u2_1 : Int32) (v2_2 : Int32), zJ N [] M0 M → ((0 : Int) ≤ v2_2.toInt) → (v2_2.toInt ≤ 11) → I2 n (zi M) v2_2.toInt → ZW X (d + 1) 9 false (some .int) cX9_nextTied (zRI N [] M0 (-1) (10) (fun v M' => Q v.toInt (zi M'))) (2, [some (.ref 386), some (.int u2_1), some (.int v2_2)], [], M)) := by
    intro n
    induction n using Nat.strongRecOn with
    | _ n ih =>
      · intro M u2_1 v2_2 hJ v2_20 v2_21 hI
        have hb : zHd _ := hb2 n (zi M) v2_2.toInt (zi_fr hJ.2) v2_20 v2_21 hI
        refine w_lo dX9_nextTied_2 rfl rfl rfl rfl ?_
        refine w_lo dX9_nextTied_3 rfl rfl rfl rfl ?_
        refine w_iv dX9_nextTied_4 rfl rfl (As := []) rfl rfl hJ.1.1 zs_386 (Nat.le_of_ble_eq_true rfl) ?_
        refine ZV.of (ini := false) rfl (Nat.le_of_ble_eq_true rfl) (by decide +kernel) ?_
        show ZW _ _ _ _ _ _ _ (0, [some (.ref 386)], [], M)
        refine w_lo dX9_many_0 rfl rfl rfl rfl ?_
        refine w_gf dX9_many_1 rfl hJ.1.1 zs_386 (zr_386_13 hJ.1) ?_
        refine w_lo dX9_many_4 rfl rfl rfl rfl ?_
        refine w_gfi dX9_many_5 rfl hJ.1 zs_386 (Nat.le_of_ble_eq_true rfl) zo_386_12 ?_
        intro x1 f2 h3 h4
        replace hb : zHd _ := hb x1.toInt (ziE f2) h3 h4
        refine w_iai dX9_many_8 hJ.1 zs_388 (by omega) (by omega) zu_388 ?_
        intro x8 f5 h6 h7
        replace hb : zHd _ := hb x8.toInt (ziEk f5 rfl) h6 h7
        refine w_eni dX9_many_9 rfl rfl ?_
        show ZW _ _ _ _ _ _ _ (7, [some (.ref 386), some (.int u2_1), some (.int v2_2)], [.int x8, .int v2_2], M)
        refine w_ic dX9_nextTied_7 zi_1 ?_
        refine w_sub dX9_nextTied_8 (by have := zt_1; omega) ?_
        intro x9 h10
        have := zt_1
        replace hb : zHd _ := hb x9.toInt (by have := zt_1; omega)
        rcases zcut v2_2.toInt x9.toInt with h11 | h11
        · skip
          replace hb : zHd _ := hb.1 h11
          refine w_cge_f dX9_nextTied_9 (t := 27) rfl (by omega) ?_
          refine w_lo dX9_nextTied_12 rfl rfl rfl rfl ?_
          refine w_gf dX9_nextTied_13 rfl hJ.1.1 zs_386 (zr_386_60 hJ.1) ?_
          refine w_lo dX9_nextTied_16 rfl rfl rfl rfl ?_
          refine w_iai dX9_nextTied_17 hJ.1 zs_429 (by omega) (by omega) zu_429 ?_
          intro x15 f12 h13 h14
          replace hb : zHd _ := hb x15.toInt (ziEk f12 rfl) h13 h14
          rcases Int.decEq x15.toInt (0 : Int) with h16 | h16
          · skip
            replace hb : zHd _ := hb.1 h16
            refine w_ine_t dX9_nextTied_18 (t := 27) rfl (by omega) ?_
            refine w_lo dX9_nextTied_27 rfl rfl rfl rfl ?_
            refine w_lo dX9_nextTied_28 rfl rfl rfl rfl ?_
            refine w_iv dX9_nextTied_29 rfl rfl (As := []) rfl rfl hJ.1.1 zs_386 (Nat.le_of_ble_eq_true rfl) ?_
            refine ZV.of (ini := false) rfl (Nat.le_of_ble_eq_true rfl) (by decide +kernel) ?_
            show ZW _ _ _ _ _ _ _ (0, [some (.ref 386)], [], M)
            refine w_lo dX9_many_0 rfl rfl rfl rfl ?_
            refine w_gf dX9_many_1 rfl hJ.1.1 zs_386 (zr_386_13 hJ.1) ?_
            refine w_lo dX9_many_4 rfl rfl rfl rfl ?_
            refine w_gf dX9_many_5 rfl hJ.1.1 zs_386 f2 ?_
            refine w_ia dX9_many_8 hJ.1.1 zs_388 (znat (by omega)) f5 ?_
            refine w_eni dX9_many_9 rfl rfl ?_
            show ZW _ _ _ _ _ _ _ (32, [some (.ref 386), some (.int u2_1), some (.int v2_2)], [.int x8, .int v2_2], M)
            refine w_ic dX9_nextTied_32 zi_1 ?_
            refine w_sub dX9_nextTied_33 (by have := zt_1; omega) ?_
            intro x20 h21
            have := zt_1
            replace hb : zHd _ := hb x20.toInt (by have := zt_1; omega)
            rcases zcut v2_2.toInt x20.toInt with h22 | h22
            · skip
              replace hb : zHd _ := hb.1 h22
              refine w_cge_f dX9_nextTied_34 (t := 41) rfl (by omega) ?_
              refine w_lo dX9_nextTied_37 rfl rfl rfl rfl ?_
              refine w_gt dX9_nextTied_38 (t := 42) rfl ?_
              refine w_eni dX9_nextTied_42 rfl rfl ?_
              exact ⟨_, _, rfl, (by omega), (by omega), hJ, hb⟩
            · skip
              replace hb : zHd _ := hb.2 h22
              refine w_cge_t dX9_nextTied_34 (t := 41) rfl (by omega) ?_
              refine w_ic dX9_nextTied_41 zi_m1 ?_
              refine w_en dX9_nextTied_42 rfl ?_
              exact ⟨_, _, rfl, (by have := zt_m1; omega), (by have := zt_m1; omega), hJ, hb⟩
          · skip
            replace hb : zHd _ := hb.2 h16
            refine w_ine_f dX9_nextTied_18 (t := 27) rfl (by omega) ?_
            refine w_inc (kk := 2) dX9_nextTied_21 rfl (m := 1) (by decide) (by omega) ?_
            intro x23 h24
            refine ⟨_, rfl, ?_⟩
            replace hb : zHd _ := hb x23.toInt h24
            show ZW _ _ _ _ _ _ _ (24, [some (.ref 386), some (.int u2_1), some (.int x23)], [], M)
            refine w_gt dX9_nextTied_24 (t := 2) rfl ?_
            obtain ⟨m, hm, hI⟩ := hb
            exact (ih m hm) M u2_1 x23 hJ (by omega) (by omega) hI
        · skip
          replace hb : zHd _ := hb.2 h11
          refine w_cge_t dX9_nextTied_9 (t := 27) rfl (by omega) ?_
          refine w_lo dX9_nextTied_27 rfl rfl rfl rfl ?_
          refine w_lo dX9_nextTied_28 rfl rfl rfl rfl ?_
          refine w_iv dX9_nextTied_29 rfl rfl (As := []) rfl rfl hJ.1.1 zs_386 (Nat.le_of_ble_eq_true rfl) ?_
          refine ZV.of (ini := false) rfl (Nat.le_of_ble_eq_true rfl) (by decide +kernel) ?_
          show ZW _ _ _ _ _ _ _ (0, [some (.ref 386)], [], M)
          refine w_lo dX9_many_0 rfl rfl rfl rfl ?_
          refine w_gf dX9_many_1 rfl hJ.1.1 zs_386 (zr_386_13 hJ.1) ?_
          refine w_lo dX9_many_4 rfl rfl rfl rfl ?_
          refine w_gf dX9_many_5 rfl hJ.1.1 zs_386 f2 ?_
          refine w_ia dX9_many_8 hJ.1.1 zs_388 (znat (by omega)) f5 ?_
          refine w_eni dX9_many_9 rfl rfl ?_
          show ZW _ _ _ _ _ _ _ (32, [some (.ref 386), some (.int u2_1), some (.int v2_2)], [.int x8, .int v2_2], M)
          refine w_ic dX9_nextTied_32 zi_1 ?_
          refine w_sub dX9_nextTied_33 (by have := zt_1; omega) ?_
          intro x28 h29
          have := zt_1
          replace hb : zHd _ := hb x28.toInt (by have := zt_1; omega)
          rcases zcut v2_2.toInt x28.toInt with h30 | h30
          · skip
            replace hb : zHd _ := hb.1 h30
            refine w_cge_f dX9_nextTied_34 (t := 41) rfl (by omega) ?_
            refine w_lo dX9_nextTied_37 rfl rfl rfl rfl ?_
            refine w_gt dX9_nextTied_38 (t := 42) rfl ?_
            refine w_eni dX9_nextTied_42 rfl rfl ?_
            exact ⟨_, _, rfl, (by omega), (by omega), hJ, hb⟩
          · skip
            replace hb : zHd _ := hb.2 h30
            refine w_cge_t dX9_nextTied_34 (t := 41) rfl (by omega) ?_
            refine w_ic dX9_nextTied_41 zi_m1 ?_
            refine w_en dX9_nextTied_42 rfl ?_
            exact ⟨_, _, rfl, (by have := zt_m1; omega), (by have := zt_m1; omega), hJ, hb⟩
  have hb : zHd _ := hbE
  show ZW _ _ _ _ _ _ _ (0, [some (.ref 386), some (.int a0), none], [], M0)
  refine w_lo dX9_nextTied_0 rfl rfl rfl rfl ?_
  refine w_lo (ml' := [some (.ref 386), some (.int a0), some (.int a0)]) dX9_nextTied_1 rfl rfl rfl rfl ?_
  obtain ⟨m, hI⟩ := hb
  exact (main m) M0 a0 a0 hJ0 (by omega) (by omega) hI
set_option maxRecDepth 100000 in
theorem u_2415 {X : List Int32} {d N : Nat} {M0 : zM} (a0 : Int32) (ha00 : (0 : Int) ≤ a0.toInt) (ha01 : a0.toInt ≤ 4) (hN : N ≤ 600) (hB0 : zB N M0) {Q : Int → zF → Prop} (hb : b_2415 (zi M0) a0.toInt Q) : ZV X (d + 3) 2415 [.ref 386, .int a0] M0 (zRI N [(437, 438, 1000)] M0 (0) (1) (fun v M' => Q v.toInt (zi M'))) := by
  have hJ0 : zJ N [(437, 438, 1000)] M0 M0 := zJ_refl hB0
  refine ZV.of (ini := false) rfl (Nat.le_of_ble_eq_true rfl) (by decide +kernel) ?_
  obtain ⟨I4, hbE, hb4⟩ := hb
  replace hbE : zHd _ := hbE
  replace hb4 : zHd _ := hb4
  have main : ∀ n : Nat,
      (∀ (M : zM) (v4_1 : Int32) (v4_2 : Int32) (v4_3 : Int32), zJ N [(437, 438, 1000)] M0 M → ((0 : Int) ≤ v4_1.toInt) → (v4_1.toInt ≤ 4) → ((0 : Int) ≤ v4_2.toInt) → (v4_2.toInt ≤ 11) → ((0 : Int) ≤ v4_3.toInt) → (v4_3.toInt ≤ 4) → I4 n (zi M) v4_1.toInt v4_2.toInt v4_3.toInt → ZW X (d + 2) 9 false (some .boolean) cX9_firstCuts (zRI N [(437, 438, 1000)] M0 (0) (1) (fun v M' => Q v.toInt (zi M'))) (4, [some (.ref 386), some (.int v4_1), some (.int v4_2), some (.int v4_3)], [], M)) := by
    intro n
    induction n using Nat.strongRecOn with
    | _ n ih =>
      · intro M v4_1 v4_2 v4_3 hJ v4_10 v4_11 v4_20 v4_21 v4_30 v4_31 hI
        have hb : zHd _ := hb4 n (zi M) v4_1.toInt v4_2.toInt v4_3.toInt (zi_fr hJ.2) v4_10 v4_11 v4_20 v4_21 v4_30 v4_31 hI
        refine w_lo dX9_firstCuts_4 rfl rfl rfl rfl ?_
        refine w_lo dX9_firstCuts_5 rfl rfl rfl rfl ?_
        rcases zcut v4_3.toInt v4_1.toInt with h1 | h1
        · skip
          replace hb : zHd _ := hb.1 h1
          refine w_cge_f dX9_firstCuts_6 (t := 47) rfl (by omega) ?_
          refine w_lo dX9_firstCuts_9 rfl rfl rfl rfl ?_
          refine w_gf dX9_firstCuts_10 rfl hJ.1.1 zs_386 (zr_386_78 hJ.1) ?_
          refine w_lo dX9_firstCuts_13 rfl rfl rfl rfl ?_
          refine w_lo dX9_firstCuts_14 rfl rfl rfl rfl ?_
          refine w_lo dX9_firstCuts_15 rfl rfl rfl rfl ?_
          refine w_iv dX9_firstCuts_16 rfl rfl (As := [.int v4_2]) rfl rfl hJ.1.1 zs_386 (Nat.le_of_ble_eq_true rfl) ?_
          obtain ⟨P4, hp5, hb⟩ := hb
          replace hb : zHd _ := hb
          refine ZV.imp (u_2416 v4_2 (by omega) (by omega) hN hJ.1 hp5) ?_
          rintro _ ⟨x7, M2, rfl, h8, h9, hJ3, hq6⟩
          replace hb : zHd _ := hb x7.toInt h8 h9 (zi M2) (zi_fr hJ3.2) hq6
          have hJ11 := zJ_trans hJ hJ3 zSub_nil
          show ZW _ _ _ _ _ _ _ (19, [some (.ref 386), some (.int v4_1), some (.int v4_2), some (.int v4_3)], [.int x7, .int v4_3, .ref 437], M2)
          refine w_isi dX9_firstCuts_19 hJ11 zs_437 (by omega) (by omega) zu_437 (by omega) (by omega) (zIR_a (by omega) (by omega)) ?_
          intro M12 hJ13 f14 hn15
          replace hb : zHd _ := hb (zi M12) (zi_zup hn15 f14 rfl rfl)
          refine w_lo dX9_firstCuts_20 rfl rfl rfl rfl ?_
          refine w_gf dX9_firstCuts_21 rfl hJ13.1.1 zs_386 (zr_386_78 hJ13.1) ?_
          refine w_lo dX9_firstCuts_24 rfl rfl rfl rfl ?_
          refine w_ia dX9_firstCuts_25 hJ13.1.1 zs_437 (znat (by omega)) f14 ?_
          refine w_ic dX9_firstCuts_26 zi_m1 ?_
          rcases Int.decEq x7.toInt (-1 : Int) with h20 | h20
          · skip
            replace hb : zHd _ := hb.1 h20
            refine w_cne_t dX9_firstCuts_27 (t := 32) rfl (by have := zt_m1; omega) ?_
            refine w_lo dX9_firstCuts_32 rfl rfl rfl rfl ?_
            refine w_gf dX9_firstCuts_33 rfl hJ13.1.1 zs_386 (zr_386_78 hJ13.1) ?_
            refine w_lo dX9_firstCuts_36 rfl rfl rfl rfl ?_
            refine w_ia dX9_firstCuts_37 hJ13.1.1 zs_437 (znat (by omega)) f14 ?_
            refine w_ic dX9_firstCuts_38 zi_1 ?_
            refine w_add dX9_firstCuts_39 (by have := zt_1; omega) ?_
            intro x24 h25
            have := zt_1
            replace hb : zHd _ := hb x24.toInt (by have := zt_1; omega)
            refine w_lo (ml' := [some (.ref 386), some (.int v4_1), some (.int x24), some (.int v4_3)]) dX9_firstCuts_40 rfl rfl rfl rfl ?_
            refine w_inc (kk := 3) dX9_firstCuts_41 rfl (m := 1) (by decide) (by omega) ?_
            intro x26 h27
            refine ⟨_, rfl, ?_⟩
            replace hb : zHd _ := hb x26.toInt h27
            show ZW _ _ _ _ _ _ _ (44, [some (.ref 386), some (.int v4_1), some (.int x24), some (.int x26)], [], M12)
            refine w_gt dX9_firstCuts_44 (t := 4) rfl ?_
            obtain ⟨m, hm, hI⟩ := hb
            exact (ih m hm) M12 v4_1 x24 x26 hJ13 (by omega) (by omega) (by omega) (by omega) (by omega) (by omega) hI
          · skip
            replace hb : zHd _ := hb.2 h20
            refine w_cne_f dX9_firstCuts_27 (t := 32) rfl (by have := zt_m1; omega) ?_
            refine w_ic dX9_firstCuts_30 zi_0 ?_
            refine w_en dX9_firstCuts_31 rfl ?_
            exact ⟨_, _, rfl, (by have := zt_0; omega), (by have := zt_0; omega), hJ13, hb⟩
        · skip
          replace hb : zHd _ := hb.2 h1
          refine w_cge_t dX9_firstCuts_6 (t := 47) rfl (by omega) ?_
          refine w_ic dX9_firstCuts_47 zi_1 ?_
          refine w_en dX9_firstCuts_48 rfl ?_
          exact ⟨_, _, rfl, (by have := zt_1; omega), (by have := zt_1; omega), hJ, hb⟩
  have hb : zHd _ := hbE
  show ZW _ _ _ _ _ _ _ (0, [some (.ref 386), some (.int a0), none, none], [], M0)
  refine w_ic dX9_firstCuts_0 zi_0 ?_
  refine w_lo (ml' := [some (.ref 386), some (.int a0), some (.int 0), none]) dX9_firstCuts_1 rfl rfl rfl rfl ?_
  refine w_ic dX9_firstCuts_2 zi_0 ?_
  refine w_lo (ml' := [some (.ref 386), some (.int a0), some (.int 0), some (.int 0)]) dX9_firstCuts_3 rfl rfl rfl rfl ?_
  obtain ⟨m, hI⟩ := hb
  exact (main m) M0 a0 0 0 hJ0 (by omega) (by omega) (by have := zt_0; omega) (by have := zt_0; omega) (by have := zt_0; omega) (by have := zt_0; omega) hI
set_option maxRecDepth 100000 in
theorem u_2419 {X : List Int32} {d N : Nat} {M0 : zM} (a0 : Int32) (ha00 : (0 : Int) ≤ a0.toInt) (ha01 : a0.toInt ≤ 4) (hN : N ≤ 600) (hB0 : zB N M0) {Q : Int → zF → Prop} (hb : b_2419 (zi M0) a0.toInt Q) : ZV X (d + 3) 2419 [.ref 386, .int a0] M0 (zRI N [(437, 438, 1000)] M0 (0) (1) (fun v M' => Q v.toInt (zi M'))) := by
  have hJ0 : zJ N [(437, 438, 1000)] M0 M0 := zJ_refl hB0
  refine ZV.of (ini := false) rfl (Nat.le_of_ble_eq_true rfl) (by decide +kernel) ?_
  obtain ⟨I4, I45, hbE, hb4, hb45⟩ := hb
  replace hbE : zHd _ := hbE
  replace hb4 : zHd _ := hb4
  replace hb45 : zHd _ := hb45
  have main : ∀ n : Nat,
      (∀ (M : zM) (v4_1 : Int32) (v4_2 : Int32) (o4_3 : Option Value) (o4_4 : Option Value) (o4_5 : Option Value), zJ N [(437, 438, 1000)] M0 M → ((0 : Int) ≤ v4_1.toInt) → (v4_1.toInt ≤ 4) → ((-1 : Int) ≤ v4_2.toInt) → (v4_2.toInt ≤ 3) → I4 n (zi M) v4_1.toInt v4_2.toInt → ZW X (d + 2) 9 false (some .boolean) cX9_nextCuts (zRI N [(437, 438, 1000)] M0 (0) (1) (fun v M' => Q v.toInt (zi M'))) (4, [some (.ref 386), some (.int v4_1), some (.int v4_2), o4_3, o4_4, o4_5], [], M)) ∧
      (∀ (M : zM) (v45_1 : Int32) (v45_2 : Int32) (u45_3 : Int32) (v45_4 : Int32) (v45_5 : Int32), zJ N [(437, 438, 1000)] M0 M → ((0 : Int) ≤ v45_1.toInt) → (v45_1.toInt ≤ 4) → ((0 : Int) ≤ v45_2.toInt) → (v45_2.toInt ≤ 3) → ((0 : Int) ≤ v45_4.toInt) → (v45_4.toInt ≤ 1) → ((1 : Int) ≤ v45_5.toInt) → (v45_5.toInt ≤ 4) → I45 n (zi M) v45_1.toInt v45_2.toInt v45_4.toInt v45_5.toInt → ZW X (d + 2) 9 false (some .boolean) cX9_nextCuts (zRI N [(437, 438, 1000)] M0 (0) (1) (fun v M' => Q v.toInt (zi M'))) (45, [some (.ref 386), some (.int v45_1), some (.int v45_2), some (.int u45_3), some (.int v45_4), some (.int v45_5)], [], M)) := by
    intro n
    induction n using Nat.strongRecOn with
    | _ n ih =>
      refine ⟨?_, ?_⟩
      · intro M v4_1 v4_2 o4_3 o4_4 o4_5 hJ v4_10 v4_11 v4_20 v4_21 hI
        have hb : zHd _ := hb4 n (zi M) v4_1.toInt v4_2.toInt (zi_fr hJ.2) v4_10 v4_11 v4_20 v4_21 hI
        refine w_lo dX9_nextCuts_4 rfl rfl rfl rfl ?_
        rcases zcut v4_2.toInt (0 : Int) with h1 | h1
        · skip
          replace hb : zHd _ := hb.1 h1
          refine w_ilt_t dX9_nextCuts_5 (t := 115) rfl (by omega) ?_
          refine w_ic dX9_nextCuts_115 zi_0 ?_
          refine w_en dX9_nextCuts_116 rfl ?_
          exact ⟨_, _, rfl, (by have := zt_0; omega), (by have := zt_0; omega), hJ, hb⟩
        · skip
          replace hb : zHd _ := hb.2 h1
          refine w_ilt_f dX9_nextCuts_5 (t := 115) rfl (by omega) ?_
          refine w_lo dX9_nextCuts_8 rfl rfl rfl rfl ?_
          refine w_lo dX9_nextCuts_9 rfl rfl rfl rfl ?_
          refine w_gf dX9_nextCuts_10 rfl hJ.1.1 zs_386 (zr_386_78 hJ.1) ?_
          refine w_lo dX9_nextCuts_13 rfl rfl rfl rfl ?_
          refine w_iai dX9_nextCuts_14 hJ.1 zs_437 (by omega) (by omega) zu_437 ?_
          intro x5 f2 h3 h4
          replace hb : zHd _ := hb x5.toInt (ziEk f2 rfl) h3 h4
          refine w_ic dX9_nextCuts_15 zi_1 ?_
          refine w_add dX9_nextCuts_16 (by have := zt_1; omega) ?_
          intro x6 h7
          have := zt_1
          replace hb : zHd _ := hb x6.toInt (by have := zt_1; omega)
          refine w_iv dX9_nextCuts_17 rfl rfl (As := [.int x6]) rfl rfl hJ.1.1 zs_386 (Nat.le_of_ble_eq_true rfl) ?_
          obtain ⟨P10, hp11, hb⟩ := hb
          replace hb : zHd _ := hb
          refine ZV.imp (u_2416 x6 (by omega) (by omega) hN hJ.1 hp11) ?_
          rintro _ ⟨x13, M8, rfl, h14, h15, hJ9, hq12⟩
          replace hb : zHd _ := hb x13.toInt h14 h15 (zi M8) (zi_fr hJ9.2) hq12
          have hJ17 := zJ_trans hJ hJ9 zSub_nil
          show ZW _ _ _ _ _ _ _ (20, [some (.ref 386), some (.int v4_1), some (.int v4_2), o4_3, o4_4, o4_5], [.int x13], M8)
          refine w_lo (ml' := [some (.ref 386), some (.int v4_1), some (.int v4_2), some (.int x13), o4_4, o4_5]) dX9_nextCuts_20 rfl rfl rfl rfl ?_
          refine w_lo dX9_nextCuts_21 rfl rfl rfl rfl ?_
          refine w_ic dX9_nextCuts_22 zi_m1 ?_
          rcases Int.decEq x13.toInt (-1 : Int) with h18 | h18
          · skip
            replace hb : zHd _ := hb.1 h18
            refine w_ceq_f dX9_nextCuts_23 (t := 30) rfl (by have := zt_m1; omega) ?_
            refine w_ic dX9_nextCuts_26 zi_1 ?_
            refine w_gt dX9_nextCuts_27 (t := 31) rfl ?_
            refine w_lo (ml' := [some (.ref 386), some (.int v4_1), some (.int v4_2), some (.int x13), some (.int 1), o4_5]) dX9_nextCuts_31 rfl rfl rfl rfl ?_
            refine w_lo dX9_nextCuts_33 rfl rfl rfl rfl ?_
            refine w_gf dX9_nextCuts_34 rfl hJ17.1.1 zs_386 (zr_386_78 hJ17.1) ?_
            refine w_lo dX9_nextCuts_37 rfl rfl rfl rfl ?_
            refine w_lo dX9_nextCuts_38 rfl rfl rfl rfl ?_
            refine w_isi dX9_nextCuts_39 hJ17 zs_437 (by omega) (by omega) zu_437 (by omega) (by omega) (zIR_a (by omega) (by omega)) ?_
            intro M19 hJ20 f21 hn22
            replace hb : zHd _ := hb (zi M19) (zi_zup hn22 f21 rfl rfl)
            refine w_lo dX9_nextCuts_40 rfl rfl rfl rfl ?_
            refine w_ic dX9_nextCuts_41 zi_1 ?_
            refine w_add dX9_nextCuts_42 (by have := zt_1; omega) ?_
            intro x24 h25
            have := zt_1
            replace hb : zHd _ := hb x24.toInt (by have := zt_1; omega)
            refine w_lo (ml' := [some (.ref 386), some (.int v4_1), some (.int v4_2), some (.int x13), some (.int 1), some (.int x24)]) dX9_nextCuts_43 rfl rfl rfl rfl ?_
            obtain ⟨m, hm, hI⟩ := hb
            exact (ih m hm).2 M19 v4_1 v4_2 x13 1 x24 hJ20 (by omega) (by omega) (by omega) (by omega) (by have := zt_1; omega) (by have := zt_1; omega) (by omega) (by omega) hI
          · skip
            replace hb : zHd _ := hb.2 h18
            refine w_ceq_t dX9_nextCuts_23 (t := 30) rfl (by have := zt_m1; omega) ?_
            refine w_ic dX9_nextCuts_30 zi_0 ?_
            refine w_lo (ml' := [some (.ref 386), some (.int v4_1), some (.int v4_2), some (.int x13), some (.int 0), o4_5]) dX9_nextCuts_31 rfl rfl rfl rfl ?_
            refine w_lo dX9_nextCuts_33 rfl rfl rfl rfl ?_
            refine w_gf dX9_nextCuts_34 rfl hJ17.1.1 zs_386 (zr_386_78 hJ17.1) ?_
            refine w_lo dX9_nextCuts_37 rfl rfl rfl rfl ?_
            refine w_lo dX9_nextCuts_38 rfl rfl rfl rfl ?_
            refine w_isi dX9_nextCuts_39 hJ17 zs_437 (by omega) (by omega) zu_437 (by omega) (by omega) (zIR_a (by omega) (by omega)) ?_
            intro M26 hJ27 f28 hn29
            replace hb : zHd _ := hb (zi M26) (zi_zup hn29 f28 rfl rfl)
            refine w_lo dX9_nextCuts_40 rfl rfl rfl rfl ?_
            refine w_ic dX9_nextCuts_41 zi_1 ?_
            refine w_add dX9_nextCuts_42 (by have := zt_1; omega) ?_
            intro x31 h32
            have := zt_1
            replace hb : zHd _ := hb x31.toInt (by have := zt_1; omega)
            refine w_lo (ml' := [some (.ref 386), some (.int v4_1), some (.int v4_2), some (.int x13), some (.int 0), some (.int x31)]) dX9_nextCuts_43 rfl rfl rfl rfl ?_
            obtain ⟨m, hm, hI⟩ := hb
            exact (ih m hm).2 M26 v4_1 v4_2 x13 0 x31 hJ27 (by omega) (by omega) (by omega) (by omega) (by have := zt_0; omega) (by have := zt_0; omega) (by omega) (by omega) hI
      · intro M v45_1 v45_2 u45_3 v45_4 v45_5 hJ v45_10 v45_11 v45_20 v45_21 v45_40 v45_41 v45_50 v45_51 hI
        have hb : zHd _ := hb45 n (zi M) v45_1.toInt v45_2.toInt v45_4.toInt v45_5.toInt (zi_fr hJ.2) v45_10 v45_11 v45_20 v45_21 v45_40 v45_41 v45_50 v45_51 hI
        refine w_lo dX9_nextCuts_45 rfl rfl rfl rfl ?_
        refine w_lo dX9_nextCuts_47 rfl rfl rfl rfl ?_
        rcases zcut v45_5.toInt v45_1.toInt with h33 | h33
        · skip
          replace hb : zHd _ := hb.1 h33
          refine w_cge_f dX9_nextCuts_48 (t := 102) rfl (by omega) ?_
          refine w_lo dX9_nextCuts_51 rfl rfl rfl rfl ?_
          rcases Int.decEq v45_4.toInt (0 : Int) with h34 | h34
          · skip
            replace hb : zHd _ := hb.1 h34
            refine w_ieq_f dX9_nextCuts_53 (t := 102) rfl (by omega) ?_
            refine w_lo dX9_nextCuts_56 rfl rfl rfl rfl ?_
            refine w_gf dX9_nextCuts_57 rfl hJ.1.1 zs_386 (zr_386_78 hJ.1) ?_
            refine w_lo dX9_nextCuts_60 rfl rfl rfl rfl ?_
            refine w_lo dX9_nextCuts_62 rfl rfl rfl rfl ?_
            refine w_lo dX9_nextCuts_63 rfl rfl rfl rfl ?_
            refine w_gf dX9_nextCuts_64 rfl hJ.1.1 zs_386 (zr_386_78 hJ.1) ?_
            refine w_lo dX9_nextCuts_67 rfl rfl rfl rfl ?_
            refine w_ic dX9_nextCuts_69 zi_1 ?_
            refine w_sub dX9_nextCuts_70 (by have := zt_1; omega) ?_
            intro x35 h36
            have := zt_1
            replace hb : zHd _ := hb x35.toInt (by have := zt_1; omega)
            refine w_iai dX9_nextCuts_71 hJ.1 zs_437 (by omega) (by omega) zu_437 ?_
            intro x40 f37 h38 h39
            replace hb : zHd _ := hb x40.toInt (ziEk f37 rfl) h38 h39
            refine w_ic dX9_nextCuts_72 zi_1 ?_
            refine w_add dX9_nextCuts_73 (by have := zt_1; omega) ?_
            intro x41 h42
            have := zt_1
            replace hb : zHd _ := hb x41.toInt (by have := zt_1; omega)
            refine w_iv dX9_nextCuts_74 rfl rfl (As := [.int x41]) rfl rfl hJ.1.1 zs_386 (Nat.le_of_ble_eq_true rfl) ?_
            obtain ⟨P45, hp46, hb⟩ := hb
            replace hb : zHd _ := hb
            refine ZV.imp (u_2416 x41 (by omega) (by omega) hN hJ.1 hp46) ?_
            rintro _ ⟨x48, M43, rfl, h49, h50, hJ44, hq47⟩
            replace hb : zHd _ := hb x48.toInt h49 h50 (zi M43) (zi_fr hJ44.2) hq47
            have hJ52 := zJ_trans hJ hJ44 zSub_nil
            show ZW _ _ _ _ _ _ _ (77, [some (.ref 386), some (.int v45_1), some (.int v45_2), some (.int u45_3), some (.int v45_4), some (.int v45_5)], [.int x48, .int v45_5, .ref 437], M43)
            refine w_isi dX9_nextCuts_77 hJ52 zs_437 (by omega) (by omega) zu_437 (by omega) (by omega) (zIR_a (by omega) (by omega)) ?_
            intro M53 hJ54 f55 hn56
            replace hb : zHd _ := hb (zi M53) (zi_zup hn56 f55 rfl rfl)
            refine w_lo dX9_nextCuts_78 rfl rfl rfl rfl ?_
            refine w_gf dX9_nextCuts_79 rfl hJ54.1.1 zs_386 (zr_386_78 hJ54.1) ?_
            refine w_lo dX9_nextCuts_82 rfl rfl rfl rfl ?_
            refine w_ia dX9_nextCuts_84 hJ54.1.1 zs_437 (znat (by omega)) f55 ?_
            refine w_ic dX9_nextCuts_85 zi_m1 ?_
            rcases Int.decEq x48.toInt (-1 : Int) with h61 | h61
            · skip
              replace hb : zHd _ := hb.1 h61
              refine w_ceq_f dX9_nextCuts_86 (t := 93) rfl (by have := zt_m1; omega) ?_
              refine w_ic dX9_nextCuts_89 zi_1 ?_
              refine w_gt dX9_nextCuts_90 (t := 94) rfl ?_
              refine w_lo (ml' := [some (.ref 386), some (.int v45_1), some (.int v45_2), some (.int u45_3), some (.int 1), some (.int v45_5)]) dX9_nextCuts_94 rfl rfl rfl rfl ?_
              refine w_inc (kk := 5) dX9_nextCuts_96 rfl (m := 1) (by decide) (by omega) ?_
              intro x62 h63
              refine ⟨_, rfl, ?_⟩
              replace hb : zHd _ := hb x62.toInt h63
              show ZW _ _ _ _ _ _ _ (99, [some (.ref 386), some (.int v45_1), some (.int v45_2), some (.int u45_3), some (.int 1), some (.int x62)], [], M53)
              refine w_gt dX9_nextCuts_99 (t := 45) rfl ?_
              obtain ⟨m, hm, hI⟩ := hb
              exact (ih m hm).2 M53 v45_1 v45_2 u45_3 1 x62 hJ54 (by omega) (by omega) (by omega) (by omega) (by have := zt_1; omega) (by have := zt_1; omega) (by omega) (by omega) hI
            · skip
              replace hb : zHd _ := hb.2 h61
              refine w_ceq_t dX9_nextCuts_86 (t := 93) rfl (by have := zt_m1; omega) ?_
              refine w_ic dX9_nextCuts_93 zi_0 ?_
              refine w_lo (ml' := [some (.ref 386), some (.int v45_1), some (.int v45_2), some (.int u45_3), some (.int 0), some (.int v45_5)]) dX9_nextCuts_94 rfl rfl rfl rfl ?_
              refine w_inc (kk := 5) dX9_nextCuts_96 rfl (m := 1) (by decide) (by omega) ?_
              intro x64 h65
              refine ⟨_, rfl, ?_⟩
              replace hb : zHd _ := hb x64.toInt h65
              show ZW _ _ _ _ _ _ _ (99, [some (.ref 386), some (.int v45_1), some (.int v45_2), some (.int u45_3), some (.int 0), some (.int x64)], [], M53)
              refine w_gt dX9_nextCuts_99 (t := 45) rfl ?_
              obtain ⟨m, hm, hI⟩ := hb
              exact (ih m hm).2 M53 v45_1 v45_2 u45_3 0 x64 hJ54 (by omega) (by omega) (by omega) (by omega) (by have := zt_0; omega) (by have := zt_0; omega) (by omega) (by omega) hI
          · skip
            replace hb : zHd _ := hb.2 h34
            refine w_ieq_t dX9_nextCuts_53 (t := 102) rfl (by omega) ?_
            refine w_lo dX9_nextCuts_102 rfl rfl rfl rfl ?_
            refine w_ieq_t dX9_nextCuts_104 (t := 109) rfl (by omega) ?_
            refine w_inc (kk := 2) dX9_nextCuts_109 rfl (m := -1) (by decide) (by omega) ?_
            intro x66 h67
            refine ⟨_, rfl, ?_⟩
            replace hb : zHd _ := hb x66.toInt h67
            show ZW _ _ _ _ _ _ _ (112, [some (.ref 386), some (.int v45_1), some (.int x66), some (.int u45_3), some (.int v45_4), some (.int v45_5)], [], M)
            refine w_gt dX9_nextCuts_112 (t := 4) rfl ?_
            obtain ⟨m, hm, hI⟩ := hb
            exact (ih m hm).1 M v45_1 x66 (some (.int u45_3)) (some (.int v45_4)) (some (.int v45_5)) hJ (by omega) (by omega) (by omega) (by omega) hI
        · skip
          replace hb : zHd _ := hb.2 h33
          refine w_cge_t dX9_nextCuts_48 (t := 102) rfl (by omega) ?_
          refine w_lo dX9_nextCuts_102 rfl rfl rfl rfl ?_
          rcases Int.decEq v45_4.toInt (0 : Int) with h68 | h68
          · skip
            replace hb : zHd _ := hb.1 h68
            refine w_ieq_f dX9_nextCuts_104 (t := 109) rfl (by omega) ?_
            refine w_ic dX9_nextCuts_107 zi_1 ?_
            refine w_en dX9_nextCuts_108 rfl ?_
            exact ⟨_, _, rfl, (by have := zt_1; omega), (by have := zt_1; omega), hJ, hb⟩
          · skip
            replace hb : zHd _ := hb.2 h68
            refine w_ieq_t dX9_nextCuts_104 (t := 109) rfl (by omega) ?_
            refine w_inc (kk := 2) dX9_nextCuts_109 rfl (m := -1) (by decide) (by omega) ?_
            intro x69 h70
            refine ⟨_, rfl, ?_⟩
            replace hb : zHd _ := hb x69.toInt h70
            show ZW _ _ _ _ _ _ _ (112, [some (.ref 386), some (.int v45_1), some (.int x69), some (.int u45_3), some (.int v45_4), some (.int v45_5)], [], M)
            refine w_gt dX9_nextCuts_112 (t := 4) rfl ?_
            obtain ⟨m, hm, hI⟩ := hb
            exact (ih m hm).1 M v45_1 x69 (some (.int u45_3)) (some (.int v45_4)) (some (.int v45_5)) hJ (by omega) (by omega) (by omega) (by omega) hI
  have hb : zHd _ := hbE
  show ZW _ _ _ _ _ _ _ (0, [some (.ref 386), some (.int a0), none, none, none, none], [], M0)
  refine w_lo dX9_nextCuts_0 rfl rfl rfl rfl ?_
  refine w_ic dX9_nextCuts_1 zi_1 ?_
  refine w_sub dX9_nextCuts_2 (by have := zt_1; omega) ?_
  intro x71 h72
  have := zt_1
  replace hb : zHd _ := hb x71.toInt (by have := zt_1; omega)
  refine w_lo (ml' := [some (.ref 386), some (.int a0), some (.int x71), none, none, none]) dX9_nextCuts_3 rfl rfl rfl rfl ?_
  obtain ⟨m, hI⟩ := hb
  exact (main m).1 M0 a0 x71 none none none hJ0 (by omega) (by omega) (by omega) (by omega) hI
set_option maxRecDepth 100000 in
theorem u_2414 {X : List Int32} {d N : Nat} {M0 : zM} (a0 : Int32) (a1 : Int32) (hN : N ≤ 600) (hB0 : zB N M0) {Q : Int → zF → Prop} (hb : b_2414 (zi M0) a0.toInt a1.toInt Q) : ZV X (d + 4) 2414 [.ref 386, .int a0, .int a1] M0 (zRI N [(437, 439, 1000)] M0 (-1) (2147483647) (fun v M' => Q v.toInt (zi M'))) := by
  have hJ0 : zJ N [(437, 439, 1000)] M0 M0 := zJ_refl hB0
  refine ZV.of (ini := false) rfl (Nat.le_of_ble_eq_true rfl) (by decide +kernel) ?_
  obtain ⟨I47, I76, hbE, hb47, hb76⟩ := hb
  replace hbE : zHd _ := hbE
  replace hb47 : zHd _ := hb47
  replace hb76 : zHd _ := hb76
  have main : ∀ n : Nat,
      (∀ (M : zM) (v47_1 : Int32) (v47_2 : Int32) (v47_3 : Int32) (v47_4 : Int32) (o47_5 : Option Value) (o47_6 : Option Value), zJ N [(437, 439, 1000)] M0 M → ((0 : Int) ≤ v47_1.toInt) → (v47_1.toInt ≤ 4) → ((-1 : Int) ≤ v47_2.toInt) → (v47_2.toInt ≤ 3) → ((-1 : Int) ≤ v47_3.toInt) → (v47_3.toInt ≤ 2147483647) → ((0 : Int) ≤ v47_4.toInt) → (v47_4.toInt ≤ 1) → I47 n (zi M) v47_1.toInt v47_2.toInt v47_3.toInt v47_4.toInt → ZW X (d + 3) 9 false (some .int) cX9_cut (zRI N [(437, 439, 1000)] M0 (-1) (2147483647) (fun v M' => Q v.toInt (zi M'))) (47, [some (.ref 386), some (.int v47_1), some (.int v47_2), some (.int v47_3), some (.int v47_4), o47_5, o47_6], [], M)) ∧
      (∀ (M : zM) (v76_1 : Int32) (v76_2 : Int32) (v76_3 : Int32) (u76_4 : Int32) (u76_5 : Int32) (v76_6 : Int32), zJ N [(437, 439, 1000)] M0 M → ((0 : Int) ≤ v76_1.toInt) → (v76_1.toInt ≤ 4) → ((-1 : Int) ≤ v76_2.toInt) → (v76_2.toInt ≤ 3) → ((0 : Int) ≤ v76_3.toInt) → (v76_3.toInt ≤ 2147483647) → ((0 : Int) ≤ v76_6.toInt) → (v76_6.toInt ≤ 4) → I76 n (zi M) v76_1.toInt v76_2.toInt v76_3.toInt v76_6.toInt → ZW X (d + 3) 9 false (some .int) cX9_cut (zRI N [(437, 439, 1000)] M0 (-1) (2147483647) (fun v M' => Q v.toInt (zi M'))) (76, [some (.ref 386), some (.int v76_1), some (.int v76_2), some (.int v76_3), some (.int u76_4), some (.int u76_5), some (.int v76_6)], [], M)) := by
    intro n
    induction n using Nat.strongRecOn with
    | _ n ih =>
      refine ⟨?_, ?_⟩
      · intro M v47_1 v47_2 v47_3 v47_4 o47_5 o47_6 hJ v47_10 v47_11 v47_20 v47_21 v47_30 v47_31 v47_40 v47_41 hI
        have hb : zHd _ := hb47 n (zi M) v47_1.toInt v47_2.toInt v47_3.toInt v47_4.toInt (zi_fr hJ.2) v47_10 v47_11 v47_20 v47_21 v47_30 v47_40 v47_41 hI
        refine w_lo dX9_cut_47 rfl rfl rfl rfl ?_
        rcases Int.decEq v47_4.toInt (0 : Int) with h1 | h1
        · skip
          replace hb : zHd _ := hb.1 h1
          refine w_ieq_f dX9_cut_49 (t := 112) rfl (by omega) ?_
          refine w_lo dX9_cut_52 rfl rfl rfl rfl ?_
          refine w_lo dX9_cut_53 rfl rfl rfl rfl ?_
          refine w_iv dX9_cut_54 rfl rfl (As := [.int v47_1]) rfl rfl hJ.1.1 zs_386 (Nat.le_of_ble_eq_true rfl) ?_
          refine ZV.imp (k_2417 v47_1 (by omega) (by omega) hN hJ.1) ?_
          rintro _ ⟨x5, M2, rfl, h6, h7, hJ3, hq4⟩
          replace hb : zHd _ := hb x5.toInt h6 (zi M2) (zi_fr hJ3.2)
          have hJ9 := zJ_trans hJ hJ3 zSub_nil
          show ZW _ _ _ _ _ _ _ (57, [some (.ref 386), some (.int v47_1), some (.int v47_2), some (.int v47_3), some (.int v47_4), o47_5, o47_6], [.int x5], M2)
          refine w_lo (ml' := [some (.ref 386), some (.int v47_1), some (.int v47_2), some (.int v47_3), some (.int v47_4), some (.int x5), o47_6]) dX9_cut_57 rfl rfl rfl rfl ?_
          refine w_lo dX9_cut_59 rfl rfl rfl rfl ?_
          refine w_ic dX9_cut_60 zi_m1 ?_
          rcases Int.decEq v47_3.toInt (-1 : Int) with h10 | h10
          · skip
            replace hb : zHd _ := hb.1 h10
            refine w_ceq_f dX9_cut_61 (t := 70) rfl (by have := zt_m1; omega) ?_
            refine w_lo dX9_cut_64 rfl rfl rfl rfl ?_
            refine w_lo dX9_cut_66 rfl rfl rfl rfl ?_
            rcases zcut x5.toInt v47_3.toInt with h11 | h11
            · skip
              replace hb : zHd _ := hb.1 h11
              refine w_cge_f dX9_cut_67 (t := 102) rfl (by omega) ?_
              refine w_lo dX9_cut_70 rfl rfl rfl rfl ?_
              refine w_lo (ml' := [some (.ref 386), some (.int v47_1), some (.int v47_2), some (.int x5), some (.int v47_4), some (.int x5), o47_6]) dX9_cut_72 rfl rfl rfl rfl ?_
              refine w_ic dX9_cut_73 zi_0 ?_
              refine w_lo (ml' := [some (.ref 386), some (.int v47_1), some (.int v47_2), some (.int x5), some (.int v47_4), some (.int x5), some (.int 0)]) dX9_cut_74 rfl rfl rfl rfl ?_
              obtain ⟨m, hm, hI⟩ := hb
              exact (ih m hm).2 M2 v47_1 v47_2 x5 v47_4 x5 0 hJ9 (by omega) (by omega) (by omega) (by omega) (by omega) (ztop _) (by have := zt_0; omega) (by have := zt_0; omega) hI
            · skip
              replace hb : zHd _ := hb.2 h11
              refine w_cge_t dX9_cut_67 (t := 102) rfl (by omega) ?_
              refine w_lo dX9_cut_102 rfl rfl rfl rfl ?_
              refine w_lo dX9_cut_103 rfl rfl rfl rfl ?_
              refine w_iv dX9_cut_104 rfl rfl (As := [.int v47_1]) rfl rfl hJ9.1.1 zs_386 (Nat.le_of_ble_eq_true rfl) ?_
              obtain ⟨P14, hp15, hb⟩ := hb
              replace hb : zHd _ := hb
              refine ZV.imp (u_2419 v47_1 (by omega) (by omega) hN hJ9.1 hp15) ?_
              rintro _ ⟨x17, M12, rfl, h18, h19, hJ13, hq16⟩
              replace hb : zHd _ := hb x17.toInt h18 h19 (zi M12) (zi_fr hJ13.2) hq16
              have hJ21 := zJ_trans hJ9 hJ13 (zSub_cons (fun _ _ h h' hk => zIR_a (by omega) (by omega)) zSub_nil)
              show ZW _ _ _ _ _ _ _ (107, [some (.ref 386), some (.int v47_1), some (.int v47_2), some (.int v47_3), some (.int v47_4), some (.int x5), o47_6], [.int x17], M12)
              refine w_lo (ml' := [some (.ref 386), some (.int v47_1), some (.int v47_2), some (.int v47_3), some (.int x17), some (.int x5), o47_6]) dX9_cut_107 rfl rfl rfl rfl ?_
              refine w_gt dX9_cut_109 (t := 47) rfl ?_
              obtain ⟨m, hm, hI⟩ := hb
              exact (ih m hm).1 M12 v47_1 v47_2 v47_3 x17 (some (.int x5)) o47_6 hJ21 (by omega) (by omega) (by omega) (by omega) (by omega) (ztop _) (by omega) (by omega) hI
          · skip
            replace hb : zHd _ := hb.2 h10
            refine w_ceq_t dX9_cut_61 (t := 70) rfl (by have := zt_m1; omega) ?_
            refine w_lo dX9_cut_70 rfl rfl rfl rfl ?_
            refine w_lo (ml' := [some (.ref 386), some (.int v47_1), some (.int v47_2), some (.int x5), some (.int v47_4), some (.int x5), o47_6]) dX9_cut_72 rfl rfl rfl rfl ?_
            refine w_ic dX9_cut_73 zi_0 ?_
            refine w_lo (ml' := [some (.ref 386), some (.int v47_1), some (.int v47_2), some (.int x5), some (.int v47_4), some (.int x5), some (.int 0)]) dX9_cut_74 rfl rfl rfl rfl ?_
            obtain ⟨m, hm, hI⟩ := hb
            exact (ih m hm).2 M2 v47_1 v47_2 x5 v47_4 x5 0 hJ9 (by omega) (by omega) (by omega) (by omega) (by omega) (ztop _) (by have := zt_0; omega) (by have := zt_0; omega) hI
        · skip
          replace hb : zHd _ := hb.2 h1
          refine w_ieq_t dX9_cut_49 (t := 112) rfl (by omega) ?_
          refine w_lo dX9_cut_112 rfl rfl rfl rfl ?_
          refine w_ic dX9_cut_113 zi_m1 ?_
          rcases Int.decEq v47_2.toInt (-1 : Int) with h22 | h22
          · skip
            replace hb : zHd _ := hb.1 h22
            refine w_cne_t dX9_cut_114 (t := 121) rfl (by have := zt_m1; omega) ?_
            refine w_lo dX9_cut_121 rfl rfl rfl rfl ?_
            refine w_gf dX9_cut_122 rfl hJ.1.1 zs_386 (zr_386_79 hJ.1) ?_
            refine w_lo dX9_cut_125 rfl rfl rfl rfl ?_
            refine w_iai dX9_cut_126 hJ.1 zs_438 (by omega) (by omega) zu_438 ?_
            intro x26 f23 h24 h25
            replace hb : zHd _ := hb x26.toInt (ziEk f23 rfl) h24 h25
            refine w_eni dX9_cut_127 rfl rfl ?_
            exact ⟨_, _, rfl, (by omega), (ztop _), hJ, hb⟩
          · skip
            replace hb : zHd _ := hb.2 h22
            refine w_cne_f dX9_cut_114 (t := 121) rfl (by have := zt_m1; omega) ?_
            refine w_lo dX9_cut_117 rfl rfl rfl rfl ?_
            refine w_gt dX9_cut_118 (t := 127) rfl ?_
            refine w_eni dX9_cut_127 rfl rfl ?_
            exact ⟨_, _, rfl, (by omega), (ztop _), hJ, hb⟩
      · intro M v76_1 v76_2 v76_3 u76_4 u76_5 v76_6 hJ v76_10 v76_11 v76_20 v76_21 v76_30 v76_31 v76_60 v76_61 hI
        have hb : zHd _ := hb76 n (zi M) v76_1.toInt v76_2.toInt v76_3.toInt v76_6.toInt (zi_fr hJ.2) v76_10 v76_11 v76_20 v76_21 v76_30 v76_60 v76_61 hI
        refine w_lo dX9_cut_76 rfl rfl rfl rfl ?_
        refine w_lo dX9_cut_78 rfl rfl rfl rfl ?_
        rcases zcut v76_6.toInt v76_1.toInt with h27 | h27
        · skip
          replace hb : zHd _ := hb.1 h27
          refine w_cge_f dX9_cut_79 (t := 102) rfl (by omega) ?_
          refine w_lo dX9_cut_82 rfl rfl rfl rfl ?_
          refine w_gf dX9_cut_83 rfl hJ.1.1 zs_386 (zr_386_79 hJ.1) ?_
          refine w_lo dX9_cut_86 rfl rfl rfl rfl ?_
          refine w_lo dX9_cut_88 rfl rfl rfl rfl ?_
          refine w_gf dX9_cut_89 rfl hJ.1.1 zs_386 (zr_386_78 hJ.1) ?_
          refine w_lo dX9_cut_92 rfl rfl rfl rfl ?_
          refine w_iai dX9_cut_94 hJ.1 zs_437 (by omega) (by omega) zu_437 ?_
          intro x31 f28 h29 h30
          replace hb : zHd _ := hb x31.toInt (ziEk f28 rfl) h29 h30
          refine w_isi dX9_cut_95 hJ zs_438 (by omega) (by omega) zu_438 (by omega) (by omega) (zIR_a (by omega) (by omega)) ?_
          intro M32 hJ33 f34 hn35
          replace hb : zHd _ := hb (zi M32) (zi_zup hn35 f34 rfl rfl)
          refine w_inc (kk := 6) dX9_cut_96 rfl (m := 1) (by decide) (by omega) ?_
          intro x37 h38
          refine ⟨_, rfl, ?_⟩
          replace hb : zHd _ := hb x37.toInt h38
          show ZW _ _ _ _ _ _ _ (99, [some (.ref 386), some (.int v76_1), some (.int v76_2), some (.int v76_3), some (.int u76_4), some (.int u76_5), some (.int x37)], [], M32)
          refine w_gt dX9_cut_99 (t := 76) rfl ?_
          obtain ⟨m, hm, hI⟩ := hb
          exact (ih m hm).2 M32 v76_1 v76_2 v76_3 u76_4 u76_5 x37 hJ33 (by omega) (by omega) (by omega) (by omega) (by omega) (ztop _) (by omega) (by omega) hI
        · skip
          replace hb : zHd _ := hb.2 h27
          refine w_cge_t dX9_cut_79 (t := 102) rfl (by omega) ?_
          refine w_lo dX9_cut_102 rfl rfl rfl rfl ?_
          refine w_lo dX9_cut_103 rfl rfl rfl rfl ?_
          refine w_iv dX9_cut_104 rfl rfl (As := [.int v76_1]) rfl rfl hJ.1.1 zs_386 (Nat.le_of_ble_eq_true rfl) ?_
          obtain ⟨P41, hp42, hb⟩ := hb
          replace hb : zHd _ := hb
          refine ZV.imp (u_2419 v76_1 (by omega) (by omega) hN hJ.1 hp42) ?_
          rintro _ ⟨x44, M39, rfl, h45, h46, hJ40, hq43⟩
          replace hb : zHd _ := hb x44.toInt h45 h46 (zi M39) (zi_fr hJ40.2) hq43
          have hJ48 := zJ_trans hJ hJ40 (zSub_cons (fun _ _ h h' hk => zIR_a (by omega) (by omega)) zSub_nil)
          show ZW _ _ _ _ _ _ _ (107, [some (.ref 386), some (.int v76_1), some (.int v76_2), some (.int v76_3), some (.int u76_4), some (.int u76_5), some (.int v76_6)], [.int x44], M39)
          refine w_lo (ml' := [some (.ref 386), some (.int v76_1), some (.int v76_2), some (.int v76_3), some (.int x44), some (.int u76_5), some (.int v76_6)]) dX9_cut_107 rfl rfl rfl rfl ?_
          refine w_gt dX9_cut_109 (t := 47) rfl ?_
          obtain ⟨m, hm, hI⟩ := hb
          exact (ih m hm).1 M39 v76_1 v76_2 v76_3 x44 (some (.int u76_5)) (some (.int v76_6)) hJ48 (by omega) (by omega) (by omega) (by omega) (by omega) (ztop _) (by omega) (by omega) hI
  have hb : zHd _ := hbE
  show ZW _ _ _ _ _ _ _ (0, [some (.ref 386), some (.int a0), some (.int a1), none, none, none, none], [], M0)
  refine w_lo dX9_cut_0 rfl rfl rfl rfl ?_
  refine w_ic dX9_cut_1 zi_0 ?_
  refine w_ic dX9_cut_2 zi_4 ?_
  refine w_ss dX9_cut_3 rfl rfl (As := [.int a0, .int 0, .int 4]) rfl rfl (Nat.le_of_ble_eq_true rfl) ?_
  refine ZV.of (ini := false) rfl (Nat.le_of_ble_eq_true rfl) (by decide +kernel) ?_
  show ZW _ _ _ _ _ _ _ (0, [some (.int a0), some (.int 0), some (.int 4)], [], M0)
  refine w_lo dX9_is_0 rfl rfl rfl rfl ?_
  refine w_lo dX9_is_1 rfl rfl rfl rfl ?_
  rcases zcut a0.toInt (0 : Int) with h49 | h49
  · skip
    replace hb : zHd _ := hb.1 h49
    refine w_clt_t dX9_is_2 (t := 14) rfl (by have := zt_0; omega) ?_
    refine w_ic dX9_is_14 zi_0 ?_
    refine w_en dX9_is_15 rfl ?_
    show ZW _ _ _ _ _ _ _ (6, [some (.ref 386), some (.int a0), some (.int a1), none, none, none, none], [.int 0], M0)
    refine w_ieq_t dX9_cut_6 (t := 40) rfl (by have := zt_0; omega) ?_
    refine w_ic dX9_cut_40 zi_m1 ?_
    refine w_en dX9_cut_41 rfl ?_
    exact ⟨_, _, rfl, (by have := zt_m1; omega), (ztop _), hJ0, hb⟩
  · skip
    replace hb : zHd _ := hb.2 h49
    refine w_clt_f dX9_is_2 (t := 14) rfl (by have := zt_0; omega) ?_
    refine w_lo dX9_is_5 rfl rfl rfl rfl ?_
    refine w_lo dX9_is_6 rfl rfl rfl rfl ?_
    rcases zcut (4 : Int) a0.toInt with h50 | h50
    · skip
      replace hb : zHd _ := hb.1 h50
      refine w_cgt_t dX9_is_7 (t := 14) rfl (by have := zt_4; omega) ?_
      refine w_ic dX9_is_14 zi_0 ?_
      refine w_en dX9_is_15 rfl ?_
      show ZW _ _ _ _ _ _ _ (6, [some (.ref 386), some (.int a0), some (.int a1), none, none, none, none], [.int 0], M0)
      refine w_ieq_t dX9_cut_6 (t := 40) rfl (by have := zt_0; omega) ?_
      refine w_ic dX9_cut_40 zi_m1 ?_
      refine w_en dX9_cut_41 rfl ?_
      exact ⟨_, _, rfl, (by have := zt_m1; omega), (ztop _), hJ0, hb⟩
    · skip
      replace hb : zHd _ := hb.2 h50
      refine w_cgt_f dX9_is_7 (t := 14) rfl (by have := zt_4; omega) ?_
      refine w_ic dX9_is_10 zi_1 ?_
      refine w_gt dX9_is_11 (t := 15) rfl ?_
      refine w_en dX9_is_15 rfl ?_
      show ZW _ _ _ _ _ _ _ (6, [some (.ref 386), some (.int a0), some (.int a1), none, none, none, none], [.int 1], M0)
      refine w_ieq_f dX9_cut_6 (t := 40) rfl (by have := zt_1; omega) ?_
      refine w_lo dX9_cut_9 rfl rfl rfl rfl ?_
      refine w_iv dX9_cut_10 rfl rfl (As := []) rfl rfl hJ0.1.1 zs_386 (Nat.le_of_ble_eq_true rfl) ?_
      refine ZV.of (ini := false) rfl (Nat.le_of_ble_eq_true rfl) (by decide +kernel) ?_
      show ZW _ _ _ _ _ _ _ (0, [some (.ref 386)], [], M0)
      refine w_lo dX9_many_0 rfl rfl rfl rfl ?_
      refine w_gf dX9_many_1 rfl hJ0.1.1 zs_386 (zr_386_13 hJ0.1) ?_
      refine w_lo dX9_many_4 rfl rfl rfl rfl ?_
      refine w_gfi dX9_many_5 rfl hJ0.1 zs_386 (Nat.le_of_ble_eq_true rfl) zo_386_12 ?_
      intro x51 f52 h53 h54
      replace hb : zHd _ := hb x51.toInt (ziE f52) h53 h54
      refine w_iai dX9_many_8 hJ0.1 zs_388 (by omega) (by omega) zu_388 ?_
      intro x58 f55 h56 h57
      replace hb : zHd _ := hb x58.toInt (ziEk f55 rfl) h56 h57
      refine w_eni dX9_many_9 rfl rfl ?_
      show ZW _ _ _ _ _ _ _ (13, [some (.ref 386), some (.int a0), some (.int a1), none, none, none, none], [.int x58], M0)
      rcases Int.decEq x58.toInt (0 : Int) with h59 | h59
      · skip
        replace hb : zHd _ := hb.1 h59
        refine w_ieq_f dX9_cut_13 (t := 40) rfl (by omega) ?_
        refine w_lo dX9_cut_16 rfl rfl rfl rfl ?_
        refine w_ic dX9_cut_17 zi_m1 ?_
        rcases Int.decEq a1.toInt (-1 : Int) with h60 | h60
        · skip
          replace hb : zHd _ := hb.1 h60
          refine w_ceq_f dX9_cut_18 (t := 32) rfl (by have := zt_m1; omega) ?_
          refine w_lo dX9_cut_21 rfl rfl rfl rfl ?_
          refine w_ic dX9_cut_22 zi_0 ?_
          refine w_lo dX9_cut_23 rfl rfl rfl rfl ?_
          refine w_ic dX9_cut_24 zi_1 ?_
          refine w_sub dX9_cut_25 (by have := zt_1; omega) ?_
          intro x61 h62
          have := zt_1
          replace hb : zHd _ := hb x61.toInt (by have := zt_1; omega)
          refine w_ss dX9_cut_26 rfl rfl (As := [.int a1, .int 0, .int x61]) rfl rfl (Nat.le_of_ble_eq_true rfl) ?_
          refine ZV.of (ini := false) rfl (Nat.le_of_ble_eq_true rfl) (by decide +kernel) ?_
          show ZW _ _ _ _ _ _ _ (0, [some (.int a1), some (.int 0), some (.int x61)], [], M0)
          refine w_lo dX9_is_0 rfl rfl rfl rfl ?_
          refine w_lo dX9_is_1 rfl rfl rfl rfl ?_
          rcases zcut a1.toInt (0 : Int) with h63 | h63
          · skip
            replace hb : zHd _ := hb.1 h63
            refine w_clt_t dX9_is_2 (t := 14) rfl (by have := zt_0; omega) ?_
            refine w_ic dX9_is_14 zi_0 ?_
            refine w_en dX9_is_15 rfl ?_
            show ZW _ _ _ _ _ _ _ (29, [some (.ref 386), some (.int a0), some (.int a1), none, none, none, none], [.int 0], M0)
            refine w_ieq_t dX9_cut_29 (t := 40) rfl (by have := zt_0; omega) ?_
            refine w_ic dX9_cut_40 zi_m1 ?_
            refine w_en dX9_cut_41 rfl ?_
            exact ⟨_, _, rfl, (by have := zt_m1; omega), (ztop _), hJ0, hb⟩
          · skip
            replace hb : zHd _ := hb.2 h63
            refine w_clt_f dX9_is_2 (t := 14) rfl (by have := zt_0; omega) ?_
            refine w_lo dX9_is_5 rfl rfl rfl rfl ?_
            refine w_lo dX9_is_6 rfl rfl rfl rfl ?_
            rcases zcut x61.toInt a1.toInt with h64 | h64
            · skip
              replace hb : zHd _ := hb.1 h64
              refine w_cgt_t dX9_is_7 (t := 14) rfl (by omega) ?_
              refine w_ic dX9_is_14 zi_0 ?_
              refine w_en dX9_is_15 rfl ?_
              show ZW _ _ _ _ _ _ _ (29, [some (.ref 386), some (.int a0), some (.int a1), none, none, none, none], [.int 0], M0)
              refine w_ieq_t dX9_cut_29 (t := 40) rfl (by have := zt_0; omega) ?_
              refine w_ic dX9_cut_40 zi_m1 ?_
              refine w_en dX9_cut_41 rfl ?_
              exact ⟨_, _, rfl, (by have := zt_m1; omega), (ztop _), hJ0, hb⟩
            · skip
              replace hb : zHd _ := hb.2 h64
              refine w_cgt_f dX9_is_7 (t := 14) rfl (by omega) ?_
              refine w_ic dX9_is_10 zi_1 ?_
              refine w_gt dX9_is_11 (t := 15) rfl ?_
              refine w_en dX9_is_15 rfl ?_
              show ZW _ _ _ _ _ _ _ (29, [some (.ref 386), some (.int a0), some (.int a1), none, none, none, none], [.int 1], M0)
              refine w_ieq_f dX9_cut_29 (t := 40) rfl (by have := zt_1; omega) ?_
              refine w_lo dX9_cut_32 rfl rfl rfl rfl ?_
              refine w_lo dX9_cut_33 rfl rfl rfl rfl ?_
              refine w_iv dX9_cut_34 rfl rfl (As := [.int a0]) rfl rfl hJ0.1.1 zs_386 (Nat.le_of_ble_eq_true rfl) ?_
              obtain ⟨P67, hp68, hb⟩ := hb
              replace hb : zHd _ := hb
              refine ZV.imp (u_2415 a0 (by omega) (by omega) hN hJ0.1 hp68) ?_
              rintro _ ⟨x70, M65, rfl, h71, h72, hJ66, hq69⟩
              replace hb : zHd _ := hb x70.toInt h71 h72 (zi M65) (zi_fr hJ66.2) hq69
              have hJ74 := zJ_trans hJ0 hJ66 (zSub_cons (fun _ _ h h' hk => zIR_a (by omega) (by omega)) zSub_nil)
              show ZW _ _ _ _ _ _ _ (37, [some (.ref 386), some (.int a0), some (.int a1), none, none, none, none], [.int x70], M65)
              rcases Int.decEq x70.toInt (0 : Int) with h75 | h75
              · skip
                replace hb : zHd _ := hb.1 h75
                refine w_ine_t dX9_cut_37 (t := 42) rfl (by omega) ?_
                refine w_ic dX9_cut_42 zi_m1 ?_
                refine w_lo (ml' := [some (.ref 386), some (.int a0), some (.int a1), some (.int (-1)), none, none, none]) dX9_cut_43 rfl rfl rfl rfl ?_
                refine w_ic dX9_cut_44 zi_1 ?_
                refine w_lo (ml' := [some (.ref 386), some (.int a0), some (.int a1), some (.int (-1)), some (.int 1), none, none]) dX9_cut_45 rfl rfl rfl rfl ?_
                obtain ⟨m, hI⟩ := hb
                exact (main m).1 M65 a0 a1 (-1) 1 none none hJ74 (by omega) (by omega) (by omega) (by omega) (by have := zt_m1; omega) (ztop _) (by have := zt_1; omega) (by have := zt_1; omega) hI
              · skip
                replace hb : zHd _ := hb.2 h75
                refine w_ine_f dX9_cut_37 (t := 42) rfl (by omega) ?_
                refine w_ic dX9_cut_40 zi_m1 ?_
                refine w_en dX9_cut_41 rfl ?_
                exact ⟨_, _, rfl, (by have := zt_m1; omega), (ztop _), hJ74, hb⟩
        · skip
          replace hb : zHd _ := hb.2 h60
          refine w_ceq_t dX9_cut_18 (t := 32) rfl (by have := zt_m1; omega) ?_
          refine w_lo dX9_cut_32 rfl rfl rfl rfl ?_
          refine w_lo dX9_cut_33 rfl rfl rfl rfl ?_
          refine w_iv dX9_cut_34 rfl rfl (As := [.int a0]) rfl rfl hJ0.1.1 zs_386 (Nat.le_of_ble_eq_true rfl) ?_
          obtain ⟨P78, hp79, hb⟩ := hb
          replace hb : zHd _ := hb
          refine ZV.imp (u_2415 a0 (by omega) (by omega) hN hJ0.1 hp79) ?_
          rintro _ ⟨x81, M76, rfl, h82, h83, hJ77, hq80⟩
          replace hb : zHd _ := hb x81.toInt h82 h83 (zi M76) (zi_fr hJ77.2) hq80
          have hJ85 := zJ_trans hJ0 hJ77 (zSub_cons (fun _ _ h h' hk => zIR_a (by omega) (by omega)) zSub_nil)
          show ZW _ _ _ _ _ _ _ (37, [some (.ref 386), some (.int a0), some (.int a1), none, none, none, none], [.int x81], M76)
          rcases Int.decEq x81.toInt (0 : Int) with h86 | h86
          · skip
            replace hb : zHd _ := hb.1 h86
            refine w_ine_t dX9_cut_37 (t := 42) rfl (by omega) ?_
            refine w_ic dX9_cut_42 zi_m1 ?_
            refine w_lo (ml' := [some (.ref 386), some (.int a0), some (.int a1), some (.int (-1)), none, none, none]) dX9_cut_43 rfl rfl rfl rfl ?_
            refine w_ic dX9_cut_44 zi_1 ?_
            refine w_lo (ml' := [some (.ref 386), some (.int a0), some (.int a1), some (.int (-1)), some (.int 1), none, none]) dX9_cut_45 rfl rfl rfl rfl ?_
            obtain ⟨m, hI⟩ := hb
            exact (main m).1 M76 a0 a1 (-1) 1 none none hJ85 (by omega) (by omega) (by omega) (by omega) (by have := zt_m1; omega) (ztop _) (by have := zt_1; omega) (by have := zt_1; omega) hI
          · skip
            replace hb : zHd _ := hb.2 h86
            refine w_ine_f dX9_cut_37 (t := 42) rfl (by omega) ?_
            refine w_ic dX9_cut_40 zi_m1 ?_
            refine w_en dX9_cut_41 rfl ?_
            exact ⟨_, _, rfl, (by have := zt_m1; omega), (ztop _), hJ85, hb⟩
      · skip
        replace hb : zHd _ := hb.2 h59
        refine w_ieq_t dX9_cut_13 (t := 40) rfl (by omega) ?_
        refine w_ic dX9_cut_40 zi_m1 ?_
        refine w_en dX9_cut_41 rfl ?_
        exact ⟨_, _, rfl, (by have := zt_m1; omega), (ztop _), hJ0, hb⟩
set_option maxRecDepth 100000 in
theorem u_2429 {X : List Int32} {d N : Nat} {M0 : zM} (a0 : Int32) (ha00 : (2 : Int) ≤ a0.toInt) (ha01 : a0.toInt ≤ 88) (hN : N ≤ 600) (hB0 : zB N M0) {Q : Int → zF → Prop} (hb : b_2429 (zi M0) a0.toInt Q) : ZV X (d + 2) 2429 [.ref 386, .int a0] M0 (zRI N [] M0 (0) (1) (fun v M' => Q v.toInt (zi M'))) := by
  have hJ0 : zJ N [] M0 M0 := zJ_refl hB0
  refine ZV.of (ini := false) rfl (Nat.le_of_ble_eq_true rfl) (by decide +kernel) ?_
  obtain ⟨I129, I140, I159, I172, hbE, hb129, hb140, hb159, hb172⟩ := hb
  replace hbE : zHd _ := hbE
  replace hb129 : zHd _ := hb129
  replace hb140 : zHd _ := hb140
  replace hb159 : zHd _ := hb159
  replace hb172 : zHd _ := hb172
  have main : ∀ n : Nat,
      (∀ (M : zM) (v129_1 : Int32) (v129_2 : Int32) (v129_3 : Int32) (v129_4 : Int32), zJ N [] M0 M → ((2 : Int) ≤ v129_1.toInt) → (v129_1.toInt ≤ 88) → ((0 : Int) ≤ v129_2.toInt) → (v129_2.toInt ≤ 11) → ((-1 : Int) ≤ v129_3.toInt) → (v129_3.toInt ≤ 5) → ((-1 : Int) ≤ v129_4.toInt) → (v129_4.toInt ≤ 5) → I129 n (zi M) v129_1.toInt v129_2.toInt v129_3.toInt v129_4.toInt → ZW X (d + 1) 9 false (some .boolean) cX9_isBoyOn (zRI N [] M0 (0) (1) (fun v M' => Q v.toInt (zi M'))) (129, [some (.ref 386), some (.int v129_1), some (.int v129_2), some (.int v129_3), some (.int v129_4)], [], M)) ∧
      (∀ (M : zM) (v140_1 : Int32) (v140_2 : Int32) (v140_3 : Int32) (v140_4 : Int32), zJ N [] M0 M → ((2 : Int) ≤ v140_1.toInt) → (v140_1.toInt ≤ 88) → ((0 : Int) ≤ v140_2.toInt) → (v140_2.toInt ≤ 11) → ((-1 : Int) ≤ v140_3.toInt) → (v140_3.toInt ≤ 5) → ((-1 : Int) ≤ v140_4.toInt) → (v140_4.toInt ≤ 5) → I140 n (zi M) v140_1.toInt v140_2.toInt v140_3.toInt v140_4.toInt → ZW X (d + 1) 9 false (some .boolean) cX9_isBoyOn (zRI N [] M0 (0) (1) (fun v M' => Q v.toInt (zi M'))) (140, [some (.ref 386), some (.int v140_1), some (.int v140_2), some (.int v140_3), some (.int v140_4)], [], M)) ∧
      (∀ (M : zM) (v159_1 : Int32) (u159_2 : Int32) (v159_3 : Int32) (v159_4 : Int32), zJ N [] M0 M → ((2 : Int) ≤ v159_1.toInt) → (v159_1.toInt ≤ 88) → ((-1 : Int) ≤ v159_3.toInt) → (v159_3.toInt ≤ 5) → ((-1 : Int) ≤ v159_4.toInt) → (v159_4.toInt ≤ 5) → I159 n (zi M) v159_1.toInt v159_3.toInt v159_4.toInt → ZW X (d + 1) 9 false (some .boolean) cX9_isBoyOn (zRI N [] M0 (0) (1) (fun v M' => Q v.toInt (zi M'))) (159, [some (.ref 386), some (.int v159_1), some (.int u159_2), some (.int v159_3), some (.int v159_4)], [], M)) ∧
      (∀ (M : zM) (v172_1 : Int32) (u172_2 : Int32) (u172_3 : Int32) (u172_4 : Int32), zJ N [] M0 M → ((2 : Int) ≤ v172_1.toInt) → (v172_1.toInt ≤ 88) → I172 n (zi M) v172_1.toInt → ZW X (d + 1) 9 false (some .boolean) cX9_isBoyOn (zRI N [] M0 (0) (1) (fun v M' => Q v.toInt (zi M'))) (172, [some (.ref 386), some (.int v172_1), some (.int u172_2), some (.int u172_3), some (.int u172_4)], [], M)) := by
    intro n
    induction n using Nat.strongRecOn with
    | _ n ih =>
      refine ⟨?_, ?_, ?_, ?_⟩
      · intro M v129_1 v129_2 v129_3 v129_4 hJ v129_10 v129_11 v129_20 v129_21 v129_30 v129_31 v129_40 v129_41 hI
        have hb : zHd _ := hb129 n (zi M) v129_1.toInt v129_2.toInt v129_3.toInt v129_4.toInt (zi_fr hJ.2) v129_10 v129_11 v129_20 v129_21 v129_30 v129_31 v129_40 v129_41 hI
        refine w_lo dX9_isBoyOn_129 rfl rfl rfl rfl ?_
        refine w_ic dX9_isBoyOn_130 zi_m1 ?_
        rcases Int.decEq v129_3.toInt (-1 : Int) with h1 | h1
        · skip
          replace hb : zHd _ := hb.1 h1
          refine w_cne_t dX9_isBoyOn_131 (t := 140) rfl (by have := zt_m1; omega) ?_
          obtain ⟨m, hm, hI⟩ := hb
          exact (ih m hm).2.1 M v129_1 v129_2 v129_3 v129_4 hJ (by omega) (by omega) (by omega) (by omega) (by omega) (by omega) (by omega) (by omega) hI
        · skip
          replace hb : zHd _ := hb.2 h1
          refine w_cne_f dX9_isBoyOn_131 (t := 140) rfl (by have := zt_m1; omega) ?_
          refine w_lo dX9_isBoyOn_134 rfl rfl rfl rfl ?_
          refine w_ic dX9_isBoyOn_136 zi_m1 ?_
          rcases Int.decEq v129_4.toInt (-1 : Int) with h2 | h2
          · skip
            replace hb : zHd _ := hb.1 h2
            refine w_ceq_f dX9_isBoyOn_137 (t := 159) rfl (by have := zt_m1; omega) ?_
            obtain ⟨m, hm, hI⟩ := hb
            exact (ih m hm).2.1 M v129_1 v129_2 v129_3 v129_4 hJ (by omega) (by omega) (by omega) (by omega) (by omega) (by omega) (by omega) (by omega) hI
          · skip
            replace hb : zHd _ := hb.2 h2
            refine w_ceq_t dX9_isBoyOn_137 (t := 159) rfl (by have := zt_m1; omega) ?_
            obtain ⟨m, hm, hI⟩ := hb
            exact (ih m hm).2.2.1 M v129_1 v129_2 v129_3 v129_4 hJ (by omega) (by omega) (by omega) (by omega) (by omega) (by omega) hI
      · intro M v140_1 v140_2 v140_3 v140_4 hJ v140_10 v140_11 v140_20 v140_21 v140_30 v140_31 v140_40 v140_41 hI
        have hb : zHd _ := hb140 n (zi M) v140_1.toInt v140_2.toInt v140_3.toInt v140_4.toInt (zi_fr hJ.2) v140_10 v140_11 v140_20 v140_21 v140_30 v140_31 v140_40 v140_41 hI
        refine w_lo dX9_isBoyOn_140 rfl rfl rfl rfl ?_
        refine w_gf dX9_isBoyOn_141 rfl hJ.1.1 zs_386 (zr_386_0 hJ.1) ?_
        refine w_lo dX9_isBoyOn_144 rfl rfl rfl rfl ?_
        refine w_ic dX9_isBoyOn_145 zi_1 ?_
        refine w_add dX9_isBoyOn_146 (by have := zt_1; omega) ?_
        intro x3 h4
        have := zt_1
        replace hb : zHd _ := hb x3.toInt (by have := zt_1; omega)
        refine w_iai dX9_isBoyOn_147 hJ.1 zs_387 (by omega) (by omega) zu_387 ?_
        intro x8 f5 h6 h7
        replace hb : zHd _ := hb x8.toInt (ziEk f5 rfl) h6 h7
        rcases Int.decEq x8.toInt (0 : Int) with h9 | h9
        · skip
          replace hb : zHd _ := hb.1 h9
          refine w_ieq_f dX9_isBoyOn_148 (t := 170) rfl (by omega) ?_
          refine w_lo dX9_isBoyOn_151 rfl rfl rfl rfl ?_
          refine w_lo dX9_isBoyOn_152 rfl rfl rfl rfl ?_
          refine w_iv dX9_isBoyOn_153 rfl rfl (As := [.int v140_2]) rfl rfl hJ.1.1 zs_386 (Nat.le_of_ble_eq_true rfl) ?_
          refine ZV.of (ini := false) rfl (Nat.le_of_ble_eq_true rfl) (by decide +kernel) ?_
          show ZW _ _ _ _ _ _ _ (0, [some (.ref 386), some (.int v140_2)], [], M)
          refine w_lo dX9_isGhost_0 rfl rfl rfl rfl ?_
          refine w_gf dX9_isGhost_1 rfl hJ.1.1 zs_386 (zr_386_19 hJ.1) ?_
          refine w_bi dX9_isGhost_4 (c := 12) (by decide) ?_
          refine w_lo dX9_isGhost_6 rfl rfl rfl rfl ?_
          refine w_gfi dX9_isGhost_7 rfl hJ.1 zs_386 (Nat.le_of_ble_eq_true rfl) zo_386_12 ?_
          intro x10 f11 h12 h13
          replace hb : zHd _ := hb x10.toInt (ziE f11) h12 h13
          refine w_mulc dX9_isGhost_10 zt_12 (by have := zt_12; omega) ?_
          intro x14 h15
          have := zt_12
          replace hb : zHd _ := hb x14.toInt (by have := zt_12; omega)
          refine w_lo dX9_isGhost_11 rfl rfl rfl rfl ?_
          refine w_add dX9_isGhost_12 (by omega) ?_
          intro x16 h17
          replace hb : zHd _ := hb x16.toInt (by omega)
          refine w_iai dX9_isGhost_13 hJ.1 zs_394 (by omega) (by omega) zu_394 ?_
          intro x21 f18 h19 h20
          replace hb : zHd _ := hb x21.toInt (ziEk f18 rfl) h19 h20
          refine w_ic dX9_isGhost_14 zi_2 ?_
          refine w_and dX9_isGhost_15 (m := 2) zt_2 (by omega) ?_
          intro x22 h23 h24
          replace hb : zHd _ := hb x22.toInt h23 h24
          rcases Int.decEq x22.toInt (0 : Int) with h25 | h25
          · skip
            replace hb : zHd _ := hb.1 h25
            refine w_ieq_f dX9_isGhost_16 (t := 23) rfl (by omega) ?_
            refine w_ic dX9_isGhost_19 zi_1 ?_
            refine w_gt dX9_isGhost_20 (t := 24) rfl ?_
            refine w_en dX9_isGhost_24 rfl ?_
            show ZW _ _ _ _ _ _ _ (156, [some (.ref 386), some (.int v140_1), some (.int v140_2), some (.int v140_3), some (.int v140_4)], [.int 1], M)
            refine w_ine_t dX9_isBoyOn_156 (t := 170) rfl (by have := zt_1; omega) ?_
            refine w_ic dX9_isBoyOn_170 zi_0 ?_
            refine w_en dX9_isBoyOn_171 rfl ?_
            exact ⟨_, _, rfl, (by have := zt_0; omega), (by have := zt_0; omega), hJ, hb⟩
          · skip
            replace hb : zHd _ := hb.2 h25
            refine w_ieq_t dX9_isGhost_16 (t := 23) rfl (by omega) ?_
            refine w_ic dX9_isGhost_23 zi_0 ?_
            refine w_en dX9_isGhost_24 rfl ?_
            show ZW _ _ _ _ _ _ _ (156, [some (.ref 386), some (.int v140_1), some (.int v140_2), some (.int v140_3), some (.int v140_4)], [.int 0], M)
            refine w_ine_f dX9_isBoyOn_156 (t := 170) rfl (by have := zt_0; omega) ?_
            obtain ⟨m, hm, hI⟩ := hb
            exact (ih m hm).2.2.1 M v140_1 v140_2 v140_3 v140_4 hJ (by omega) (by omega) (by omega) (by omega) (by omega) (by omega) hI
        · skip
          replace hb : zHd _ := hb.2 h9
          refine w_ieq_t dX9_isBoyOn_148 (t := 170) rfl (by omega) ?_
          refine w_ic dX9_isBoyOn_170 zi_0 ?_
          refine w_en dX9_isBoyOn_171 rfl ?_
          exact ⟨_, _, rfl, (by have := zt_0; omega), (by have := zt_0; omega), hJ, hb⟩
      · intro M v159_1 u159_2 v159_3 v159_4 hJ v159_10 v159_11 v159_30 v159_31 v159_40 v159_41 hI
        have hb : zHd _ := hb159 n (zi M) v159_1.toInt v159_3.toInt v159_4.toInt (zi_fr hJ.2) v159_10 v159_11 v159_30 v159_31 v159_40 v159_41 hI
        refine w_lo dX9_isBoyOn_159 rfl rfl rfl rfl ?_
        refine w_ic dX9_isBoyOn_160 zi_m1 ?_
        rcases Int.decEq v159_3.toInt (-1 : Int) with h26 | h26
        · skip
          replace hb : zHd _ := hb.1 h26
          refine w_ceq_f dX9_isBoyOn_161 (t := 172) rfl (by have := zt_m1; omega) ?_
          refine w_lo dX9_isBoyOn_164 rfl rfl rfl rfl ?_
          refine w_ic dX9_isBoyOn_166 zi_m1 ?_
          rcases Int.decEq v159_4.toInt (-1 : Int) with h27 | h27
          · skip
            replace hb : zHd _ := hb.1 h27
            refine w_ceq_f dX9_isBoyOn_167 (t := 172) rfl (by have := zt_m1; omega) ?_
            refine w_ic dX9_isBoyOn_170 zi_0 ?_
            refine w_en dX9_isBoyOn_171 rfl ?_
            exact ⟨_, _, rfl, (by have := zt_0; omega), (by have := zt_0; omega), hJ, hb⟩
          · skip
            replace hb : zHd _ := hb.2 h27
            refine w_ceq_t dX9_isBoyOn_167 (t := 172) rfl (by have := zt_m1; omega) ?_
            obtain ⟨m, hm, hI⟩ := hb
            exact (ih m hm).2.2.2 M v159_1 u159_2 v159_3 v159_4 hJ (by omega) (by omega) hI
        · skip
          replace hb : zHd _ := hb.2 h26
          refine w_ceq_t dX9_isBoyOn_161 (t := 172) rfl (by have := zt_m1; omega) ?_
          obtain ⟨m, hm, hI⟩ := hb
          exact (ih m hm).2.2.2 M v159_1 u159_2 v159_3 v159_4 hJ (by omega) (by omega) hI
      · intro M v172_1 u172_2 u172_3 u172_4 hJ v172_10 v172_11 hI
        have hb : zHd _ := hb172 n (zi M) v172_1.toInt (zi_fr hJ.2) v172_10 v172_11 hI
        refine w_lo dX9_isBoyOn_172 rfl rfl rfl rfl ?_
        refine w_gf dX9_isBoyOn_173 rfl hJ.1.1 zs_386 (zr_386_0 hJ.1) ?_
        refine w_lo dX9_isBoyOn_176 rfl rfl rfl rfl ?_
        refine w_ic dX9_isBoyOn_177 zi_5 ?_
        refine w_add dX9_isBoyOn_178 (by have := zt_5; omega) ?_
        intro x28 h29
        have := zt_5
        replace hb : zHd _ := hb x28.toInt (by have := zt_5; omega)
        refine w_iai dX9_isBoyOn_179 hJ.1 zs_387 (by omega) (by omega) zu_387 ?_
        intro x33 f30 h31 h32
        replace hb : zHd _ := hb x33.toInt (ziEk f30 rfl) h31 h32
        refine w_bi dX9_isBoyOn_180 (c := 8) (by decide) ?_
        refine w_puI dX9_isBoyOn_182 rfl rfl ?_
        intro x34
        replace hb : zHd _ := hb x34.toInt 
        refine w_lo dX9_isBoyOn_183 rfl rfl rfl rfl ?_
        refine w_gf dX9_isBoyOn_184 rfl hJ.1.1 zs_386 (zr_386_0 hJ.1) ?_
        refine w_lo dX9_isBoyOn_187 rfl rfl rfl rfl ?_
        refine w_bi dX9_isBoyOn_188 (c := 6) (by decide) ?_
        refine w_add dX9_isBoyOn_190 (by have := zt_6; omega) ?_
        intro x35 h36
        have := zt_6
        replace hb : zHd _ := hb x35.toInt (by have := zt_6; omega)
        refine w_iai dX9_isBoyOn_191 hJ.1 zs_387 (by omega) (by omega) zu_387 ?_
        intro x40 f37 h38 h39
        replace hb : zHd _ := hb x40.toInt (ziEk f37 rfl) h38 h39
        refine w_puI dX9_isBoyOn_192 rfl rfl ?_
        intro x41
        replace hb : zHd _ := hb x41.toInt 
        refine w_si dX9_isBoyOn_193 (c := 9999) (by decide) ?_
        rcases zcut (9999 : Int) x41.toInt with h42 | h42
        · skip
          replace hb : zHd _ := hb.1 h42
          refine w_cgt_t dX9_isBoyOn_196 (t := 203) rfl (by have := zt_9999; omega) ?_
          refine w_ic dX9_isBoyOn_203 zi_0 ?_
          refine w_en dX9_isBoyOn_204 rfl ?_
          exact ⟨_, _, rfl, (by have := zt_0; omega), (by have := zt_0; omega), hJ, hb⟩
        · skip
          replace hb : zHd _ := hb.2 h42
          refine w_cgt_f dX9_isBoyOn_196 (t := 203) rfl (by have := zt_9999; omega) ?_
          refine w_ic dX9_isBoyOn_199 zi_1 ?_
          refine w_gt dX9_isBoyOn_200 (t := 204) rfl ?_
          refine w_en dX9_isBoyOn_204 rfl ?_
          exact ⟨_, _, rfl, (by have := zt_1; omega), (by have := zt_1; omega), hJ, hb⟩
  have hb : zHd _ := hbE
  show ZW _ _ _ _ _ _ _ (0, [some (.ref 386), some (.int a0), none, none, none], [], M0)
  refine w_lo dX9_isBoyOn_0 rfl rfl rfl rfl ?_
  refine w_gf dX9_isBoyOn_1 rfl hJ0.1.1 zs_386 (zr_386_0 hJ0.1) ?_
  refine w_lo dX9_isBoyOn_4 rfl rfl rfl rfl ?_
  refine w_iai dX9_isBoyOn_5 hJ0.1 zs_387 (by omega) (by omega) zu_387 ?_
  intro x46 f43 h44 h45
  replace hb : zHd _ := hb x46.toInt (ziEk f43 rfl) h44 h45
  refine w_lo (ml' := [some (.ref 386), some (.int a0), some (.int x46), none, none]) dX9_isBoyOn_6 rfl rfl rfl rfl ?_
  refine w_lo dX9_isBoyOn_7 rfl rfl rfl rfl ?_
  refine w_gf dX9_isBoyOn_8 rfl hJ0.1.1 zs_386 (zr_386_0 hJ0.1) ?_
  refine w_lo dX9_isBoyOn_11 rfl rfl rfl rfl ?_
  refine w_ic dX9_isBoyOn_12 zi_2 ?_
  refine w_add dX9_isBoyOn_13 (by have := zt_2; omega) ?_
  intro x47 h48
  have := zt_2
  replace hb : zHd _ := hb x47.toInt (by have := zt_2; omega)
  refine w_iai dX9_isBoyOn_14 hJ0.1 zs_387 (by omega) (by omega) zu_387 ?_
  intro x52 f49 h50 h51
  replace hb : zHd _ := hb x52.toInt (ziEk f49 rfl) h50 h51
  refine w_ic dX9_isBoyOn_15 zi_1 ?_
  refine w_sub dX9_isBoyOn_16 (by have := zt_1; omega) ?_
  intro x53 h54
  have := zt_1
  replace hb : zHd _ := hb x53.toInt (by have := zt_1; omega)
  refine w_lo (ml' := [some (.ref 386), some (.int a0), some (.int x46), some (.int x53), none]) dX9_isBoyOn_17 rfl rfl rfl rfl ?_
  refine w_lo dX9_isBoyOn_18 rfl rfl rfl rfl ?_
  refine w_gf dX9_isBoyOn_19 rfl hJ0.1.1 zs_386 (zr_386_0 hJ0.1) ?_
  refine w_lo dX9_isBoyOn_22 rfl rfl rfl rfl ?_
  refine w_ic dX9_isBoyOn_23 zi_4 ?_
  refine w_add dX9_isBoyOn_24 (by have := zt_4; omega) ?_
  intro x55 h56
  have := zt_4
  replace hb : zHd _ := hb x55.toInt (by have := zt_4; omega)
  refine w_iai dX9_isBoyOn_25 hJ0.1 zs_387 (by omega) (by omega) zu_387 ?_
  intro x60 f57 h58 h59
  replace hb : zHd _ := hb x60.toInt (ziEk f57 rfl) h58 h59
  refine w_ic dX9_isBoyOn_26 zi_1 ?_
  refine w_sub dX9_isBoyOn_27 (by have := zt_1; omega) ?_
  intro x61 h62
  have := zt_1
  replace hb : zHd _ := hb x61.toInt (by have := zt_1; omega)
  refine w_lo (ml' := [some (.ref 386), some (.int a0), some (.int x46), some (.int x53), some (.int x61)]) dX9_isBoyOn_28 rfl rfl rfl rfl ?_
  refine w_lo dX9_isBoyOn_30 rfl rfl rfl rfl ?_
  refine w_lo dX9_isBoyOn_31 rfl rfl rfl rfl ?_
  refine w_iv dX9_isBoyOn_32 rfl rfl (As := []) rfl rfl hJ0.1.1 zs_386 (Nat.le_of_ble_eq_true rfl) ?_
  refine ZV.of (ini := false) rfl (Nat.le_of_ble_eq_true rfl) (by decide +kernel) ?_
  show ZW _ _ _ _ _ _ _ (0, [some (.ref 386)], [], M0)
  refine w_lo dX9_many_0 rfl rfl rfl rfl ?_
  refine w_gf dX9_many_1 rfl hJ0.1.1 zs_386 (zr_386_13 hJ0.1) ?_
  refine w_lo dX9_many_4 rfl rfl rfl rfl ?_
  refine w_gfi dX9_many_5 rfl hJ0.1 zs_386 (Nat.le_of_ble_eq_true rfl) zo_386_12 ?_
  intro x63 f64 h65 h66
  replace hb : zHd _ := hb x63.toInt (ziE f64) h65 h66
  refine w_iai dX9_many_8 hJ0.1 zs_388 (by omega) (by omega) zu_388 ?_
  intro x70 f67 h68 h69
  replace hb : zHd _ := hb x70.toInt (ziEk f67 rfl) h68 h69
  refine w_eni dX9_many_9 rfl rfl ?_
  show ZW _ _ _ _ _ _ _ (35, [some (.ref 386), some (.int a0), some (.int x46), some (.int x53), some (.int x61)], [.int x70, .int x46], M0)
  rcases zcut x46.toInt x70.toInt with h71 | h71
  · skip
    replace hb : zHd _ := hb.1 h71
    refine w_cge_f dX9_isBoyOn_35 (t := 77) rfl (by omega) ?_
    refine w_lo dX9_isBoyOn_38 rfl rfl rfl rfl ?_
    refine w_gf dX9_isBoyOn_39 rfl hJ0.1.1 zs_386 (zr_386_0 hJ0.1) ?_
    refine w_lo dX9_isBoyOn_42 rfl rfl rfl rfl ?_
    refine w_ic dX9_isBoyOn_43 zi_1 ?_
    refine w_add dX9_isBoyOn_44 (by have := zt_1; omega) ?_
    intro x72 h73
    have := zt_1
    replace hb : zHd _ := hb x72.toInt (by have := zt_1; omega)
    refine w_iai dX9_isBoyOn_45 hJ0.1 zs_387 (by omega) (by omega) zu_387 ?_
    intro x77 f74 h75 h76
    replace hb : zHd _ := hb x77.toInt (ziEk f74 rfl) h75 h76
    refine w_ic dX9_isBoyOn_46 zi_1 ?_
    rcases zcut (1 : Int) x77.toInt with h78 | h78
    · skip
      replace hb : zHd _ := hb.1 h78
      refine w_cgt_t dX9_isBoyOn_47 (t := 77) rfl (by have := zt_1; omega) ?_
      refine w_ic dX9_isBoyOn_77 zi_0 ?_
      refine w_en dX9_isBoyOn_78 rfl ?_
      exact ⟨_, _, rfl, (by have := zt_0; omega), (by have := zt_0; omega), hJ0, hb⟩
    · skip
      replace hb : zHd _ := hb.2 h78
      refine w_cgt_f dX9_isBoyOn_47 (t := 77) rfl (by have := zt_1; omega) ?_
      refine w_lo dX9_isBoyOn_50 rfl rfl rfl rfl ?_
      refine w_lo dX9_isBoyOn_51 rfl rfl rfl rfl ?_
      refine w_gf dX9_isBoyOn_52 rfl hJ0.1.1 zs_386 (zr_386_21 hJ0.1) ?_
      refine w_lo dX9_isBoyOn_55 rfl rfl rfl rfl ?_
      refine w_gf dX9_isBoyOn_56 rfl hJ0.1.1 zs_386 f64 ?_
      refine w_iai dX9_isBoyOn_59 hJ0.1 zs_396 (by omega) (by omega) zu_396 ?_
      intro x82 f79 h80 h81
      replace hb : zHd _ := hb x82.toInt (ziEk f79 rfl) h80 h81
      rcases zcut x53.toInt x82.toInt with h83 | h83
      · skip
        replace hb : zHd _ := hb.1 h83
        refine w_cge_f dX9_isBoyOn_60 (t := 77) rfl (by omega) ?_
        refine w_lo dX9_isBoyOn_63 rfl rfl rfl rfl ?_
        refine w_lo dX9_isBoyOn_65 rfl rfl rfl rfl ?_
        refine w_gf dX9_isBoyOn_66 rfl hJ0.1.1 zs_386 (zr_386_21 hJ0.1) ?_
        refine w_lo dX9_isBoyOn_69 rfl rfl rfl rfl ?_
        refine w_gf dX9_isBoyOn_70 rfl hJ0.1.1 zs_386 f64 ?_
        refine w_ia dX9_isBoyOn_73 hJ0.1.1 zs_396 (znat (by omega)) f79 ?_
        rcases zcut x61.toInt x82.toInt with h87 | h87
        · skip
          replace hb : zHd _ := hb.1 h87
          refine w_clt_t dX9_isBoyOn_74 (t := 79) rfl (by omega) ?_
          refine w_lo dX9_isBoyOn_79 rfl rfl rfl rfl ?_
          refine w_ic dX9_isBoyOn_80 zi_m1 ?_
          rcases Int.decEq x53.toInt (-1 : Int) with h88 | h88
          · skip
            replace hb : zHd _ := hb.1 h88
            refine w_cne_t dX9_isBoyOn_81 (t := 98) rfl (by have := zt_m1; omega) ?_
            refine w_lo dX9_isBoyOn_98 rfl rfl rfl rfl ?_
            refine w_gf dX9_isBoyOn_99 rfl hJ0.1.1 zs_386 (zr_386_0 hJ0.1) ?_
            refine w_lo dX9_isBoyOn_102 rfl rfl rfl rfl ?_
            refine w_ic dX9_isBoyOn_103 zi_3 ?_
            refine w_add dX9_isBoyOn_104 (by have := zt_3; omega) ?_
            intro x89 h90
            have := zt_3
            replace hb : zHd _ := hb x89.toInt (by have := zt_3; omega)
            refine w_iai dX9_isBoyOn_105 hJ0.1 zs_387 (by omega) (by omega) zu_387 ?_
            intro x94 f91 h92 h93
            replace hb : zHd _ := hb x94.toInt (ziEk f91 rfl) h92 h93
            refine w_ic dX9_isBoyOn_106 zi_1 ?_
            refine w_lo dX9_isBoyOn_107 rfl rfl rfl rfl ?_
            refine w_gf dX9_isBoyOn_108 rfl hJ0.1.1 zs_386 (zr_386_24 hJ0.1) ?_
            refine w_bi dX9_isBoyOn_111 (c := 6) (by decide) ?_
            refine w_lo dX9_isBoyOn_113 rfl rfl rfl rfl ?_
            refine w_gf dX9_isBoyOn_114 rfl hJ0.1.1 zs_386 f64 ?_
            refine w_mulc dX9_isBoyOn_117 zt_6 (by have := zt_6; omega) ?_
            intro x95 h96
            have := zt_6
            replace hb : zHd _ := hb x95.toInt (by have := zt_6; omega)
            refine w_lo dX9_isBoyOn_118 rfl rfl rfl rfl ?_
            refine w_add dX9_isBoyOn_119 (by omega) ?_
            intro x97 h98
            replace hb : zHd _ := hb x97.toInt (by omega)
            refine w_iai dX9_isBoyOn_120 hJ0.1 zs_399 (by omega) (by omega) zu_399 ?_
            intro x102 f99 h100 h101
            replace hb : zHd _ := hb x102.toInt (ziEk f99 rfl)
            refine w_ss dX9_isBoyOn_121 rfl rfl (As := [.int x94, .int 1, .int x102]) rfl rfl (Nat.le_of_ble_eq_true rfl) ?_
            refine ZV.of (ini := false) rfl (Nat.le_of_ble_eq_true rfl) (by decide +kernel) ?_
            show ZW _ _ _ _ _ _ _ (0, [some (.int x94), some (.int 1), some (.int x102)], [], M0)
            refine w_lo dX9_is_0 rfl rfl rfl rfl ?_
            refine w_lo dX9_is_1 rfl rfl rfl rfl ?_
            rcases zcut x94.toInt (1 : Int) with h103 | h103
            · skip
              replace hb : zHd _ := hb.1 h103
              refine w_clt_t dX9_is_2 (t := 14) rfl (by have := zt_1; omega) ?_
              refine w_ic dX9_is_14 zi_0 ?_
              refine w_en dX9_is_15 rfl ?_
              show ZW _ _ _ _ _ _ _ (124, [some (.ref 386), some (.int a0), some (.int x46), some (.int x53), some (.int x61)], [.int 0], M0)
              refine w_ine_f dX9_isBoyOn_124 (t := 129) rfl (by have := zt_0; omega) ?_
              refine w_ic dX9_isBoyOn_127 zi_0 ?_
              refine w_en dX9_isBoyOn_128 rfl ?_
              exact ⟨_, _, rfl, (by have := zt_0; omega), (by have := zt_0; omega), hJ0, hb⟩
            · skip
              replace hb : zHd _ := hb.2 h103
              refine w_clt_f dX9_is_2 (t := 14) rfl (by have := zt_1; omega) ?_
              refine w_lo dX9_is_5 rfl rfl rfl rfl ?_
              refine w_lo dX9_is_6 rfl rfl rfl rfl ?_
              rcases zcut x102.toInt x94.toInt with h104 | h104
              · skip
                replace hb : zHd _ := hb.1 h104
                refine w_cgt_t dX9_is_7 (t := 14) rfl (by omega) ?_
                refine w_ic dX9_is_14 zi_0 ?_
                refine w_en dX9_is_15 rfl ?_
                show ZW _ _ _ _ _ _ _ (124, [some (.ref 386), some (.int a0), some (.int x46), some (.int x53), some (.int x61)], [.int 0], M0)
                refine w_ine_f dX9_isBoyOn_124 (t := 129) rfl (by have := zt_0; omega) ?_
                refine w_ic dX9_isBoyOn_127 zi_0 ?_
                refine w_en dX9_isBoyOn_128 rfl ?_
                exact ⟨_, _, rfl, (by have := zt_0; omega), (by have := zt_0; omega), hJ0, hb⟩
              · skip
                replace hb : zHd _ := hb.2 h104
                refine w_cgt_f dX9_is_7 (t := 14) rfl (by omega) ?_
                refine w_ic dX9_is_10 zi_1 ?_
                refine w_gt dX9_is_11 (t := 15) rfl ?_
                refine w_en dX9_is_15 rfl ?_
                show ZW _ _ _ _ _ _ _ (124, [some (.ref 386), some (.int a0), some (.int x46), some (.int x53), some (.int x61)], [.int 1], M0)
                refine w_ine_t dX9_isBoyOn_124 (t := 129) rfl (by have := zt_1; omega) ?_
                obtain ⟨m, hI⟩ := hb
                exact (main m).1 M0 a0 x46 x53 x61 hJ0 (by omega) (by omega) (by omega) (by omega) (by omega) (by omega) (by omega) (by omega) hI
          · skip
            replace hb : zHd _ := hb.2 h88
            refine w_cne_f dX9_isBoyOn_81 (t := 98) rfl (by have := zt_m1; omega) ?_
            refine w_lo dX9_isBoyOn_84 rfl rfl rfl rfl ?_
            refine w_gf dX9_isBoyOn_85 rfl hJ0.1.1 zs_386 (zr_386_0 hJ0.1) ?_
            refine w_lo dX9_isBoyOn_88 rfl rfl rfl rfl ?_
            refine w_ic dX9_isBoyOn_89 zi_3 ?_
            refine w_add dX9_isBoyOn_90 (by have := zt_3; omega) ?_
            intro x105 h106
            have := zt_3
            replace hb : zHd _ := hb x105.toInt (by have := zt_3; omega)
            refine w_iai dX9_isBoyOn_91 hJ0.1 zs_387 (by omega) (by omega) zu_387 ?_
            intro x110 f107 h108 h109
            replace hb : zHd _ := hb x110.toInt (ziEk f107 rfl) h108 h109
            rcases Int.decEq x110.toInt (0 : Int) with h111 | h111
            · skip
              replace hb : zHd _ := hb.1 h111
              refine w_ieq_f dX9_isBoyOn_92 (t := 129) rfl (by omega) ?_
              refine w_gt dX9_isBoyOn_95 (t := 127) rfl ?_
              refine w_ic dX9_isBoyOn_127 zi_0 ?_
              refine w_en dX9_isBoyOn_128 rfl ?_
              exact ⟨_, _, rfl, (by have := zt_0; omega), (by have := zt_0; omega), hJ0, hb⟩
            · skip
              replace hb : zHd _ := hb.2 h111
              refine w_ieq_t dX9_isBoyOn_92 (t := 129) rfl (by omega) ?_
              obtain ⟨m, hI⟩ := hb
              exact (main m).1 M0 a0 x46 x53 x61 hJ0 (by omega) (by omega) (by omega) (by omega) (by omega) (by omega) (by omega) (by omega) hI
        · skip
          replace hb : zHd _ := hb.2 h87
          refine w_clt_f dX9_isBoyOn_74 (t := 79) rfl (by omega) ?_
          refine w_ic dX9_isBoyOn_77 zi_0 ?_
          refine w_en dX9_isBoyOn_78 rfl ?_
          exact ⟨_, _, rfl, (by have := zt_0; omega), (by have := zt_0; omega), hJ0, hb⟩
      · skip
        replace hb : zHd _ := hb.2 h83
        refine w_cge_t dX9_isBoyOn_60 (t := 77) rfl (by omega) ?_
        refine w_ic dX9_isBoyOn_77 zi_0 ?_
        refine w_en dX9_isBoyOn_78 rfl ?_
        exact ⟨_, _, rfl, (by have := zt_0; omega), (by have := zt_0; omega), hJ0, hb⟩
  · skip
    replace hb : zHd _ := hb.2 h71
    refine w_cge_t dX9_isBoyOn_35 (t := 77) rfl (by omega) ?_
    refine w_ic dX9_isBoyOn_77 zi_0 ?_
    refine w_en dX9_isBoyOn_78 rfl ?_
    exact ⟨_, _, rfl, (by have := zt_0; omega), (by have := zt_0; omega), hJ0, hb⟩
