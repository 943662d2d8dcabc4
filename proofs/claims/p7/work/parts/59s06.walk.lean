/-! walks by pure conditions (wip/safe/vcp.py) -/
set_option maxRecDepth 100000 in
theorem u_2389 {X : List Int32} {d N : Nat} {M0 : zM}  (hN : N ≤ 600) (hB0 : zB N M0) {Q : Int → zF → Prop} (hb : b_2389 (zi M0) Q) : ZV X (d + 2) 2389 [.ref 386] M0 (zRI N [(386, 387, 66)] M0 (0) (5) (fun v M' => Q v.toInt (zi M'))) := by
  have hJ0 : zJ N [(386, 387, 66)] M0 M0 := zJ_refl hB0
  refine ZV.of (ini := false) rfl (Nat.le_of_ble_eq_true rfl) (by decide +kernel) ?_
  obtain ⟨I11, hbE, hb11⟩ := hb
  replace hbE : zHd _ := hbE
  replace hb11 : zHd _ := hb11
  have main : ∀ n : Nat,
      (∀ (M : zM) (v11_1 : Int32) (v11_2 : Int32), zJ N [(386, 387, 66)] M0 M → ((-2147483648 : Int) ≤ v11_1.toInt) → (v11_1.toInt ≤ 2147483647) → ((0 : Int) ≤ v11_2.toInt) → (v11_2.toInt ≤ 2147483647) → I11 n (zi M) v11_1.toInt v11_2.toInt → ZW X (d + 1) 9 false (some .int) cX9_drawn (zRI N [(386, 387, 66)] M0 (0) (5) (fun v M' => Q v.toInt (zi M'))) (11, [some (.ref 386), some (.int v11_1), some (.int v11_2)], [], M)) := by
    intro n
    induction n using Nat.strongRecOn with
    | _ n ih =>
      · intro M v11_1 v11_2 hJ v11_10 v11_11 v11_20 v11_21 hI
        have hb : zHd _ := hb11 n (zi M) v11_1.toInt v11_2.toInt (zi_fr hJ.2) v11_20 hI
        refine w_lo dX9_drawn_11 rfl rfl rfl rfl ?_
        refine w_lo dX9_drawn_12 rfl rfl rfl rfl ?_
        refine w_gf dX9_drawn_13 rfl hJ.1.1 zs_386 (zr_386_26 hJ.1) ?_
        refine w_bi dX9_drawn_16 (c := 6) (by decide) ?_
        refine w_lo dX9_drawn_18 rfl rfl rfl rfl ?_
        refine w_gfi dX9_drawn_19 rfl hJ.1 zs_386 (Nat.le_of_ble_eq_true rfl) zo_386_12 ?_
        intro x1 f2 h3 h4
        replace hb : zHd _ := hb x1.toInt (ziE f2) h3 h4
        refine w_mulc dX9_drawn_22 zt_6 (by have := zt_6; omega) ?_
        intro x5 h6
        have := zt_6
        replace hb : zHd _ := hb x5.toInt (by have := zt_6; omega)
        refine w_lo dX9_drawn_23 rfl rfl rfl rfl ?_
        have h7 := hb.1
        replace hb : zHd _ := hb.2
        refine w_add dX9_drawn_24 (by omega) ?_
        intro x8 h9
        replace hb : zHd _ := hb x8.toInt (by omega)
        have h10 := hb.1
        replace hb : zHd _ := hb.2
        refine w_iai dX9_drawn_25 hJ.1 zs_401 (by omega) (by omega) zu_401 ?_
        intro x14 f11 h12 h13
        replace hb : zHd _ := hb x14.toInt (ziEk f11 rfl)
        rcases zcut v11_1.toInt x14.toInt with h15 | h15
        · skip
          replace hb : zHd _ := hb.1 h15
          refine w_clt_t dX9_drawn_26 (t := 52) rfl (by omega) ?_
          refine w_lo dX9_drawn_52 rfl rfl rfl rfl ?_
          refine w_eni dX9_drawn_53 rfl rfl ?_
          have h16 := hb.1
          replace hb : zHd _ := hb.2
          exact ⟨_, _, rfl, (by omega), (by omega), hJ, hb⟩
        · skip
          replace hb : zHd _ := hb.2 h15
          refine w_clt_f dX9_drawn_26 (t := 52) rfl (by omega) ?_
          refine w_lo dX9_drawn_29 rfl rfl rfl rfl ?_
          refine w_lo dX9_drawn_30 rfl rfl rfl rfl ?_
          refine w_gf dX9_drawn_31 rfl hJ.1.1 zs_386 (zr_386_26 hJ.1) ?_
          refine w_bi dX9_drawn_34 (c := 6) (by decide) ?_
          refine w_lo dX9_drawn_36 rfl rfl rfl rfl ?_
          refine w_gf dX9_drawn_37 rfl hJ.1.1 zs_386 f2 ?_
          refine w_mulc dX9_drawn_40 zt_6 (by have := zt_6; omega) ?_
          intro x17 h18
          have := zt_6
          replace hb : zHd _ := hb x17.toInt (by have := zt_6; omega)
          refine w_lo dX9_drawn_41 rfl rfl rfl rfl ?_
          have h19 := hb.1
          replace hb : zHd _ := hb.2
          refine w_add dX9_drawn_42 (by omega) ?_
          intro x20 h21
          replace hb : zHd _ := hb x20.toInt (by omega)
          have h22 := hb.1
          replace hb : zHd _ := hb.2
          refine w_iai dX9_drawn_43 hJ.1 zs_401 (by omega) (by omega) zu_401 ?_
          intro x26 f23 h24 h25
          replace hb : zHd _ := hb x26.toInt (ziEk f23 rfl)
          have h27 := hb.1
          replace hb : zHd _ := hb.2
          refine w_sub dX9_drawn_44 (by omega) ?_
          intro x28 h29
          replace hb : zHd _ := hb x28.toInt (by omega)
          refine w_lo (ml' := [some (.ref 386), some (.int x28), some (.int v11_2)]) dX9_drawn_45 rfl rfl rfl rfl ?_
          have h30 := hb.1
          replace hb : zHd _ := hb.2
          refine w_inc (kk := 2) dX9_drawn_46 rfl (m := 1) (by decide) (by omega) ?_
          intro x31 h32
          refine ⟨_, rfl, ?_⟩
          replace hb : zHd _ := hb x31.toInt h32
          show ZW _ _ _ _ _ _ _ (49, [some (.ref 386), some (.int x28), some (.int x31)], [], M)
          refine w_gt dX9_drawn_49 (t := 11) rfl ?_
          obtain ⟨m, hm, hI⟩ := hb
          exact (ih m hm) M x28 x31 hJ (zbot _) (ztop _) (by omega) (ztop _) hI
  have hb : zHd _ := hbE
  show ZW _ _ _ _ _ _ _ (0, [some (.ref 386), none, none], [], M0)
  refine w_lo dX9_drawn_0 rfl rfl rfl rfl ?_
  refine w_lo dX9_drawn_1 rfl rfl rfl rfl ?_
  refine w_iv dX9_drawn_2 rfl rfl (As := []) rfl rfl hJ0.1.1 zs_386 (Nat.le_of_ble_eq_true rfl) ?_
  obtain ⟨P35, hp36, hb⟩ := hb
  replace hb : zHd _ := hb
  refine ZV.imp (u_2390 hN hJ0.1 hp36) ?_
  rintro _ ⟨x38, M33, rfl, h39, h40, hJ34, hq37⟩
  replace hb : zHd _ := hb x38.toInt  (zi M33) (zi_fr hJ34.2) hq37
  have hJ42 := zJ_trans hJ0 hJ34 zSub_nil
  show ZW _ _ _ _ _ _ _ (5, [some (.ref 386), none, none], [.int x38, .ref 386], M33)
  have h43 := hb.1
  replace hb : zHd _ := hb.2
  refine w_iv dX9_drawn_5 rfl rfl (As := [.int x38]) rfl rfl hJ42.1.1 zs_386 (Nat.le_of_ble_eq_true rfl) ?_
  refine ZV.imp (k_2388 x38 (by omega) (ztop _) hN hJ42.1) ?_
  rintro _ ⟨x47, M44, rfl, h48, h49, hJ45, hq46⟩
  replace hb : zHd _ := hb x47.toInt h48 (zi M44) (zi_fr hJ45.2)
  have hJ51 := zJ_trans hJ42 hJ45 (zSub_cons (fun _ _ h h' hk => zIR_e (by omega) (by omega) hk) zSub_nil)
  obtain ⟨h52, -⟩ := hq46
  replace hb : zHd _ := hb h52
  show ZW _ _ _ _ _ _ _ (8, [some (.ref 386), none, none], [.int x47], M44)
  refine w_lo (ml' := [some (.ref 386), some (.int x47), none]) dX9_drawn_8 rfl rfl rfl rfl ?_
  refine w_ic dX9_drawn_9 zi_0 ?_
  refine w_lo (ml' := [some (.ref 386), some (.int x47), some (.int 0)]) dX9_drawn_10 rfl rfl rfl rfl ?_
  obtain ⟨m, hI⟩ := hb
  exact (main m) M44 x47 0 hJ51 (zbot _) (ztop _) (by have := zt_0; omega) (ztop _) hI
set_option maxRecDepth 100000 in
theorem u_2378 {X : List Int32} {d N : Nat} {M0 : zM} (a0 : Int32) (ha00 : (0 : Int) ≤ a0.toInt) (ha01 : a0.toInt ≤ 1) (hN : N ≤ 600) (hB0 : zB N M0) {Q : zF → Prop} (hb : b_2378 (zi M0) a0.toInt Q) : ZV X (d + 9) 2378 [.ref 386, .int a0] M0 (zRV N [(416, 419, 1000), (420, 429, 1000), (431, 433, 1000), (434, 436, 1000), (386, 387, 66), (386, 387, 70), (386, 387, 71), (386, 387, 72), (386, 387, 74), (386, 387, 75)] M0 (fun M' => Q (zi M'))) := by
  have hJ0 : zJ N [(416, 419, 1000), (420, 429, 1000), (431, 433, 1000), (434, 436, 1000), (386, 387, 66), (386, 387, 70), (386, 387, 71), (386, 387, 72), (386, 387, 74), (386, 387, 75)] M0 M0 := zJ_refl hB0
  refine ZV.of (ini := false) rfl (Nat.le_of_ble_eq_true rfl) (by decide +kernel) ?_
  obtain ⟨I2, I137, I242, hbE, hb2, hb137, hb242⟩ := hb
  replace hbE : zHd _ := hbE
  replace hb2 : zHd _ := hb2
  replace hb137 : zHd _ := hb137
  replace hb242 : zHd _ := hb242
  have main : ∀ n : Nat,
      (∀ (M : zM) (v2_1 : Int32) (v2_2 : Int32) (o2_3 : Option Value) (o2_4 : Option Value) (o2_5 : Option Value) (o2_6 : Option Value), zJ N [(416, 419, 1000), (420, 429, 1000), (431, 433, 1000), (434, 436, 1000), (386, 387, 66), (386, 387, 70), (386, 387, 71), (386, 387, 72), (386, 387, 74), (386, 387, 75)] M0 M → ((0 : Int) ≤ v2_1.toInt) → (v2_1.toInt ≤ 1) → ((0 : Int) ≤ v2_2.toInt) → (v2_2.toInt ≤ 12) → I2 n (zi M) v2_1.toInt v2_2.toInt → ZW X (d + 8) 9 false none cX9_minuteGoes (zRV N [(416, 419, 1000), (420, 429, 1000), (431, 433, 1000), (434, 436, 1000), (386, 387, 66), (386, 387, 70), (386, 387, 71), (386, 387, 72), (386, 387, 74), (386, 387, 75)] M0 (fun M' => Q (zi M'))) (2, [some (.ref 386), some (.int v2_1), some (.int v2_2), o2_3, o2_4, o2_5, o2_6], [], M)) ∧
      (∀ (M : zM) (v137_1 : Int32) (v137_2 : Int32) (o137_3 : Option Value) (o137_4 : Option Value) (o137_5 : Option Value) (o137_6 : Option Value), zJ N [(416, 419, 1000), (420, 429, 1000), (431, 433, 1000), (434, 436, 1000), (386, 387, 66), (386, 387, 70), (386, 387, 71), (386, 387, 72), (386, 387, 74), (386, 387, 75)] M0 M → ((0 : Int) ≤ v137_1.toInt) → (v137_1.toInt ≤ 1) → ((0 : Int) ≤ v137_2.toInt) → (v137_2.toInt ≤ 12) → I137 n (zi M) v137_1.toInt v137_2.toInt → ZW X (d + 8) 9 false none cX9_minuteGoes (zRV N [(416, 419, 1000), (420, 429, 1000), (431, 433, 1000), (434, 436, 1000), (386, 387, 66), (386, 387, 70), (386, 387, 71), (386, 387, 72), (386, 387, 74), (386, 387, 75)] M0 (fun M' => Q (zi M'))) (137, [some (.ref 386), some (.int v137_1), some (.int v137_2), o137_3, o137_4, o137_5, o137_6], [], M)) ∧
      (∀ (M : zM) (v242_1 : Int32) (v242_2 : Int32) (o242_3 : Option Value) (o242_4 : Option Value) (o242_5 : Option Value) (o242_6 : Option Value), zJ N [(416, 419, 1000), (420, 429, 1000), (431, 433, 1000), (434, 436, 1000), (386, 387, 66), (386, 387, 70), (386, 387, 71), (386, 387, 72), (386, 387, 74), (386, 387, 75)] M0 M → ((0 : Int) ≤ v242_1.toInt) → (v242_1.toInt ≤ 1) → ((0 : Int) ≤ v242_2.toInt) → (v242_2.toInt ≤ 12) → I242 n (zi M) v242_1.toInt v242_2.toInt → ZW X (d + 8) 9 false none cX9_minuteGoes (zRV N [(416, 419, 1000), (420, 429, 1000), (431, 433, 1000), (434, 436, 1000), (386, 387, 66), (386, 387, 70), (386, 387, 71), (386, 387, 72), (386, 387, 74), (386, 387, 75)] M0 (fun M' => Q (zi M'))) (242, [some (.ref 386), some (.int v242_1), some (.int v242_2), o242_3, o242_4, o242_5, o242_6], [], M)) := by
    intro n
    induction n using Nat.strongRecOn with
    | _ n ih =>
      refine ⟨?_, ?_, ?_⟩
      · intro M v2_1 v2_2 o2_3 o2_4 o2_5 o2_6 hJ v2_10 v2_11 v2_20 v2_21 hI
        have hb : zHd _ := hb2 n (zi M) v2_1.toInt v2_2.toInt (zi_fr hJ.2) v2_10 v2_11 v2_20 v2_21 hI
        refine w_lo dX9_minuteGoes_2 rfl rfl rfl rfl ?_
        refine w_lo dX9_minuteGoes_3 rfl rfl rfl rfl ?_
        refine w_iv dX9_minuteGoes_4 rfl rfl (As := []) rfl rfl hJ.1.1 zs_386 (Nat.le_of_ble_eq_true rfl) ?_
        refine ZV.of (ini := false) rfl (Nat.le_of_ble_eq_true rfl) (by decide +kernel) ?_
        show ZW _ _ _ _ _ _ _ (0, [some (.ref 386)], [], M)
        refine w_lo dX9_many_0 rfl rfl rfl rfl ?_
        refine w_gf dX9_many_1 rfl hJ.1.1 zs_386 (zr_386_13 hJ.1) ?_
        refine w_lo dX9_many_4 rfl rfl rfl rfl ?_
        refine w_gfi dX9_many_5 rfl hJ.1 zs_386 (Nat.le_of_ble_eq_true rfl) zo_386_12 ?_
        intro x1 f2 h3 h4
        replace hb : zHd _ := hb x1.toInt (ziE f2) h3 h4
        refine w_iai dX9_many_8 hJ.1 zs_388 (by omega) (by omega) zu_388 ?_
        intro x8 f5 h6 h7
        replace hb : zHd _ := hb x8.toInt (ziEk f5 rfl) h6 h7
        refine w_eni dX9_many_9 rfl rfl ?_
        show ZW _ _ _ _ _ _ _ (7, [some (.ref 386), some (.int v2_1), some (.int v2_2), o2_3, o2_4, o2_5, o2_6], [.int x8, .int v2_2], M)
        rcases zcut v2_2.toInt x8.toInt with h9 | h9
        · skip
          replace hb : zHd _ := hb.1 h9
          refine w_cge_f dX9_minuteGoes_7 (t := 135) rfl (by omega) ?_
          refine w_lo dX9_minuteGoes_10 rfl rfl rfl rfl ?_
          refine w_gf dX9_minuteGoes_11 rfl hJ.1.1 zs_386 (zr_386_50 hJ.1) ?_
          refine w_bi dX9_minuteGoes_14 (c := 12) (by decide) ?_
          refine w_lo dX9_minuteGoes_16 rfl rfl rfl rfl ?_
          refine w_mulc dX9_minuteGoes_17 zt_12 (by have := zt_12; omega) ?_
          intro x10 h11
          have := zt_12
          replace hb : zHd _ := hb x10.toInt (by have := zt_12; omega)
          refine w_lo dX9_minuteGoes_18 rfl rfl rfl rfl ?_
          refine w_add dX9_minuteGoes_19 (by omega) ?_
          intro x12 h13
          replace hb : zHd _ := hb x12.toInt (by omega)
          refine w_iai dX9_minuteGoes_20 hJ.1 zs_419 (by omega) (by omega) zu_419 ?_
          intro x17 f14 h15 h16
          replace hb : zHd _ := hb x17.toInt (ziEk f14 rfl) h15 h16
          refine w_lo (ml' := [some (.ref 386), some (.int v2_1), some (.int v2_2), some (.int x17), o2_4, o2_5, o2_6]) dX9_minuteGoes_21 rfl rfl rfl rfl ?_
          refine w_bi dX9_minuteGoes_22 (c := 12) (by decide) ?_
          refine w_lo dX9_minuteGoes_24 rfl rfl rfl rfl ?_
          refine w_mulc dX9_minuteGoes_25 zt_12 (by have := zt_12; omega) ?_
          intro x18 h19
          have := zt_12
          replace hb : zHd _ := hb x18.toInt (by have := zt_12; omega)
          refine w_lo dX9_minuteGoes_26 rfl rfl rfl rfl ?_
          refine w_add dX9_minuteGoes_27 (by omega) ?_
          intro x20 h21
          replace hb : zHd _ := hb x20.toInt (by omega)
          refine w_lo (ml' := [some (.ref 386), some (.int v2_1), some (.int v2_2), some (.int x17), some (.int x20), o2_5, o2_6]) dX9_minuteGoes_28 rfl rfl rfl rfl ?_
          refine w_lo dX9_minuteGoes_30 rfl rfl rfl rfl ?_
          refine w_gf dX9_minuteGoes_31 rfl hJ.1.1 zs_386 (zr_386_54 hJ.1) ?_
          refine w_lo dX9_minuteGoes_34 rfl rfl rfl rfl ?_
          refine w_iai dX9_minuteGoes_36 hJ.1 zs_423 (by omega) (by omega) zu_423 ?_
          intro x25 f22 h23 h24
          replace hb : zHd _ := hb x25.toInt (ziEk f22 rfl) h23 h24
          refine w_lo (ml' := [some (.ref 386), some (.int v2_1), some (.int v2_2), some (.int x17), some (.int x20), some (.int x25), o2_6]) dX9_minuteGoes_37 rfl rfl rfl rfl ?_
          refine w_lo dX9_minuteGoes_39 rfl rfl rfl rfl ?_
          refine w_ic dX9_minuteGoes_41 zi_m1 ?_
          rcases Int.decEq x25.toInt (-1 : Int) with h26 | h26
          · skip
            replace hb : zHd _ := hb.1 h26
            refine w_cne_t dX9_minuteGoes_42 (t := 48) rfl (by have := zt_m1; omega) ?_
            refine w_lo dX9_minuteGoes_48 rfl rfl rfl rfl ?_
            refine w_gf dX9_minuteGoes_49 rfl hJ.1.1 zs_386 (zr_386_54 hJ.1) ?_
            refine w_lo dX9_minuteGoes_52 rfl rfl rfl rfl ?_
            refine w_ic dX9_minuteGoes_54 zi_m1 ?_
            refine w_isi dX9_minuteGoes_55 hJ zs_423 (by omega) (by omega) zu_423 (by have := zt_m1; omega) (by have := zt_m1; omega) (zIR_s (zIR_a (by omega) (by omega))) ?_
            intro M27 hJ28 f29 hn30
            replace hb : zHd _ := hb (zi M27) (zi_zup hn30 f29 rfl zt_m1)
            refine w_lo dX9_minuteGoes_56 rfl rfl rfl rfl ?_
            refine w_gf dX9_minuteGoes_57 rfl hJ28.1.1 zs_386 (zr_386_56 hJ28.1) ?_
            refine w_lo dX9_minuteGoes_60 rfl rfl rfl rfl ?_
            refine w_iai dX9_minuteGoes_62 hJ28.1 zs_425 (by omega) (by omega) zu_425 ?_
            intro x35 f32 h33 h34
            replace hb : zHd _ := hb x35.toInt (ziEk f32 rfl) h33 h34
            refine w_ic dX9_minuteGoes_63 zi_m1 ?_
            rcases Int.decEq x35.toInt (-1 : Int) with h36 | h36
            · skip
              replace hb : zHd _ := hb.1 h36
              refine w_cne_t dX9_minuteGoes_64 (t := 71) rfl (by have := zt_m1; omega) ?_
              refine w_ic dX9_minuteGoes_71 zi_0 ?_
              refine w_lo (ml' := [some (.ref 386), some (.int v2_1), some (.int v2_2), some (.int x17), some (.int x20), some (.int x25), some (.int 0)]) dX9_minuteGoes_72 rfl rfl rfl rfl ?_
              refine w_lo dX9_minuteGoes_74 rfl rfl rfl rfl ?_
              refine w_lo dX9_minuteGoes_75 rfl rfl rfl rfl ?_
              refine w_lo dX9_minuteGoes_76 rfl rfl rfl rfl ?_
              refine w_iv dX9_minuteGoes_77 rfl rfl (As := [.int v2_1, .int x17]) rfl rfl hJ28.1.1 zs_386 (Nat.le_of_ble_eq_true rfl) ?_
              refine ZV.of (ini := false) rfl (Nat.le_of_ble_eq_true rfl) (by decide +kernel) ?_
              show ZW _ _ _ _ _ _ _ (0, [some (.ref 386), some (.int v2_1), some (.int x17)], [], M27)
              refine w_lo dX9_canDream_0 rfl rfl rfl rfl ?_
              refine w_gf dX9_canDream_1 rfl hJ28.1.1 zs_386 (zr_386_51 hJ28.1) ?_
              refine w_bi dX9_canDream_4 (c := 12) (by decide) ?_
              refine w_lo dX9_canDream_6 rfl rfl rfl rfl ?_
              refine w_mulc dX9_canDream_7 zt_12 (by have := zt_12; omega) ?_
              intro x37 h38
              have := zt_12
              replace hb : zHd _ := hb x37.toInt (by have := zt_12; omega)
              refine w_lo dX9_canDream_8 rfl rfl rfl rfl ?_
              refine w_add dX9_canDream_9 (by omega) ?_
              intro x39 h40
              replace hb : zHd _ := hb x39.toInt (by omega)
              refine w_iai dX9_canDream_10 hJ28.1 zs_420 (by omega) (by omega) zu_420 ?_
              intro x44 f41 h42 h43
              replace hb : zHd _ := hb x44.toInt (ziEk f41 rfl) h42 h43
              refine w_ic dX9_canDream_11 zi_1 ?_
              rcases Int.decEq x44.toInt (1 : Int) with h45 | h45
              · skip
                replace hb : zHd _ := hb.1 h45
                refine w_cne_t dX9_canDream_12 (t := 42) rfl (by have := zt_1; omega) ?_
                refine w_ic dX9_canDream_42 zi_0 ?_
                refine w_en dX9_canDream_43 rfl ?_
                show ZW _ _ _ _ _ _ _ (80, [some (.ref 386), some (.int v2_1), some (.int v2_2), some (.int x17), some (.int x20), some (.int x25), some (.int 0)], [.int 0], M27)
                refine w_ieq_t dX9_minuteGoes_80 (t := 129) rfl (by have := zt_0; omega) ?_
                refine w_inc (kk := 2) dX9_minuteGoes_129 rfl (m := 1) (by decide) (by omega) ?_
                intro x46 h47
                refine ⟨_, rfl, ?_⟩
                replace hb : zHd _ := hb x46.toInt h47
                show ZW _ _ _ _ _ _ _ (132, [some (.ref 386), some (.int v2_1), some (.int x46), some (.int x17), some (.int x20), some (.int x25), some (.int 0)], [], M27)
                refine w_gt dX9_minuteGoes_132 (t := 2) rfl ?_
                obtain ⟨m, hm, hI⟩ := hb
                exact (ih m hm).1 M27 v2_1 x46 (some (.int x17)) (some (.int x20)) (some (.int x25)) (some (.int 0)) hJ28 (by omega) (by omega) (by omega) (by omega) hI
              · skip
                replace hb : zHd _ := hb.2 h45
                refine w_cne_f dX9_canDream_12 (t := 42) rfl (by have := zt_1; omega) ?_
                refine w_lo dX9_canDream_15 rfl rfl rfl rfl ?_
                refine w_lo dX9_canDream_16 rfl rfl rfl rfl ?_
                refine w_iv dX9_canDream_17 rfl rfl (As := [.int x17]) rfl rfl hJ28.1.1 zs_386 (Nat.le_of_ble_eq_true rfl) ?_
                refine ZV.of (ini := false) rfl (Nat.le_of_ble_eq_true rfl) (by decide +kernel) ?_
                show ZW _ _ _ _ _ _ _ (0, [some (.ref 386), some (.int x17)], [], M27)
                refine w_lo dX9_isGhost_0 rfl rfl rfl rfl ?_
                refine w_gf dX9_isGhost_1 rfl hJ28.1.1 zs_386 (zr_386_19 hJ28.1) ?_
                refine w_bi dX9_isGhost_4 (c := 12) (by decide) ?_
                refine w_lo dX9_isGhost_6 rfl rfl rfl rfl ?_
                have f48 := (hn30 (386) 12 (Or.inl (by omega))).trans (f2)
                refine w_gf dX9_isGhost_7 rfl hJ28.1.1 zs_386 f48 ?_
                refine w_mulc dX9_isGhost_10 zt_12 (by have := zt_12; omega) ?_
                intro x49 h50
                have := zt_12
                replace hb : zHd _ := hb x49.toInt (by have := zt_12; omega)
                refine w_lo dX9_isGhost_11 rfl rfl rfl rfl ?_
                refine w_add dX9_isGhost_12 (by omega) ?_
                intro x51 h52
                replace hb : zHd _ := hb x51.toInt (by omega)
                refine w_iai dX9_isGhost_13 hJ28.1 zs_394 (by omega) (by omega) zu_394 ?_
                intro x56 f53 h54 h55
                replace hb : zHd _ := hb x56.toInt (ziEk f53 rfl) h54 h55
                refine w_ic dX9_isGhost_14 zi_2 ?_
                refine w_and dX9_isGhost_15 (m := 2) zt_2 (by omega) ?_
                intro x57 h58 h59
                replace hb : zHd _ := hb x57.toInt h58 h59
                rcases Int.decEq x57.toInt (0 : Int) with h60 | h60
                · skip
                  replace hb : zHd _ := hb.1 h60
                  refine w_ieq_f dX9_isGhost_16 (t := 23) rfl (by omega) ?_
                  refine w_ic dX9_isGhost_19 zi_1 ?_
                  refine w_gt dX9_isGhost_20 (t := 24) rfl ?_
                  refine w_en dX9_isGhost_24 rfl ?_
                  show ZW _ _ _ _ _ _ _ (20, [some (.ref 386), some (.int v2_1), some (.int x17)], [.int 1], M27)
                  refine w_ine_t dX9_canDream_20 (t := 42) rfl (by have := zt_1; omega) ?_
                  refine w_ic dX9_canDream_42 zi_0 ?_
                  refine w_en dX9_canDream_43 rfl ?_
                  show ZW _ _ _ _ _ _ _ (80, [some (.ref 386), some (.int v2_1), some (.int v2_2), some (.int x17), some (.int x20), some (.int x25), some (.int 0)], [.int 0], M27)
                  refine w_ieq_t dX9_minuteGoes_80 (t := 129) rfl (by have := zt_0; omega) ?_
                  refine w_inc (kk := 2) dX9_minuteGoes_129 rfl (m := 1) (by decide) (by omega) ?_
                  intro x61 h62
                  refine ⟨_, rfl, ?_⟩
                  replace hb : zHd _ := hb x61.toInt h62
                  show ZW _ _ _ _ _ _ _ (132, [some (.ref 386), some (.int v2_1), some (.int x61), some (.int x17), some (.int x20), some (.int x25), some (.int 0)], [], M27)
                  refine w_gt dX9_minuteGoes_132 (t := 2) rfl ?_
                  obtain ⟨m, hm, hI⟩ := hb
                  exact (ih m hm).1 M27 v2_1 x61 (some (.int x17)) (some (.int x20)) (some (.int x25)) (some (.int 0)) hJ28 (by omega) (by omega) (by omega) (by omega) hI
                · skip
                  replace hb : zHd _ := hb.2 h60
                  refine w_ieq_t dX9_isGhost_16 (t := 23) rfl (by omega) ?_
                  refine w_ic dX9_isGhost_23 zi_0 ?_
                  refine w_en dX9_isGhost_24 rfl ?_
                  show ZW _ _ _ _ _ _ _ (20, [some (.ref 386), some (.int v2_1), some (.int x17)], [.int 0], M27)
                  refine w_ine_f dX9_canDream_20 (t := 42) rfl (by have := zt_0; omega) ?_
                  refine w_lo dX9_canDream_23 rfl rfl rfl rfl ?_
                  refine w_gf dX9_canDream_24 rfl hJ28.1.1 zs_386 (zr_386_52 hJ28.1) ?_
                  refine w_bi dX9_canDream_27 (c := 12) (by decide) ?_
                  refine w_lo dX9_canDream_29 rfl rfl rfl rfl ?_
                  refine w_mulc dX9_canDream_30 zt_12 (by have := zt_12; omega) ?_
                  intro x63 h64
                  have := zt_12
                  replace hb : zHd _ := hb x63.toInt (by have := zt_12; omega)
                  refine w_lo dX9_canDream_31 rfl rfl rfl rfl ?_
                  refine w_add dX9_canDream_32 (by omega) ?_
                  intro x65 h66
                  replace hb : zHd _ := hb x65.toInt (by omega)
                  refine w_iai dX9_canDream_33 hJ28.1 zs_421 (by omega) (by omega) zu_421 ?_
                  intro x70 f67 h68 h69
                  replace hb : zHd _ := hb x70.toInt (ziEk f67 rfl) h68 h69
                  refine w_ic dX9_canDream_34 zi_m1 ?_
                  rcases Int.decEq x70.toInt (-1 : Int) with h71 | h71
                  · skip
                    replace hb : zHd _ := hb.1 h71
                    refine w_cne_t dX9_canDream_35 (t := 42) rfl (by have := zt_m1; omega) ?_
                    refine w_ic dX9_canDream_42 zi_0 ?_
                    refine w_en dX9_canDream_43 rfl ?_
                    show ZW _ _ _ _ _ _ _ (80, [some (.ref 386), some (.int v2_1), some (.int v2_2), some (.int x17), some (.int x20), some (.int x25), some (.int 0)], [.int 0], M27)
                    refine w_ieq_t dX9_minuteGoes_80 (t := 129) rfl (by have := zt_0; omega) ?_
                    refine w_inc (kk := 2) dX9_minuteGoes_129 rfl (m := 1) (by decide) (by omega) ?_
                    intro x72 h73
                    refine ⟨_, rfl, ?_⟩
                    replace hb : zHd _ := hb x72.toInt h73
                    show ZW _ _ _ _ _ _ _ (132, [some (.ref 386), some (.int v2_1), some (.int x72), some (.int x17), some (.int x20), some (.int x25), some (.int 0)], [], M27)
                    refine w_gt dX9_minuteGoes_132 (t := 2) rfl ?_
                    obtain ⟨m, hm, hI⟩ := hb
                    exact (ih m hm).1 M27 v2_1 x72 (some (.int x17)) (some (.int x20)) (some (.int x25)) (some (.int 0)) hJ28 (by omega) (by omega) (by omega) (by omega) hI
                  · skip
                    replace hb : zHd _ := hb.2 h71
                    refine w_cne_f dX9_canDream_35 (t := 42) rfl (by have := zt_m1; omega) ?_
                    refine w_ic dX9_canDream_38 zi_1 ?_
                    refine w_gt dX9_canDream_39 (t := 43) rfl ?_
                    refine w_en dX9_canDream_43 rfl ?_
                    show ZW _ _ _ _ _ _ _ (80, [some (.ref 386), some (.int v2_1), some (.int v2_2), some (.int x17), some (.int x20), some (.int x25), some (.int 0)], [.int 1], M27)
                    refine w_ieq_f dX9_minuteGoes_80 (t := 129) rfl (by have := zt_1; omega) ?_
                    refine w_lo dX9_minuteGoes_83 rfl rfl rfl rfl ?_
                    refine w_lo dX9_minuteGoes_84 rfl rfl rfl rfl ?_
                    refine w_lo dX9_minuteGoes_85 rfl rfl rfl rfl ?_
                    refine w_lo dX9_minuteGoes_86 rfl rfl rfl rfl ?_
                    refine w_lo dX9_minuteGoes_88 rfl rfl rfl rfl ?_
                    refine w_ieq_t dX9_minuteGoes_90 (t := 102) rfl (by have := zt_0; omega) ?_
                    refine w_lo dX9_minuteGoes_102 rfl rfl rfl rfl ?_
                    refine w_gf dX9_minuteGoes_103 rfl hJ28.1.1 zs_386 (zr_386_55 hJ28.1) ?_
                    refine w_lo dX9_minuteGoes_106 rfl rfl rfl rfl ?_
                    refine w_iai dX9_minuteGoes_108 hJ28.1 zs_424 (by omega) (by omega) zu_424 ?_
                    intro x77 f74 h75 h76
                    replace hb : zHd _ := hb x77.toInt (ziEk f74 rfl)
                    refine w_lo dX9_minuteGoes_109 rfl rfl rfl rfl ?_
                    refine w_ieq_t dX9_minuteGoes_111 (t := 118) rfl (by have := zt_0; omega) ?_
                    refine w_lo dX9_minuteGoes_118 rfl rfl rfl rfl ?_
                    refine w_gf dX9_minuteGoes_119 rfl hJ28.1.1 zs_386 (zr_386_56 hJ28.1) ?_
                    refine w_lo dX9_minuteGoes_122 rfl rfl rfl rfl ?_
                    refine w_ia dX9_minuteGoes_124 hJ28.1.1 zs_425 (znat (by omega)) f32 ?_
                    refine w_iv dX9_minuteGoes_125 rfl rfl (As := [.int v2_1, .int x17, .int x25, .int x77, .int x35]) rfl rfl hJ28.1.1 zs_386 (Nat.le_of_ble_eq_true rfl) ?_
                    obtain ⟨P83, hp84, hb⟩ := hb
                    replace hb : zHd _ := hb
                    refine ZV.imp (u_2380 v2_1 (by omega) (by omega) x17 (by omega) (by omega) x25 (by omega) (by omega) x77 x35 (by omega) (by omega) hN hJ28.1 hp84) ?_
                    rintro _ ⟨x86, M81, rfl, h87, h88, hJ82, hq85⟩
                    replace hb : zHd _ := hb x86.toInt  (zi M81) (zi_fr hJ82.2) hq85
                    have hJ90 := zJ_trans hJ28 hJ82 (zSub_cons (fun _ _ h h' hk => zIR_a (by omega) (by omega)) (zSub_cons (fun _ _ h h' hk => zIR_s (zIR_a (by omega) (by omega))) (zSub_cons (fun _ _ h h' hk => zIR_s (zIR_s (zIR_a (by omega) (by omega)))) (zSub_cons (fun _ _ h h' hk => zIR_s (zIR_s (zIR_s (zIR_a (by omega) (by omega))))) (zSub_cons (fun _ _ h h' hk => zIR_s (zIR_s (zIR_s (zIR_s (zIR_s (zIR_e (by omega) (by omega) hk)))))) (zSub_cons (fun _ _ h h' hk => zIR_s (zIR_s (zIR_s (zIR_s (zIR_s (zIR_s (zIR_e (by omega) (by omega) hk))))))) (zSub_cons (fun _ _ h h' hk => zIR_s (zIR_s (zIR_s (zIR_s (zIR_s (zIR_s (zIR_s (zIR_e (by omega) (by omega) hk)))))))) (zSub_cons (fun _ _ h h' hk => zIR_s (zIR_s (zIR_s (zIR_s (zIR_s (zIR_s (zIR_s (zIR_s (zIR_e (by omega) (by omega) hk))))))))) (zSub_cons (fun _ _ h h' hk => zIR_s (zIR_s (zIR_s (zIR_s (zIR_s (zIR_s (zIR_s (zIR_s (zIR_s (zIR_e (by omega) (by omega) hk)))))))))) zSub_nil)))))))))
                    show ZW _ _ _ _ _ _ _ (128, [some (.ref 386), some (.int v2_1), some (.int v2_2), some (.int x17), some (.int x20), some (.int x25), some (.int 0)], [.int x86], M81)
                    refine w_pu dX9_minuteGoes_128 rfl rfl ?_
                    refine w_inc (kk := 2) dX9_minuteGoes_129 rfl (m := 1) (by decide) (by omega) ?_
                    intro x91 h92
                    refine ⟨_, rfl, ?_⟩
                    replace hb : zHd _ := hb x91.toInt h92
                    show ZW _ _ _ _ _ _ _ (132, [some (.ref 386), some (.int v2_1), some (.int x91), some (.int x17), some (.int x20), some (.int x25), some (.int 0)], [], M81)
                    refine w_gt dX9_minuteGoes_132 (t := 2) rfl ?_
                    obtain ⟨m, hm, hI⟩ := hb
                    exact (ih m hm).1 M81 v2_1 x91 (some (.int x17)) (some (.int x20)) (some (.int x25)) (some (.int 0)) hJ90 (by omega) (by omega) (by omega) (by omega) hI
            · skip
              replace hb : zHd _ := hb.2 h36
              refine w_cne_f dX9_minuteGoes_64 (t := 71) rfl (by have := zt_m1; omega) ?_
              refine w_ic dX9_minuteGoes_67 zi_1 ?_
              refine w_gt dX9_minuteGoes_68 (t := 72) rfl ?_
              refine w_lo (ml' := [some (.ref 386), some (.int v2_1), some (.int v2_2), some (.int x17), some (.int x20), some (.int x25), some (.int 1)]) dX9_minuteGoes_72 rfl rfl rfl rfl ?_
              refine w_lo dX9_minuteGoes_74 rfl rfl rfl rfl ?_
              refine w_lo dX9_minuteGoes_75 rfl rfl rfl rfl ?_
              refine w_lo dX9_minuteGoes_76 rfl rfl rfl rfl ?_
              refine w_iv dX9_minuteGoes_77 rfl rfl (As := [.int v2_1, .int x17]) rfl rfl hJ28.1.1 zs_386 (Nat.le_of_ble_eq_true rfl) ?_
              refine ZV.of (ini := false) rfl (Nat.le_of_ble_eq_true rfl) (by decide +kernel) ?_
              show ZW _ _ _ _ _ _ _ (0, [some (.ref 386), some (.int v2_1), some (.int x17)], [], M27)
              refine w_lo dX9_canDream_0 rfl rfl rfl rfl ?_
              refine w_gf dX9_canDream_1 rfl hJ28.1.1 zs_386 (zr_386_51 hJ28.1) ?_
              refine w_bi dX9_canDream_4 (c := 12) (by decide) ?_
              refine w_lo dX9_canDream_6 rfl rfl rfl rfl ?_
              refine w_mulc dX9_canDream_7 zt_12 (by have := zt_12; omega) ?_
              intro x93 h94
              have := zt_12
              replace hb : zHd _ := hb x93.toInt (by have := zt_12; omega)
              refine w_lo dX9_canDream_8 rfl rfl rfl rfl ?_
              refine w_add dX9_canDream_9 (by omega) ?_
              intro x95 h96
              replace hb : zHd _ := hb x95.toInt (by omega)
              refine w_iai dX9_canDream_10 hJ28.1 zs_420 (by omega) (by omega) zu_420 ?_
              intro x100 f97 h98 h99
              replace hb : zHd _ := hb x100.toInt (ziEk f97 rfl) h98 h99
              refine w_ic dX9_canDream_11 zi_1 ?_
              rcases Int.decEq x100.toInt (1 : Int) with h101 | h101
              · skip
                replace hb : zHd _ := hb.1 h101
                refine w_cne_t dX9_canDream_12 (t := 42) rfl (by have := zt_1; omega) ?_
                refine w_ic dX9_canDream_42 zi_0 ?_
                refine w_en dX9_canDream_43 rfl ?_
                show ZW _ _ _ _ _ _ _ (80, [some (.ref 386), some (.int v2_1), some (.int v2_2), some (.int x17), some (.int x20), some (.int x25), some (.int 1)], [.int 0], M27)
                refine w_ieq_t dX9_minuteGoes_80 (t := 129) rfl (by have := zt_0; omega) ?_
                refine w_inc (kk := 2) dX9_minuteGoes_129 rfl (m := 1) (by decide) (by omega) ?_
                intro x102 h103
                refine ⟨_, rfl, ?_⟩
                replace hb : zHd _ := hb x102.toInt h103
                show ZW _ _ _ _ _ _ _ (132, [some (.ref 386), some (.int v2_1), some (.int x102), some (.int x17), some (.int x20), some (.int x25), some (.int 1)], [], M27)
                refine w_gt dX9_minuteGoes_132 (t := 2) rfl ?_
                obtain ⟨m, hm, hI⟩ := hb
                exact (ih m hm).1 M27 v2_1 x102 (some (.int x17)) (some (.int x20)) (some (.int x25)) (some (.int 1)) hJ28 (by omega) (by omega) (by omega) (by omega) hI
              · skip
                replace hb : zHd _ := hb.2 h101
                refine w_cne_f dX9_canDream_12 (t := 42) rfl (by have := zt_1; omega) ?_
                refine w_lo dX9_canDream_15 rfl rfl rfl rfl ?_
                refine w_lo dX9_canDream_16 rfl rfl rfl rfl ?_
                refine w_iv dX9_canDream_17 rfl rfl (As := [.int x17]) rfl rfl hJ28.1.1 zs_386 (Nat.le_of_ble_eq_true rfl) ?_
                refine ZV.of (ini := false) rfl (Nat.le_of_ble_eq_true rfl) (by decide +kernel) ?_
                show ZW _ _ _ _ _ _ _ (0, [some (.ref 386), some (.int x17)], [], M27)
                refine w_lo dX9_isGhost_0 rfl rfl rfl rfl ?_
                refine w_gf dX9_isGhost_1 rfl hJ28.1.1 zs_386 (zr_386_19 hJ28.1) ?_
                refine w_bi dX9_isGhost_4 (c := 12) (by decide) ?_
                refine w_lo dX9_isGhost_6 rfl rfl rfl rfl ?_
                have f104 := (hn30 (386) 12 (Or.inl (by omega))).trans (f2)
                refine w_gf dX9_isGhost_7 rfl hJ28.1.1 zs_386 f104 ?_
                refine w_mulc dX9_isGhost_10 zt_12 (by have := zt_12; omega) ?_
                intro x105 h106
                have := zt_12
                replace hb : zHd _ := hb x105.toInt (by have := zt_12; omega)
                refine w_lo dX9_isGhost_11 rfl rfl rfl rfl ?_
                refine w_add dX9_isGhost_12 (by omega) ?_
                intro x107 h108
                replace hb : zHd _ := hb x107.toInt (by omega)
                refine w_iai dX9_isGhost_13 hJ28.1 zs_394 (by omega) (by omega) zu_394 ?_
                intro x112 f109 h110 h111
                replace hb : zHd _ := hb x112.toInt (ziEk f109 rfl) h110 h111
                refine w_ic dX9_isGhost_14 zi_2 ?_
                refine w_and dX9_isGhost_15 (m := 2) zt_2 (by omega) ?_
                intro x113 h114 h115
                replace hb : zHd _ := hb x113.toInt h114 h115
                rcases Int.decEq x113.toInt (0 : Int) with h116 | h116
                · skip
                  replace hb : zHd _ := hb.1 h116
                  refine w_ieq_f dX9_isGhost_16 (t := 23) rfl (by omega) ?_
                  refine w_ic dX9_isGhost_19 zi_1 ?_
                  refine w_gt dX9_isGhost_20 (t := 24) rfl ?_
                  refine w_en dX9_isGhost_24 rfl ?_
                  show ZW _ _ _ _ _ _ _ (20, [some (.ref 386), some (.int v2_1), some (.int x17)], [.int 1], M27)
                  refine w_ine_t dX9_canDream_20 (t := 42) rfl (by have := zt_1; omega) ?_
                  refine w_ic dX9_canDream_42 zi_0 ?_
                  refine w_en dX9_canDream_43 rfl ?_
                  show ZW _ _ _ _ _ _ _ (80, [some (.ref 386), some (.int v2_1), some (.int v2_2), some (.int x17), some (.int x20), some (.int x25), some (.int 1)], [.int 0], M27)
                  refine w_ieq_t dX9_minuteGoes_80 (t := 129) rfl (by have := zt_0; omega) ?_
                  refine w_inc (kk := 2) dX9_minuteGoes_129 rfl (m := 1) (by decide) (by omega) ?_
                  intro x117 h118
                  refine ⟨_, rfl, ?_⟩
                  replace hb : zHd _ := hb x117.toInt h118
                  show ZW _ _ _ _ _ _ _ (132, [some (.ref 386), some (.int v2_1), some (.int x117), some (.int x17), some (.int x20), some (.int x25), some (.int 1)], [], M27)
                  refine w_gt dX9_minuteGoes_132 (t := 2) rfl ?_
                  obtain ⟨m, hm, hI⟩ := hb
                  exact (ih m hm).1 M27 v2_1 x117 (some (.int x17)) (some (.int x20)) (some (.int x25)) (some (.int 1)) hJ28 (by omega) (by omega) (by omega) (by omega) hI
                · skip
                  replace hb : zHd _ := hb.2 h116
                  refine w_ieq_t dX9_isGhost_16 (t := 23) rfl (by omega) ?_
                  refine w_ic dX9_isGhost_23 zi_0 ?_
                  refine w_en dX9_isGhost_24 rfl ?_
                  show ZW _ _ _ _ _ _ _ (20, [some (.ref 386), some (.int v2_1), some (.int x17)], [.int 0], M27)
                  refine w_ine_f dX9_canDream_20 (t := 42) rfl (by have := zt_0; omega) ?_
                  refine w_lo dX9_canDream_23 rfl rfl rfl rfl ?_
                  refine w_gf dX9_canDream_24 rfl hJ28.1.1 zs_386 (zr_386_52 hJ28.1) ?_
                  refine w_bi dX9_canDream_27 (c := 12) (by decide) ?_
                  refine w_lo dX9_canDream_29 rfl rfl rfl rfl ?_
                  refine w_mulc dX9_canDream_30 zt_12 (by have := zt_12; omega) ?_
                  intro x119 h120
                  have := zt_12
                  replace hb : zHd _ := hb x119.toInt (by have := zt_12; omega)
                  refine w_lo dX9_canDream_31 rfl rfl rfl rfl ?_
                  refine w_add dX9_canDream_32 (by omega) ?_
                  intro x121 h122
                  replace hb : zHd _ := hb x121.toInt (by omega)
                  refine w_iai dX9_canDream_33 hJ28.1 zs_421 (by omega) (by omega) zu_421 ?_
                  intro x126 f123 h124 h125
                  replace hb : zHd _ := hb x126.toInt (ziEk f123 rfl) h124 h125
                  refine w_ic dX9_canDream_34 zi_m1 ?_
                  rcases Int.decEq x126.toInt (-1 : Int) with h127 | h127
                  · skip
                    replace hb : zHd _ := hb.1 h127
                    refine w_cne_t dX9_canDream_35 (t := 42) rfl (by have := zt_m1; omega) ?_
                    refine w_ic dX9_canDream_42 zi_0 ?_
                    refine w_en dX9_canDream_43 rfl ?_
                    show ZW _ _ _ _ _ _ _ (80, [some (.ref 386), some (.int v2_1), some (.int v2_2), some (.int x17), some (.int x20), some (.int x25), some (.int 1)], [.int 0], M27)
                    refine w_ieq_t dX9_minuteGoes_80 (t := 129) rfl (by have := zt_0; omega) ?_
                    refine w_inc (kk := 2) dX9_minuteGoes_129 rfl (m := 1) (by decide) (by omega) ?_
                    intro x128 h129
                    refine ⟨_, rfl, ?_⟩
                    replace hb : zHd _ := hb x128.toInt h129
                    show ZW _ _ _ _ _ _ _ (132, [some (.ref 386), some (.int v2_1), some (.int x128), some (.int x17), some (.int x20), some (.int x25), some (.int 1)], [], M27)
                    refine w_gt dX9_minuteGoes_132 (t := 2) rfl ?_
                    obtain ⟨m, hm, hI⟩ := hb
                    exact (ih m hm).1 M27 v2_1 x128 (some (.int x17)) (some (.int x20)) (some (.int x25)) (some (.int 1)) hJ28 (by omega) (by omega) (by omega) (by omega) hI
                  · skip
                    replace hb : zHd _ := hb.2 h127
                    refine w_cne_f dX9_canDream_35 (t := 42) rfl (by have := zt_m1; omega) ?_
                    refine w_ic dX9_canDream_38 zi_1 ?_
                    refine w_gt dX9_canDream_39 (t := 43) rfl ?_
                    refine w_en dX9_canDream_43 rfl ?_
                    show ZW _ _ _ _ _ _ _ (80, [some (.ref 386), some (.int v2_1), some (.int v2_2), some (.int x17), some (.int x20), some (.int x25), some (.int 1)], [.int 1], M27)
                    refine w_ieq_f dX9_minuteGoes_80 (t := 129) rfl (by have := zt_1; omega) ?_
                    refine w_lo dX9_minuteGoes_83 rfl rfl rfl rfl ?_
                    refine w_lo dX9_minuteGoes_84 rfl rfl rfl rfl ?_
                    refine w_lo dX9_minuteGoes_85 rfl rfl rfl rfl ?_
                    refine w_lo dX9_minuteGoes_86 rfl rfl rfl rfl ?_
                    refine w_lo dX9_minuteGoes_88 rfl rfl rfl rfl ?_
                    refine w_ieq_f dX9_minuteGoes_90 (t := 102) rfl (by have := zt_1; omega) ?_
                    refine w_lo dX9_minuteGoes_93 rfl rfl rfl rfl ?_
                    refine w_gf dX9_minuteGoes_94 rfl hJ28.1.1 zs_386 (zr_386_49 hJ28.1) ?_
                    refine w_lo dX9_minuteGoes_97 rfl rfl rfl rfl ?_
                    refine w_iai dX9_minuteGoes_98 hJ28.1 zs_418 (by omega) (by omega) zu_418 ?_
                    intro x133 f130 h131 h132
                    replace hb : zHd _ := hb x133.toInt (ziEk f130 rfl)
                    refine w_gt dX9_minuteGoes_99 (t := 109) rfl ?_
                    refine w_lo dX9_minuteGoes_109 rfl rfl rfl rfl ?_
                    refine w_ieq_f dX9_minuteGoes_111 (t := 118) rfl (by have := zt_1; omega) ?_
                    refine w_lo dX9_minuteGoes_114 rfl rfl rfl rfl ?_
                    refine w_gt dX9_minuteGoes_115 (t := 125) rfl ?_
                    refine w_iv dX9_minuteGoes_125 rfl rfl (As := [.int v2_1, .int x17, .int x25, .int x133, .int x17]) rfl rfl hJ28.1.1 zs_386 (Nat.le_of_ble_eq_true rfl) ?_
                    obtain ⟨P136, hp137, hb⟩ := hb
                    replace hb : zHd _ := hb
                    refine ZV.imp (u_2380 v2_1 (by omega) (by omega) x17 (by omega) (by omega) x25 (by omega) (by omega) x133 x17 (by omega) (by omega) hN hJ28.1 hp137) ?_
                    rintro _ ⟨x139, M134, rfl, h140, h141, hJ135, hq138⟩
                    replace hb : zHd _ := hb x139.toInt  (zi M134) (zi_fr hJ135.2) hq138
                    have hJ143 := zJ_trans hJ28 hJ135 (zSub_cons (fun _ _ h h' hk => zIR_a (by omega) (by omega)) (zSub_cons (fun _ _ h h' hk => zIR_s (zIR_a (by omega) (by omega))) (zSub_cons (fun _ _ h h' hk => zIR_s (zIR_s (zIR_a (by omega) (by omega)))) (zSub_cons (fun _ _ h h' hk => zIR_s (zIR_s (zIR_s (zIR_a (by omega) (by omega))))) (zSub_cons (fun _ _ h h' hk => zIR_s (zIR_s (zIR_s (zIR_s (zIR_s (zIR_e (by omega) (by omega) hk)))))) (zSub_cons (fun _ _ h h' hk => zIR_s (zIR_s (zIR_s (zIR_s (zIR_s (zIR_s (zIR_e (by omega) (by omega) hk))))))) (zSub_cons (fun _ _ h h' hk => zIR_s (zIR_s (zIR_s (zIR_s (zIR_s (zIR_s (zIR_s (zIR_e (by omega) (by omega) hk)))))))) (zSub_cons (fun _ _ h h' hk => zIR_s (zIR_s (zIR_s (zIR_s (zIR_s (zIR_s (zIR_s (zIR_s (zIR_e (by omega) (by omega) hk))))))))) (zSub_cons (fun _ _ h h' hk => zIR_s (zIR_s (zIR_s (zIR_s (zIR_s (zIR_s (zIR_s (zIR_s (zIR_s (zIR_e (by omega) (by omega) hk)))))))))) zSub_nil)))))))))
                    show ZW _ _ _ _ _ _ _ (128, [some (.ref 386), some (.int v2_1), some (.int v2_2), some (.int x17), some (.int x20), some (.int x25), some (.int 1)], [.int x139], M134)
                    refine w_pu dX9_minuteGoes_128 rfl rfl ?_
                    refine w_inc (kk := 2) dX9_minuteGoes_129 rfl (m := 1) (by decide) (by omega) ?_
                    intro x144 h145
                    refine ⟨_, rfl, ?_⟩
                    replace hb : zHd _ := hb x144.toInt h145
                    show ZW _ _ _ _ _ _ _ (132, [some (.ref 386), some (.int v2_1), some (.int x144), some (.int x17), some (.int x20), some (.int x25), some (.int 1)], [], M134)
                    refine w_gt dX9_minuteGoes_132 (t := 2) rfl ?_
                    obtain ⟨m, hm, hI⟩ := hb
                    exact (ih m hm).1 M134 v2_1 x144 (some (.int x17)) (some (.int x20)) (some (.int x25)) (some (.int 1)) hJ143 (by omega) (by omega) (by omega) (by omega) hI
          · skip
            replace hb : zHd _ := hb.2 h26
            refine w_cne_f dX9_minuteGoes_42 (t := 48) rfl (by have := zt_m1; omega) ?_
            refine w_gt dX9_minuteGoes_45 (t := 129) rfl ?_
            refine w_inc (kk := 2) dX9_minuteGoes_129 rfl (m := 1) (by decide) (by omega) ?_
            intro x146 h147
            refine ⟨_, rfl, ?_⟩
            replace hb : zHd _ := hb x146.toInt h147
            show ZW _ _ _ _ _ _ _ (132, [some (.ref 386), some (.int v2_1), some (.int x146), some (.int x17), some (.int x20), some (.int x25), o2_6], [], M)
            refine w_gt dX9_minuteGoes_132 (t := 2) rfl ?_
            obtain ⟨m, hm, hI⟩ := hb
            exact (ih m hm).1 M v2_1 x146 (some (.int x17)) (some (.int x20)) (some (.int x25)) o2_6 hJ (by omega) (by omega) (by omega) (by omega) hI
        · skip
          replace hb : zHd _ := hb.2 h9
          refine w_cge_t dX9_minuteGoes_7 (t := 135) rfl (by omega) ?_
          refine w_ic dX9_minuteGoes_135 zi_0 ?_
          refine w_lo (ml' := [some (.ref 386), some (.int v2_1), some (.int 0), o2_3, o2_4, o2_5, o2_6]) dX9_minuteGoes_136 rfl rfl rfl rfl ?_
          obtain ⟨m, hm, hI⟩ := hb
          exact (ih m hm).2.1 M v2_1 0 o2_3 o2_4 o2_5 o2_6 hJ (by omega) (by omega) (by have := zt_0; omega) (by have := zt_0; omega) hI
      · intro M v137_1 v137_2 o137_3 o137_4 o137_5 o137_6 hJ v137_10 v137_11 v137_20 v137_21 hI
        have hb : zHd _ := hb137 n (zi M) v137_1.toInt v137_2.toInt (zi_fr hJ.2) v137_10 v137_11 v137_20 v137_21 hI
        refine w_lo dX9_minuteGoes_137 rfl rfl rfl rfl ?_
        refine w_lo dX9_minuteGoes_138 rfl rfl rfl rfl ?_
        refine w_iv dX9_minuteGoes_139 rfl rfl (As := []) rfl rfl hJ.1.1 zs_386 (Nat.le_of_ble_eq_true rfl) ?_
        refine ZV.of (ini := false) rfl (Nat.le_of_ble_eq_true rfl) (by decide +kernel) ?_
        show ZW _ _ _ _ _ _ _ (0, [some (.ref 386)], [], M)
        refine w_lo dX9_many_0 rfl rfl rfl rfl ?_
        refine w_gf dX9_many_1 rfl hJ.1.1 zs_386 (zr_386_13 hJ.1) ?_
        refine w_lo dX9_many_4 rfl rfl rfl rfl ?_
        refine w_gfi dX9_many_5 rfl hJ.1 zs_386 (Nat.le_of_ble_eq_true rfl) zo_386_12 ?_
        intro x148 f149 h150 h151
        replace hb : zHd _ := hb x148.toInt (ziE f149) h150 h151
        refine w_iai dX9_many_8 hJ.1 zs_388 (by omega) (by omega) zu_388 ?_
        intro x155 f152 h153 h154
        replace hb : zHd _ := hb x155.toInt (ziEk f152 rfl) h153 h154
        refine w_eni dX9_many_9 rfl rfl ?_
        show ZW _ _ _ _ _ _ _ (142, [some (.ref 386), some (.int v137_1), some (.int v137_2), o137_3, o137_4, o137_5, o137_6], [.int x155, .int v137_2], M)
        rcases zcut v137_2.toInt x155.toInt with h156 | h156
        · skip
          replace hb : zHd _ := hb.1 h156
          refine w_cge_f dX9_minuteGoes_142 (t := 240) rfl (by omega) ?_
          refine w_lo dX9_minuteGoes_145 rfl rfl rfl rfl ?_
          refine w_gf dX9_minuteGoes_146 rfl hJ.1.1 zs_386 (zr_386_50 hJ.1) ?_
          refine w_bi dX9_minuteGoes_149 (c := 12) (by decide) ?_
          refine w_lo dX9_minuteGoes_151 rfl rfl rfl rfl ?_
          refine w_mulc dX9_minuteGoes_152 zt_12 (by have := zt_12; omega) ?_
          intro x157 h158
          have := zt_12
          replace hb : zHd _ := hb x157.toInt (by have := zt_12; omega)
          refine w_lo dX9_minuteGoes_153 rfl rfl rfl rfl ?_
          refine w_add dX9_minuteGoes_154 (by omega) ?_
          intro x159 h160
          replace hb : zHd _ := hb x159.toInt (by omega)
          refine w_iai dX9_minuteGoes_155 hJ.1 zs_419 (by omega) (by omega) zu_419 ?_
          intro x164 f161 h162 h163
          replace hb : zHd _ := hb x164.toInt (ziEk f161 rfl) h162 h163
          refine w_lo (ml' := [some (.ref 386), some (.int v137_1), some (.int v137_2), some (.int x164), o137_4, o137_5, o137_6]) dX9_minuteGoes_156 rfl rfl rfl rfl ?_
          refine w_lo dX9_minuteGoes_157 rfl rfl rfl rfl ?_
          refine w_lo dX9_minuteGoes_158 rfl rfl rfl rfl ?_
          refine w_lo dX9_minuteGoes_159 rfl rfl rfl rfl ?_
          refine w_iv dX9_minuteGoes_160 rfl rfl (As := [.int v137_1, .int x164]) rfl rfl hJ.1.1 zs_386 (Nat.le_of_ble_eq_true rfl) ?_
          refine ZV.of (ini := false) rfl (Nat.le_of_ble_eq_true rfl) (by decide +kernel) ?_
          show ZW _ _ _ _ _ _ _ (0, [some (.ref 386), some (.int v137_1), some (.int x164)], [], M)
          refine w_lo dX9_canDream_0 rfl rfl rfl rfl ?_
          refine w_gf dX9_canDream_1 rfl hJ.1.1 zs_386 (zr_386_51 hJ.1) ?_
          refine w_bi dX9_canDream_4 (c := 12) (by decide) ?_
          refine w_lo dX9_canDream_6 rfl rfl rfl rfl ?_
          refine w_mulc dX9_canDream_7 zt_12 (by have := zt_12; omega) ?_
          intro x165 h166
          have := zt_12
          replace hb : zHd _ := hb x165.toInt (by have := zt_12; omega)
          refine w_lo dX9_canDream_8 rfl rfl rfl rfl ?_
          refine w_add dX9_canDream_9 (by omega) ?_
          intro x167 h168
          replace hb : zHd _ := hb x167.toInt (by omega)
          refine w_iai dX9_canDream_10 hJ.1 zs_420 (by omega) (by omega) zu_420 ?_
          intro x172 f169 h170 h171
          replace hb : zHd _ := hb x172.toInt (ziEk f169 rfl) h170 h171
          refine w_ic dX9_canDream_11 zi_1 ?_
          rcases Int.decEq x172.toInt (1 : Int) with h173 | h173
          · skip
            replace hb : zHd _ := hb.1 h173
            refine w_cne_t dX9_canDream_12 (t := 42) rfl (by have := zt_1; omega) ?_
            refine w_ic dX9_canDream_42 zi_0 ?_
            refine w_en dX9_canDream_43 rfl ?_
            show ZW _ _ _ _ _ _ _ (163, [some (.ref 386), some (.int v137_1), some (.int v137_2), some (.int x164), o137_4, o137_5, o137_6], [.int 0], M)
            refine w_ine_f dX9_minuteGoes_163 (t := 169) rfl (by have := zt_0; omega) ?_
            refine w_gt dX9_minuteGoes_166 (t := 234) rfl ?_
            refine w_inc (kk := 2) dX9_minuteGoes_234 rfl (m := 1) (by decide) (by omega) ?_
            intro x174 h175
            refine ⟨_, rfl, ?_⟩
            replace hb : zHd _ := hb x174.toInt h175
            show ZW _ _ _ _ _ _ _ (237, [some (.ref 386), some (.int v137_1), some (.int x174), some (.int x164), o137_4, o137_5, o137_6], [], M)
            refine w_gt dX9_minuteGoes_237 (t := 137) rfl ?_
            obtain ⟨m, hm, hI⟩ := hb
            exact (ih m hm).2.1 M v137_1 x174 (some (.int x164)) o137_4 o137_5 o137_6 hJ (by omega) (by omega) (by omega) (by omega) hI
          · skip
            replace hb : zHd _ := hb.2 h173
            refine w_cne_f dX9_canDream_12 (t := 42) rfl (by have := zt_1; omega) ?_
            refine w_lo dX9_canDream_15 rfl rfl rfl rfl ?_
            refine w_lo dX9_canDream_16 rfl rfl rfl rfl ?_
            refine w_iv dX9_canDream_17 rfl rfl (As := [.int x164]) rfl rfl hJ.1.1 zs_386 (Nat.le_of_ble_eq_true rfl) ?_
            refine ZV.of (ini := false) rfl (Nat.le_of_ble_eq_true rfl) (by decide +kernel) ?_
            show ZW _ _ _ _ _ _ _ (0, [some (.ref 386), some (.int x164)], [], M)
            refine w_lo dX9_isGhost_0 rfl rfl rfl rfl ?_
            refine w_gf dX9_isGhost_1 rfl hJ.1.1 zs_386 (zr_386_19 hJ.1) ?_
            refine w_bi dX9_isGhost_4 (c := 12) (by decide) ?_
            refine w_lo dX9_isGhost_6 rfl rfl rfl rfl ?_
            refine w_gf dX9_isGhost_7 rfl hJ.1.1 zs_386 f149 ?_
            refine w_mulc dX9_isGhost_10 zt_12 (by have := zt_12; omega) ?_
            intro x176 h177
            have := zt_12
            replace hb : zHd _ := hb x176.toInt (by have := zt_12; omega)
            refine w_lo dX9_isGhost_11 rfl rfl rfl rfl ?_
            refine w_add dX9_isGhost_12 (by omega) ?_
            intro x178 h179
            replace hb : zHd _ := hb x178.toInt (by omega)
            refine w_iai dX9_isGhost_13 hJ.1 zs_394 (by omega) (by omega) zu_394 ?_
            intro x183 f180 h181 h182
            replace hb : zHd _ := hb x183.toInt (ziEk f180 rfl) h181 h182
            refine w_ic dX9_isGhost_14 zi_2 ?_
            refine w_and dX9_isGhost_15 (m := 2) zt_2 (by omega) ?_
            intro x184 h185 h186
            replace hb : zHd _ := hb x184.toInt h185 h186
            rcases Int.decEq x184.toInt (0 : Int) with h187 | h187
            · skip
              replace hb : zHd _ := hb.1 h187
              refine w_ieq_f dX9_isGhost_16 (t := 23) rfl (by omega) ?_
              refine w_ic dX9_isGhost_19 zi_1 ?_
              refine w_gt dX9_isGhost_20 (t := 24) rfl ?_
              refine w_en dX9_isGhost_24 rfl ?_
              show ZW _ _ _ _ _ _ _ (20, [some (.ref 386), some (.int v137_1), some (.int x164)], [.int 1], M)
              refine w_ine_t dX9_canDream_20 (t := 42) rfl (by have := zt_1; omega) ?_
              refine w_ic dX9_canDream_42 zi_0 ?_
              refine w_en dX9_canDream_43 rfl ?_
              show ZW _ _ _ _ _ _ _ (163, [some (.ref 386), some (.int v137_1), some (.int v137_2), some (.int x164), o137_4, o137_5, o137_6], [.int 0], M)
              refine w_ine_f dX9_minuteGoes_163 (t := 169) rfl (by have := zt_0; omega) ?_
              refine w_gt dX9_minuteGoes_166 (t := 234) rfl ?_
              refine w_inc (kk := 2) dX9_minuteGoes_234 rfl (m := 1) (by decide) (by omega) ?_
              intro x188 h189
              refine ⟨_, rfl, ?_⟩
              replace hb : zHd _ := hb x188.toInt h189
              show ZW _ _ _ _ _ _ _ (237, [some (.ref 386), some (.int v137_1), some (.int x188), some (.int x164), o137_4, o137_5, o137_6], [], M)
              refine w_gt dX9_minuteGoes_237 (t := 137) rfl ?_
              obtain ⟨m, hm, hI⟩ := hb
              exact (ih m hm).2.1 M v137_1 x188 (some (.int x164)) o137_4 o137_5 o137_6 hJ (by omega) (by omega) (by omega) (by omega) hI
            · skip
              replace hb : zHd _ := hb.2 h187
              refine w_ieq_t dX9_isGhost_16 (t := 23) rfl (by omega) ?_
              refine w_ic dX9_isGhost_23 zi_0 ?_
              refine w_en dX9_isGhost_24 rfl ?_
              show ZW _ _ _ _ _ _ _ (20, [some (.ref 386), some (.int v137_1), some (.int x164)], [.int 0], M)
              refine w_ine_f dX9_canDream_20 (t := 42) rfl (by have := zt_0; omega) ?_
              refine w_lo dX9_canDream_23 rfl rfl rfl rfl ?_
              refine w_gf dX9_canDream_24 rfl hJ.1.1 zs_386 (zr_386_52 hJ.1) ?_
              refine w_bi dX9_canDream_27 (c := 12) (by decide) ?_
              refine w_lo dX9_canDream_29 rfl rfl rfl rfl ?_
              refine w_mulc dX9_canDream_30 zt_12 (by have := zt_12; omega) ?_
              intro x190 h191
              have := zt_12
              replace hb : zHd _ := hb x190.toInt (by have := zt_12; omega)
              refine w_lo dX9_canDream_31 rfl rfl rfl rfl ?_
              refine w_add dX9_canDream_32 (by omega) ?_
              intro x192 h193
              replace hb : zHd _ := hb x192.toInt (by omega)
              refine w_iai dX9_canDream_33 hJ.1 zs_421 (by omega) (by omega) zu_421 ?_
              intro x197 f194 h195 h196
              replace hb : zHd _ := hb x197.toInt (ziEk f194 rfl) h195 h196
              refine w_ic dX9_canDream_34 zi_m1 ?_
              rcases Int.decEq x197.toInt (-1 : Int) with h198 | h198
              · skip
                replace hb : zHd _ := hb.1 h198
                refine w_cne_t dX9_canDream_35 (t := 42) rfl (by have := zt_m1; omega) ?_
                refine w_ic dX9_canDream_42 zi_0 ?_
                refine w_en dX9_canDream_43 rfl ?_
                show ZW _ _ _ _ _ _ _ (163, [some (.ref 386), some (.int v137_1), some (.int v137_2), some (.int x164), o137_4, o137_5, o137_6], [.int 0], M)
                refine w_ine_f dX9_minuteGoes_163 (t := 169) rfl (by have := zt_0; omega) ?_
                refine w_gt dX9_minuteGoes_166 (t := 234) rfl ?_
                refine w_inc (kk := 2) dX9_minuteGoes_234 rfl (m := 1) (by decide) (by omega) ?_
                intro x199 h200
                refine ⟨_, rfl, ?_⟩
                replace hb : zHd _ := hb x199.toInt h200
                show ZW _ _ _ _ _ _ _ (237, [some (.ref 386), some (.int v137_1), some (.int x199), some (.int x164), o137_4, o137_5, o137_6], [], M)
                refine w_gt dX9_minuteGoes_237 (t := 137) rfl ?_
                obtain ⟨m, hm, hI⟩ := hb
                exact (ih m hm).2.1 M v137_1 x199 (some (.int x164)) o137_4 o137_5 o137_6 hJ (by omega) (by omega) (by omega) (by omega) hI
              · skip
                replace hb : zHd _ := hb.2 h198
                refine w_cne_f dX9_canDream_35 (t := 42) rfl (by have := zt_m1; omega) ?_
                refine w_ic dX9_canDream_38 zi_1 ?_
                refine w_gt dX9_canDream_39 (t := 43) rfl ?_
                refine w_en dX9_canDream_43 rfl ?_
                show ZW _ _ _ _ _ _ _ (163, [some (.ref 386), some (.int v137_1), some (.int v137_2), some (.int x164), o137_4, o137_5, o137_6], [.int 1], M)
                refine w_ine_t dX9_minuteGoes_163 (t := 169) rfl (by have := zt_1; omega) ?_
                refine w_lo dX9_minuteGoes_169 rfl rfl rfl rfl ?_
                refine w_bi dX9_minuteGoes_170 (c := 100) (by decide) ?_
                refine w_iv dX9_minuteGoes_172 rfl rfl (As := [.int 100]) rfl rfl hJ.1.1 zs_386 (Nat.le_of_ble_eq_true rfl) ?_
                refine ZV.imp (k_2388 100 (by have := zt_100; omega) (ztop _) hN hJ.1) ?_
                rintro _ ⟨x204, M201, rfl, h205, h206, hJ202, hq203⟩
                replace hb : zHd _ := hb x204.toInt h205 (zi M201) (zi_fr hJ202.2)
                have hJ208 := zJ_trans hJ hJ202 (zSub_cons (fun _ _ h h' hk => zIR_s (zIR_s (zIR_s (zIR_s (zIR_e (by omega) (by omega) hk))))) zSub_nil)
                obtain ⟨h209, -⟩ := hq203
                replace hb : zHd _ := hb h209
                have := zt_100
                show ZW _ _ _ _ _ _ _ (175, [some (.ref 386), some (.int v137_1), some (.int v137_2), some (.int x164), o137_4, o137_5, o137_6], [.int x204], M201)
                refine w_lo dX9_minuteGoes_175 rfl rfl rfl rfl ?_
                refine w_gf dX9_minuteGoes_176 rfl hJ208.1.1 zs_386 (zr_386_17 hJ208.1) ?_
                refine w_bi dX9_minuteGoes_179 (c := 12) (by decide) ?_
                refine w_lo dX9_minuteGoes_181 rfl rfl rfl rfl ?_
                have f210 := (hJ202.2 (386) 12 (zNI_k (by decide) (by decide) zNI_nil)).trans (f149)
                refine w_gf dX9_minuteGoes_182 rfl hJ208.1.1 zs_386 f210 ?_
                refine w_mulc dX9_minuteGoes_185 zt_12 (by have := zt_12; omega) ?_
                intro x211 h212
                have := zt_12
                replace hb : zHd _ := hb x211.toInt (by have := zt_12; omega)
                refine w_lo dX9_minuteGoes_186 rfl rfl rfl rfl ?_
                refine w_add dX9_minuteGoes_187 (by omega) ?_
                intro x213 h214
                replace hb : zHd _ := hb x213.toInt (by omega)
                refine w_iai dX9_minuteGoes_188 hJ208.1 zs_392 (by omega) (by omega) zu_392 ?_
                intro x218 f215 h216 h217
                replace hb : zHd _ := hb x218.toInt (ziEk f215 rfl)
                rcases zcut x204.toInt x218.toInt with h219 | h219
                · skip
                  replace hb : zHd _ := hb.1 h219
                  refine w_cge_f dX9_minuteGoes_189 (t := 196) rfl (by omega) ?_
                  refine w_ic dX9_minuteGoes_192 zi_1 ?_
                  refine w_gt dX9_minuteGoes_193 (t := 197) rfl ?_
                  refine w_lo (ml' := [some (.ref 386), some (.int v137_1), some (.int v137_2), some (.int x164), some (.int 1), o137_5, o137_6]) dX9_minuteGoes_197 rfl rfl rfl rfl ?_
                  refine w_lo dX9_minuteGoes_199 rfl rfl rfl rfl ?_
                  refine w_ieq_f dX9_minuteGoes_201 (t := 234) rfl (by have := zt_1; omega) ?_
                  refine w_lo dX9_minuteGoes_204 rfl rfl rfl rfl ?_
                  refine w_gf dX9_minuteGoes_205 rfl hJ208.1.1 zs_386 (zr_386_21 hJ208.1) ?_
                  refine w_lo dX9_minuteGoes_208 rfl rfl rfl rfl ?_
                  refine w_gf dX9_minuteGoes_209 rfl hJ208.1.1 zs_386 f210 ?_
                  refine w_iai dX9_minuteGoes_212 hJ208.1 zs_396 (by omega) (by omega) zu_396 ?_
                  intro x223 f220 h221 h222
                  replace hb : zHd _ := hb x223.toInt (ziEk f220 rfl) h221 h222
                  rcases zcut (0 : Int) x223.toInt with h224 | h224
                  · skip
                    replace hb : zHd _ := hb.1 h224
                    refine w_ile_f dX9_minuteGoes_213 (t := 234) rfl (by omega) ?_
                    refine w_lo dX9_minuteGoes_216 rfl rfl rfl rfl ?_
                    refine w_lo dX9_minuteGoes_217 rfl rfl rfl rfl ?_
                    refine w_lo dX9_minuteGoes_218 rfl rfl rfl rfl ?_
                    refine w_lo dX9_minuteGoes_219 rfl rfl rfl rfl ?_
                    refine w_iv dX9_minuteGoes_220 rfl rfl (As := []) rfl rfl hJ208.1.1 zs_386 (Nat.le_of_ble_eq_true rfl) ?_
                    obtain ⟨P227, hp228, hb⟩ := hb
                    replace hb : zHd _ := hb
                    refine ZV.imp (u_2389 hN hJ208.1 hp228) ?_
                    rintro _ ⟨x230, M225, rfl, h231, h232, hJ226, hq229⟩
                    replace hb : zHd _ := hb x230.toInt h231 h232 (zi M225) (zi_fr hJ226.2) hq229
                    have hJ234 := zJ_trans hJ208 hJ226 (zSub_cons (fun _ _ h h' hk => zIR_s (zIR_s (zIR_s (zIR_s (zIR_e (by omega) (by omega) hk))))) zSub_nil)
                    show ZW _ _ _ _ _ _ _ (223, [some (.ref 386), some (.int v137_1), some (.int v137_2), some (.int x164), some (.int 1), o137_5, o137_6], [.int x230, .int x164, .int v137_1, .ref 386], M225)
                    refine w_lo dX9_minuteGoes_223 rfl rfl rfl rfl ?_
                    refine w_gf dX9_minuteGoes_224 rfl hJ234.1.1 zs_386 (zr_386_49 hJ234.1) ?_
                    refine w_lo dX9_minuteGoes_227 rfl rfl rfl rfl ?_
                    refine w_iai dX9_minuteGoes_228 hJ234.1 zs_418 (by omega) (by omega) zu_418 ?_
                    intro x238 f235 h236 h237
                    replace hb : zHd _ := hb x238.toInt (ziEk f235 rfl)
                    refine w_lo dX9_minuteGoes_229 rfl rfl rfl rfl ?_
                    refine w_iv dX9_minuteGoes_230 rfl rfl (As := [.int v137_1, .int x164, .int x230, .int x238, .int x164]) rfl rfl hJ234.1.1 zs_386 (Nat.le_of_ble_eq_true rfl) ?_
                    obtain ⟨P241, hp242, hb⟩ := hb
                    replace hb : zHd _ := hb
                    refine ZV.imp (u_2380 v137_1 (by omega) (by omega) x164 (by omega) (by omega) x230 (by omega) (by omega) x238 x164 (by omega) (by omega) hN hJ234.1 hp242) ?_
                    rintro _ ⟨x244, M239, rfl, h245, h246, hJ240, hq243⟩
                    replace hb : zHd _ := hb x244.toInt  (zi M239) (zi_fr hJ240.2) hq243
                    have hJ248 := zJ_trans hJ234 hJ240 (zSub_cons (fun _ _ h h' hk => zIR_a (by omega) (by omega)) (zSub_cons (fun _ _ h h' hk => zIR_s (zIR_a (by omega) (by omega))) (zSub_cons (fun _ _ h h' hk => zIR_s (zIR_s (zIR_a (by omega) (by omega)))) (zSub_cons (fun _ _ h h' hk => zIR_s (zIR_s (zIR_s (zIR_a (by omega) (by omega))))) (zSub_cons (fun _ _ h h' hk => zIR_s (zIR_s (zIR_s (zIR_s (zIR_s (zIR_e (by omega) (by omega) hk)))))) (zSub_cons (fun _ _ h h' hk => zIR_s (zIR_s (zIR_s (zIR_s (zIR_s (zIR_s (zIR_e (by omega) (by omega) hk))))))) (zSub_cons (fun _ _ h h' hk => zIR_s (zIR_s (zIR_s (zIR_s (zIR_s (zIR_s (zIR_s (zIR_e (by omega) (by omega) hk)))))))) (zSub_cons (fun _ _ h h' hk => zIR_s (zIR_s (zIR_s (zIR_s (zIR_s (zIR_s (zIR_s (zIR_s (zIR_e (by omega) (by omega) hk))))))))) (zSub_cons (fun _ _ h h' hk => zIR_s (zIR_s (zIR_s (zIR_s (zIR_s (zIR_s (zIR_s (zIR_s (zIR_s (zIR_e (by omega) (by omega) hk)))))))))) zSub_nil)))))))))
                    show ZW _ _ _ _ _ _ _ (233, [some (.ref 386), some (.int v137_1), some (.int v137_2), some (.int x164), some (.int 1), o137_5, o137_6], [.int x244], M239)
                    refine w_pu dX9_minuteGoes_233 rfl rfl ?_
                    refine w_inc (kk := 2) dX9_minuteGoes_234 rfl (m := 1) (by decide) (by omega) ?_
                    intro x249 h250
                    refine ⟨_, rfl, ?_⟩
                    replace hb : zHd _ := hb x249.toInt h250
                    show ZW _ _ _ _ _ _ _ (237, [some (.ref 386), some (.int v137_1), some (.int x249), some (.int x164), some (.int 1), o137_5, o137_6], [], M239)
                    refine w_gt dX9_minuteGoes_237 (t := 137) rfl ?_
                    obtain ⟨m, hm, hI⟩ := hb
                    exact (ih m hm).2.1 M239 v137_1 x249 (some (.int x164)) (some (.int 1)) o137_5 o137_6 hJ248 (by omega) (by omega) (by omega) (by omega) hI
                  · skip
                    replace hb : zHd _ := hb.2 h224
                    refine w_ile_t dX9_minuteGoes_213 (t := 234) rfl (by omega) ?_
                    refine w_inc (kk := 2) dX9_minuteGoes_234 rfl (m := 1) (by decide) (by omega) ?_
                    intro x251 h252
                    refine ⟨_, rfl, ?_⟩
                    replace hb : zHd _ := hb x251.toInt h252
                    show ZW _ _ _ _ _ _ _ (237, [some (.ref 386), some (.int v137_1), some (.int x251), some (.int x164), some (.int 1), o137_5, o137_6], [], M201)
                    refine w_gt dX9_minuteGoes_237 (t := 137) rfl ?_
                    obtain ⟨m, hm, hI⟩ := hb
                    exact (ih m hm).2.1 M201 v137_1 x251 (some (.int x164)) (some (.int 1)) o137_5 o137_6 hJ208 (by omega) (by omega) (by omega) (by omega) hI
                · skip
                  replace hb : zHd _ := hb.2 h219
                  refine w_cge_t dX9_minuteGoes_189 (t := 196) rfl (by omega) ?_
                  refine w_ic dX9_minuteGoes_196 zi_0 ?_
                  refine w_lo (ml' := [some (.ref 386), some (.int v137_1), some (.int v137_2), some (.int x164), some (.int 0), o137_5, o137_6]) dX9_minuteGoes_197 rfl rfl rfl rfl ?_
                  refine w_lo dX9_minuteGoes_199 rfl rfl rfl rfl ?_
                  refine w_ieq_t dX9_minuteGoes_201 (t := 234) rfl (by have := zt_0; omega) ?_
                  refine w_inc (kk := 2) dX9_minuteGoes_234 rfl (m := 1) (by decide) (by omega) ?_
                  intro x253 h254
                  refine ⟨_, rfl, ?_⟩
                  replace hb : zHd _ := hb x253.toInt h254
                  show ZW _ _ _ _ _ _ _ (237, [some (.ref 386), some (.int v137_1), some (.int x253), some (.int x164), some (.int 0), o137_5, o137_6], [], M201)
                  refine w_gt dX9_minuteGoes_237 (t := 137) rfl ?_
                  obtain ⟨m, hm, hI⟩ := hb
                  exact (ih m hm).2.1 M201 v137_1 x253 (some (.int x164)) (some (.int 0)) o137_5 o137_6 hJ208 (by omega) (by omega) (by omega) (by omega) hI
        · skip
          replace hb : zHd _ := hb.2 h156
          refine w_cge_t dX9_minuteGoes_142 (t := 240) rfl (by omega) ?_
          refine w_ic dX9_minuteGoes_240 zi_0 ?_
          refine w_lo (ml' := [some (.ref 386), some (.int v137_1), some (.int 0), o137_3, o137_4, o137_5, o137_6]) dX9_minuteGoes_241 rfl rfl rfl rfl ?_
          obtain ⟨m, hm, hI⟩ := hb
          exact (ih m hm).2.2 M v137_1 0 o137_3 o137_4 o137_5 o137_6 hJ (by omega) (by omega) (by have := zt_0; omega) (by have := zt_0; omega) hI
      · intro M v242_1 v242_2 o242_3 o242_4 o242_5 o242_6 hJ v242_10 v242_11 v242_20 v242_21 hI
        have hb : zHd _ := hb242 n (zi M) v242_1.toInt v242_2.toInt (zi_fr hJ.2) v242_10 v242_11 v242_20 v242_21 hI
        refine w_lo dX9_minuteGoes_242 rfl rfl rfl rfl ?_
        refine w_lo dX9_minuteGoes_243 rfl rfl rfl rfl ?_
        refine w_iv dX9_minuteGoes_244 rfl rfl (As := []) rfl rfl hJ.1.1 zs_386 (Nat.le_of_ble_eq_true rfl) ?_
        refine ZV.of (ini := false) rfl (Nat.le_of_ble_eq_true rfl) (by decide +kernel) ?_
        show ZW _ _ _ _ _ _ _ (0, [some (.ref 386)], [], M)
        refine w_lo dX9_many_0 rfl rfl rfl rfl ?_
        refine w_gf dX9_many_1 rfl hJ.1.1 zs_386 (zr_386_13 hJ.1) ?_
        refine w_lo dX9_many_4 rfl rfl rfl rfl ?_
        refine w_gfi dX9_many_5 rfl hJ.1 zs_386 (Nat.le_of_ble_eq_true rfl) zo_386_12 ?_
        intro x255 f256 h257 h258
        replace hb : zHd _ := hb x255.toInt (ziE f256) h257 h258
        refine w_iai dX9_many_8 hJ.1 zs_388 (by omega) (by omega) zu_388 ?_
        intro x262 f259 h260 h261
        replace hb : zHd _ := hb x262.toInt (ziEk f259 rfl) h260 h261
        refine w_eni dX9_many_9 rfl rfl ?_
        show ZW _ _ _ _ _ _ _ (247, [some (.ref 386), some (.int v242_1), some (.int v242_2), o242_3, o242_4, o242_5, o242_6], [.int x262, .int v242_2], M)
        rcases zcut v242_2.toInt x262.toInt with h263 | h263
        · skip
          replace hb : zHd _ := hb.1 h263
          refine w_cge_f dX9_minuteGoes_247 (t := 302) rfl (by omega) ?_
          refine w_bi dX9_minuteGoes_250 (c := 12) (by decide) ?_
          refine w_lo dX9_minuteGoes_252 rfl rfl rfl rfl ?_
          refine w_mulc dX9_minuteGoes_253 zt_12 (by have := zt_12; omega) ?_
          intro x264 h265
          have := zt_12
          replace hb : zHd _ := hb x264.toInt (by have := zt_12; omega)
          refine w_lo dX9_minuteGoes_254 rfl rfl rfl rfl ?_
          refine w_add dX9_minuteGoes_255 (by omega) ?_
          intro x266 h267
          replace hb : zHd _ := hb x266.toInt (by omega)
          refine w_lo (ml' := [some (.ref 386), some (.int v242_1), some (.int v242_2), some (.int x266), o242_4, o242_5, o242_6]) dX9_minuteGoes_256 rfl rfl rfl rfl ?_
          refine w_lo dX9_minuteGoes_257 rfl rfl rfl rfl ?_
          refine w_gf dX9_minuteGoes_258 rfl hJ.1.1 zs_386 (zr_386_52 hJ.1) ?_
          refine w_lo dX9_minuteGoes_261 rfl rfl rfl rfl ?_
          refine w_iai dX9_minuteGoes_262 hJ.1 zs_421 (by omega) (by omega) zu_421 ?_
          intro x271 f268 h269 h270
          replace hb : zHd _ := hb x271.toInt (ziEk f268 rfl) h269 h270
          refine w_ic dX9_minuteGoes_263 zi_m1 ?_
          rcases Int.decEq x271.toInt (-1 : Int) with h272 | h272
          · skip
            replace hb : zHd _ := hb.1 h272
            refine w_cne_t dX9_minuteGoes_264 (t := 270) rfl (by have := zt_m1; omega) ?_
            refine w_lo dX9_minuteGoes_270 rfl rfl rfl rfl ?_
            refine w_gf dX9_minuteGoes_271 rfl hJ.1.1 zs_386 (zr_386_53 hJ.1) ?_
            refine w_lo dX9_minuteGoes_274 rfl rfl rfl rfl ?_
            refine w_pu dX9_minuteGoes_275 rfl rfl ?_
            refine w_iai dX9_minuteGoes_276 hJ.1 zs_422 (by omega) (by omega) zu_422 ?_
            intro x276 f273 h274 h275
            replace hb : zHd _ := hb x276.toInt (ziEk f273 rfl)
            refine w_ic dX9_minuteGoes_277 zi_1 ?_
            refine w_puI dX9_minuteGoes_278 rfl rfl ?_
            intro x277
            replace hb : zHd _ := hb x277.toInt 
            refine w_isi dX9_minuteGoes_279 hJ zs_422 (by omega) (by omega) zu_422 (zbot _) (ztop _) (zIR_s (zIR_a (by omega) (by omega))) ?_
            intro M278 hJ279 f280 hn281
            replace hb : zHd _ := hb (zi M278) (zi_zup hn281 f280 rfl rfl)
            refine w_lo dX9_minuteGoes_280 rfl rfl rfl rfl ?_
            refine w_gf dX9_minuteGoes_281 rfl hJ279.1.1 zs_386 (zr_386_53 hJ279.1) ?_
            refine w_lo dX9_minuteGoes_284 rfl rfl rfl rfl ?_
            refine w_ia dX9_minuteGoes_285 hJ279.1.1 zs_422 (znat (by omega)) f280 ?_
            rcases Int.decEq x277.toInt (0 : Int) with h286 | h286
            · skip
              replace hb : zHd _ := hb.1 h286
              refine w_ine_t dX9_minuteGoes_286 (t := 296) rfl (by omega) ?_
              refine w_inc (kk := 2) dX9_minuteGoes_296 rfl (m := 1) (by decide) (by omega) ?_
              intro x287 h288
              refine ⟨_, rfl, ?_⟩
              replace hb : zHd _ := hb x287.toInt h288
              show ZW _ _ _ _ _ _ _ (299, [some (.ref 386), some (.int v242_1), some (.int x287), some (.int x266), o242_4, o242_5, o242_6], [], M278)
              refine w_gt dX9_minuteGoes_299 (t := 242) rfl ?_
              obtain ⟨m, hm, hI⟩ := hb
              exact (ih m hm).2.2 M278 v242_1 x287 (some (.int x266)) o242_4 o242_5 o242_6 hJ279 (by omega) (by omega) (by omega) (by omega) hI
            · skip
              replace hb : zHd _ := hb.2 h286
              refine w_ine_f dX9_minuteGoes_286 (t := 296) rfl (by omega) ?_
              refine w_lo dX9_minuteGoes_289 rfl rfl rfl rfl ?_
              refine w_gf dX9_minuteGoes_290 rfl hJ279.1.1 zs_386 (zr_386_52 hJ279.1) ?_
              refine w_lo dX9_minuteGoes_293 rfl rfl rfl rfl ?_
              refine w_ic dX9_minuteGoes_294 zi_m1 ?_
              refine w_isi dX9_minuteGoes_295 hJ279 zs_421 (by omega) (by omega) zu_421 (by have := zt_m1; omega) (by have := zt_m1; omega) (zIR_s (zIR_a (by omega) (by omega))) ?_
              intro M289 hJ290 f291 hn292
              replace hb : zHd _ := hb (zi M289) (zi_zup hn292 f291 rfl zt_m1)
              refine w_inc (kk := 2) dX9_minuteGoes_296 rfl (m := 1) (by decide) (by omega) ?_
              intro x294 h295
              refine ⟨_, rfl, ?_⟩
              replace hb : zHd _ := hb x294.toInt h295
              show ZW _ _ _ _ _ _ _ (299, [some (.ref 386), some (.int v242_1), some (.int x294), some (.int x266), o242_4, o242_5, o242_6], [], M289)
              refine w_gt dX9_minuteGoes_299 (t := 242) rfl ?_
              obtain ⟨m, hm, hI⟩ := hb
              exact (ih m hm).2.2 M289 v242_1 x294 (some (.int x266)) o242_4 o242_5 o242_6 hJ290 (by omega) (by omega) (by omega) (by omega) hI
          · skip
            replace hb : zHd _ := hb.2 h272
            refine w_cne_f dX9_minuteGoes_264 (t := 270) rfl (by have := zt_m1; omega) ?_
            refine w_gt dX9_minuteGoes_267 (t := 296) rfl ?_
            refine w_inc (kk := 2) dX9_minuteGoes_296 rfl (m := 1) (by decide) (by omega) ?_
            intro x296 h297
            refine ⟨_, rfl, ?_⟩
            replace hb : zHd _ := hb x296.toInt h297
            show ZW _ _ _ _ _ _ _ (299, [some (.ref 386), some (.int v242_1), some (.int x296), some (.int x266), o242_4, o242_5, o242_6], [], M)
            refine w_gt dX9_minuteGoes_299 (t := 242) rfl ?_
            obtain ⟨m, hm, hI⟩ := hb
            exact (ih m hm).2.2 M v242_1 x296 (some (.int x266)) o242_4 o242_5 o242_6 hJ (by omega) (by omega) (by omega) (by omega) hI
        · skip
          replace hb : zHd _ := hb.2 h263
          refine w_cge_t dX9_minuteGoes_247 (t := 302) rfl (by omega) ?_
          refine w_lo dX9_minuteGoes_302 rfl rfl rfl rfl ?_
          refine w_gf dX9_minuteGoes_303 rfl hJ.1.1 zs_386 (zr_386_49 hJ.1) ?_
          refine w_lo dX9_minuteGoes_306 rfl rfl rfl rfl ?_
          refine w_pu dX9_minuteGoes_307 rfl rfl ?_
          refine w_iai dX9_minuteGoes_308 hJ.1 zs_418 (by omega) (by omega) zu_418 ?_
          intro x301 f298 h299 h300
          replace hb : zHd _ := hb x301.toInt (ziEk f298 rfl)
          refine w_ic dX9_minuteGoes_309 zi_1 ?_
          refine w_puI dX9_minuteGoes_310 rfl rfl ?_
          intro x302
          replace hb : zHd _ := hb x302.toInt 
          refine w_isi dX9_minuteGoes_311 hJ zs_418 (by omega) (by omega) zu_418 (zbot _) (ztop _) (zIR_a (by omega) (by omega)) ?_
          intro M303 hJ304 f305 hn306
          replace hb : zHd _ := hb (zi M303) (zi_zup hn306 f305 rfl rfl)
          refine w_en dX9_minuteGoes_312 rfl ?_
          exact ⟨_, rfl, hJ304, hb⟩
  have hb : zHd _ := hbE
  show ZW _ _ _ _ _ _ _ (0, [some (.ref 386), some (.int a0), none, none, none, none, none], [], M0)
  refine w_ic dX9_minuteGoes_0 zi_0 ?_
  refine w_lo (ml' := [some (.ref 386), some (.int a0), some (.int 0), none, none, none, none]) dX9_minuteGoes_1 rfl rfl rfl rfl ?_
  obtain ⟨m, hI⟩ := hb
  exact (main m).1 M0 a0 0 none none none none hJ0 (by omega) (by omega) (by have := zt_0; omega) (by have := zt_0; omega) hI
set_option maxRecDepth 100000 in
theorem u_2376 {X : List Int32} {d N : Nat} {M0 : zM} (a0 : Int32) (hN : N ≤ 600) (hB0 : zB N M0) {Q : Int → zF → Prop} (hb : b_2376 (zi M0) a0.toInt Q) : ZV X (d + 10) 2376 [.ref 386, .int a0] M0 (zRI N [(415, 433, 1000), (434, 436, 1000), (386, 387, 64), (386, 387, 65), (386, 387, 66), (386, 387, 70), (386, 387, 71), (386, 387, 72), (386, 387, 74), (386, 387, 75)] M0 (-2147483648) (2147483647) (fun v M' => Q v.toInt (zi M'))) := by
  have hJ0 : zJ N [(415, 433, 1000), (434, 436, 1000), (386, 387, 64), (386, 387, 65), (386, 387, 66), (386, 387, 70), (386, 387, 71), (386, 387, 72), (386, 387, 74), (386, 387, 75)] M0 M0 := zJ_refl hB0
  refine ZV.of (ini := false) rfl (Nat.le_of_ble_eq_true rfl) (by decide +kernel) ?_
  obtain ⟨I46, hbE, hb46⟩ := hb
  replace hbE : zHd _ := hbE
  replace hb46 : zHd _ := hb46
  have main : ∀ n : Nat,
      (∀ (M : zM) (v46_1 : Int32) (v46_2 : Int32), zJ N [(415, 433, 1000), (434, 436, 1000), (386, 387, 64), (386, 387, 65), (386, 387, 66), (386, 387, 70), (386, 387, 71), (386, 387, 72), (386, 387, 74), (386, 387, 75)] M0 M → ((1 : Int) ≤ v46_1.toInt) → (v46_1.toInt ≤ 99) → ((0 : Int) ≤ v46_2.toInt) → (v46_2.toInt ≤ 99) → I46 n (zi M) v46_1.toInt v46_2.toInt → ZW X (d + 9) 9 false (some .int) cX9_go (zRI N [(415, 433, 1000), (434, 436, 1000), (386, 387, 64), (386, 387, 65), (386, 387, 66), (386, 387, 70), (386, 387, 71), (386, 387, 72), (386, 387, 74), (386, 387, 75)] M0 (-2147483648) (2147483647) (fun v M' => Q v.toInt (zi M'))) (46, [some (.ref 386), some (.int v46_1), some (.int v46_2)], [], M)) := by
    intro n
    induction n using Nat.strongRecOn with
    | _ n ih =>
      · intro M v46_1 v46_2 hJ v46_10 v46_11 v46_20 v46_21 hI
        have hb : zHd _ := hb46 n (zi M) v46_1.toInt v46_2.toInt (zi_fr hJ.2) v46_10 v46_11 v46_20 v46_21 hI
        refine w_lo dX9_go_46 rfl rfl rfl rfl ?_
        refine w_lo dX9_go_47 rfl rfl rfl rfl ?_
        rcases zcut v46_2.toInt v46_1.toInt with h1 | h1
        · skip
          replace hb : zHd _ := hb.1 h1
          refine w_cge_f dX9_go_48 (t := 74) rfl (by omega) ?_
          refine w_lo dX9_go_51 rfl rfl rfl rfl ?_
          refine w_gf dX9_go_52 rfl hJ.1.1 zs_386 (zr_386_49 hJ.1) ?_
          refine w_ic dX9_go_55 zi_0 ?_
          refine w_iai dX9_go_56 hJ.1 zs_418 (by have := zt_0; omega) (by have := zt_0; omega) zu_418 ?_
          intro x5 f2 h3 h4
          replace hb : zHd _ := hb x5.toInt (ziEk f2 (by decide))
          refine w_si dX9_go_57 (c := 999) (by decide) ?_
          rcases zcut x5.toInt (999 : Int) with h6 | h6
          · skip
            replace hb : zHd _ := hb.1 h6
            refine w_cge_f dX9_go_60 (t := 74) rfl (by have := zt_999; omega) ?_
            refine w_lo dX9_go_63 rfl rfl rfl rfl ?_
            refine w_ic dX9_go_64 zi_0 ?_
            refine w_iv dX9_go_65 rfl rfl (As := [.int 0]) rfl rfl hJ.1.1 zs_386 (Nat.le_of_ble_eq_true rfl) ?_
            obtain ⟨P9, hp10, hb⟩ := hb
            replace hb : zHd _ := hb
            have hp10c : b_2378 (zi M) (0 : Int32).toInt P9 := by rw [zt_0]; exact hp10
            refine ZV.imp (u_2378 0 (by have := zt_0; omega) (by have := zt_0; omega) hN hJ.1 hp10c) ?_
            rintro _ ⟨M7, rfl, hJ8, hq11⟩
            replace hb : zHd _ := hb  (zi M7) (zi_fr hJ8.2) hq11
            have hJ13 := zJ_trans hJ hJ8 (zSub_cons (fun _ _ h h' hk => zIR_a (by omega) (by omega)) (zSub_cons (fun _ _ h h' hk => zIR_a (by omega) (by omega)) (zSub_cons (fun _ _ h h' hk => zIR_a (by omega) (by omega)) (zSub_cons (fun _ _ h h' hk => zIR_s (zIR_a (by omega) (by omega))) (zSub_cons (fun _ _ h h' hk => zIR_s (zIR_s (zIR_s (zIR_s (zIR_e (by omega) (by omega) hk))))) (zSub_cons (fun _ _ h h' hk => zIR_s (zIR_s (zIR_s (zIR_s (zIR_s (zIR_e (by omega) (by omega) hk)))))) (zSub_cons (fun _ _ h h' hk => zIR_s (zIR_s (zIR_s (zIR_s (zIR_s (zIR_s (zIR_e (by omega) (by omega) hk))))))) (zSub_cons (fun _ _ h h' hk => zIR_s (zIR_s (zIR_s (zIR_s (zIR_s (zIR_s (zIR_s (zIR_e (by omega) (by omega) hk)))))))) (zSub_cons (fun _ _ h h' hk => zIR_s (zIR_s (zIR_s (zIR_s (zIR_s (zIR_s (zIR_s (zIR_s (zIR_e (by omega) (by omega) hk))))))))) (zSub_cons (fun _ _ h h' hk => zIR_s (zIR_s (zIR_s (zIR_s (zIR_s (zIR_s (zIR_s (zIR_s (zIR_s (zIR_e (by omega) (by omega) hk)))))))))) zSub_nil))))))))))
            show ZW _ _ _ _ _ _ _ (68, [some (.ref 386), some (.int v46_1), some (.int v46_2)], [], M7)
            refine w_inc (kk := 2) dX9_go_68 rfl (m := 1) (by decide) (by omega) ?_
            intro x14 h15
            refine ⟨_, rfl, ?_⟩
            replace hb : zHd _ := hb x14.toInt h15
            show ZW _ _ _ _ _ _ _ (71, [some (.ref 386), some (.int v46_1), some (.int x14)], [], M7)
            refine w_gt dX9_go_71 (t := 46) rfl ?_
            obtain ⟨m, hm, hI⟩ := hb
            exact (ih m hm) M7 v46_1 x14 hJ13 (by omega) (by omega) (by omega) (by omega) hI
          · skip
            replace hb : zHd _ := hb.2 h6
            refine w_cge_t dX9_go_60 (t := 74) rfl (by have := zt_999; omega) ?_
            refine w_lo dX9_go_74 rfl rfl rfl rfl ?_
            refine w_gfi dX9_go_75 rfl hJ.1 zs_386 (Nat.le_of_ble_eq_true rfl) zo_386_75 ?_
            intro x16 f17 h18 h19
            replace hb : zHd _ := hb x16.toInt (ziE f17)
            refine w_eni dX9_go_78 rfl rfl ?_
            exact ⟨_, _, rfl, (zbot _), (ztop _), hJ, hb⟩
        · skip
          replace hb : zHd _ := hb.2 h1
          refine w_cge_t dX9_go_48 (t := 74) rfl (by omega) ?_
          refine w_lo dX9_go_74 rfl rfl rfl rfl ?_
          refine w_gfi dX9_go_75 rfl hJ.1 zs_386 (Nat.le_of_ble_eq_true rfl) zo_386_75 ?_
          intro x20 f21 h22 h23
          replace hb : zHd _ := hb x20.toInt (ziE f21)
          refine w_eni dX9_go_78 rfl rfl ?_
          exact ⟨_, _, rfl, (zbot _), (ztop _), hJ, hb⟩
  have hb : zHd _ := hbE
  show ZW _ _ _ _ _ _ _ (0, [some (.ref 386), some (.int a0), none], [], M0)
  refine w_lo dX9_go_0 rfl rfl rfl rfl ?_
  refine w_ic dX9_go_1 zi_1 ?_
  refine w_bi dX9_go_2 (c := 99) (by decide) ?_
  refine w_ss dX9_go_4 rfl rfl (As := [.int a0, .int 1, .int 99]) rfl rfl (Nat.le_of_ble_eq_true rfl) ?_
  refine ZV.of (ini := false) rfl (Nat.le_of_ble_eq_true rfl) (by decide +kernel) ?_
  show ZW _ _ _ _ _ _ _ (0, [some (.int a0), some (.int 1), some (.int 99)], [], M0)
  refine w_lo dX9_is_0 rfl rfl rfl rfl ?_
  refine w_lo dX9_is_1 rfl rfl rfl rfl ?_
  rcases zcut a0.toInt (1 : Int) with h24 | h24
  · skip
    replace hb : zHd _ := hb.1 h24
    refine w_clt_t dX9_is_2 (t := 14) rfl (by have := zt_1; omega) ?_
    refine w_ic dX9_is_14 zi_0 ?_
    refine w_en dX9_is_15 rfl ?_
    show ZW _ _ _ _ _ _ _ (7, [some (.ref 386), some (.int a0), none], [.int 0], M0)
    refine w_ieq_t dX9_go_7 (t := 29) rfl (by have := zt_0; omega) ?_
    refine w_lo dX9_go_29 rfl rfl rfl rfl ?_
    refine w_ic dX9_go_30 zi_2 ?_
    refine w_iv dX9_go_31 rfl rfl (As := [.int 2]) rfl rfl hJ0.1.1 zs_386 (Nat.le_of_ble_eq_true rfl) ?_
    refine ZV.imp (k_2306 2 (by have := zt_2; omega) (by have := zt_2; omega) hN hJ0.1) ?_
    rintro _ ⟨x28, M25, rfl, h29, h30, hJ26, hq27⟩
    replace hb : zHd _ := hb x28.toInt h29 h30 (zi M25) (zi_fr hJ26.2)
    have hJ32 := zJ_trans hJ0 hJ26 (zSub_cons (fun _ _ h h' hk => zIR_a (by omega) (by omega)) zSub_nil)
    show ZW _ _ _ _ _ _ _ (34, [some (.ref 386), some (.int a0), none], [.int x28], M25)
    refine w_eni dX9_go_34 rfl rfl ?_
    exact ⟨_, _, rfl, (zbot _), (ztop _), hJ32, hb⟩
  · skip
    replace hb : zHd _ := hb.2 h24
    refine w_clt_f dX9_is_2 (t := 14) rfl (by have := zt_1; omega) ?_
    refine w_lo dX9_is_5 rfl rfl rfl rfl ?_
    refine w_lo dX9_is_6 rfl rfl rfl rfl ?_
    rcases zcut (99 : Int) a0.toInt with h33 | h33
    · skip
      replace hb : zHd _ := hb.1 h33
      refine w_cgt_t dX9_is_7 (t := 14) rfl (by have := zt_99; omega) ?_
      refine w_ic dX9_is_14 zi_0 ?_
      refine w_en dX9_is_15 rfl ?_
      show ZW _ _ _ _ _ _ _ (7, [some (.ref 386), some (.int a0), none], [.int 0], M0)
      refine w_ieq_t dX9_go_7 (t := 29) rfl (by have := zt_0; omega) ?_
      refine w_lo dX9_go_29 rfl rfl rfl rfl ?_
      refine w_ic dX9_go_30 zi_2 ?_
      refine w_iv dX9_go_31 rfl rfl (As := [.int 2]) rfl rfl hJ0.1.1 zs_386 (Nat.le_of_ble_eq_true rfl) ?_
      refine ZV.imp (k_2306 2 (by have := zt_2; omega) (by have := zt_2; omega) hN hJ0.1) ?_
      rintro _ ⟨x37, M34, rfl, h38, h39, hJ35, hq36⟩
      replace hb : zHd _ := hb x37.toInt h38 h39 (zi M34) (zi_fr hJ35.2)
      have hJ41 := zJ_trans hJ0 hJ35 (zSub_cons (fun _ _ h h' hk => zIR_a (by omega) (by omega)) zSub_nil)
      show ZW _ _ _ _ _ _ _ (34, [some (.ref 386), some (.int a0), none], [.int x37], M34)
      refine w_eni dX9_go_34 rfl rfl ?_
      exact ⟨_, _, rfl, (zbot _), (ztop _), hJ41, hb⟩
    · skip
      replace hb : zHd _ := hb.2 h33
      refine w_cgt_f dX9_is_7 (t := 14) rfl (by have := zt_99; omega) ?_
      refine w_ic dX9_is_10 zi_1 ?_
      refine w_gt dX9_is_11 (t := 15) rfl ?_
      refine w_en dX9_is_15 rfl ?_
      show ZW _ _ _ _ _ _ _ (7, [some (.ref 386), some (.int a0), none], [.int 1], M0)
      refine w_ieq_f dX9_go_7 (t := 29) rfl (by have := zt_1; omega) ?_
      refine w_lo dX9_go_10 rfl rfl rfl rfl ?_
      refine w_iv dX9_go_11 rfl rfl (As := []) rfl rfl hJ0.1.1 zs_386 (Nat.le_of_ble_eq_true rfl) ?_
      refine ZV.of (ini := false) rfl (Nat.le_of_ble_eq_true rfl) (by decide +kernel) ?_
      show ZW _ _ _ _ _ _ _ (0, [some (.ref 386)], [], M0)
      refine w_lo dX9_many_0 rfl rfl rfl rfl ?_
      refine w_gf dX9_many_1 rfl hJ0.1.1 zs_386 (zr_386_13 hJ0.1) ?_
      refine w_lo dX9_many_4 rfl rfl rfl rfl ?_
      refine w_gfi dX9_many_5 rfl hJ0.1 zs_386 (Nat.le_of_ble_eq_true rfl) zo_386_12 ?_
      intro x42 f43 h44 h45
      replace hb : zHd _ := hb x42.toInt (ziE f43) h44 h45
      refine w_iai dX9_many_8 hJ0.1 zs_388 (by omega) (by omega) zu_388 ?_
      intro x49 f46 h47 h48
      replace hb : zHd _ := hb x49.toInt (ziEk f46 rfl) h47 h48
      refine w_eni dX9_many_9 rfl rfl ?_
      show ZW _ _ _ _ _ _ _ (14, [some (.ref 386), some (.int a0), none], [.int x49], M0)
      rcases Int.decEq x49.toInt (0 : Int) with h50 | h50
      · skip
        replace hb : zHd _ := hb.1 h50
        refine w_ieq_f dX9_go_14 (t := 29) rfl (by omega) ?_
        refine w_lo dX9_go_17 rfl rfl rfl rfl ?_
        refine w_gf dX9_go_18 rfl hJ0.1.1 zs_386 (zr_386_49 hJ0.1) ?_
        refine w_ic dX9_go_21 zi_0 ?_
        refine w_iai dX9_go_22 hJ0.1 zs_418 (by have := zt_0; omega) (by have := zt_0; omega) zu_418 ?_
        intro x54 f51 h52 h53
        replace hb : zHd _ := hb x54.toInt (ziEk f51 (by decide))
        refine w_si dX9_go_23 (c := 999) (by decide) ?_
        rcases Int.decEq x54.toInt (999 : Int) with h55 | h55
        · skip
          replace hb : zHd _ := hb.1 h55
          refine w_cne_t dX9_go_26 (t := 35) rfl (by have := zt_999; omega) ?_
          refine w_lo dX9_go_35 rfl rfl rfl rfl ?_
          refine w_iv dX9_go_36 rfl rfl (As := []) rfl rfl hJ0.1.1 zs_386 (Nat.le_of_ble_eq_true rfl) ?_
          obtain ⟨P58, hp59, hb⟩ := hb
          replace hb : zHd _ := hb
          refine ZV.imp (u_2377 hN hJ0.1 hp59) ?_
          rintro _ ⟨M56, rfl, hJ57, hq60⟩
          replace hb : zHd _ := hb  (zi M56) (zi_fr hJ57.2) hq60
          have hJ62 := zJ_trans hJ0 hJ57 (zSub_cons (fun _ _ h h' hk => zIR_a (by omega) (by omega)) (zSub_cons (fun _ _ h h' hk => zIR_s (zIR_s (zIR_e (by omega) (by omega) hk))) (zSub_cons (fun _ _ h h' hk => zIR_s (zIR_s (zIR_s (zIR_e (by omega) (by omega) hk)))) zSub_nil)))
          show ZW _ _ _ _ _ _ _ (39, [some (.ref 386), some (.int a0), none], [], M56)
          refine w_lo dX9_go_39 rfl rfl rfl rfl ?_
          refine w_ic dX9_go_40 zi_0 ?_
          refine w_pfi dX9_go_41 rfl hJ62 zs_386 (Nat.le_of_ble_eq_true rfl) zo_386_75 (zbot _) (ztop _) (zIR_s (zIR_s (zIR_s (zIR_s (zIR_s (zIR_s (zIR_s (zIR_s (zIR_s (zIR_k (by omega) (by omega))))))))))) rfl rfl rfl ?_
          intro M63 hJ64 f65 hn66
          replace hb : zHd _ := hb (zi M63) (zi_zup hn66 f65 rfl zt_0)
          refine w_ic dX9_go_44 zi_0 ?_
          refine w_lo (ml' := [some (.ref 386), some (.int a0), some (.int 0)]) dX9_go_45 rfl rfl rfl rfl ?_
          obtain ⟨m, hI⟩ := hb
          exact (main m) M63 a0 0 hJ64 (by omega) (by omega) (by have := zt_0; omega) (by have := zt_0; omega) hI
        · skip
          replace hb : zHd _ := hb.2 h55
          refine w_cne_f dX9_go_26 (t := 35) rfl (by have := zt_999; omega) ?_
          refine w_lo dX9_go_29 rfl rfl rfl rfl ?_
          refine w_ic dX9_go_30 zi_2 ?_
          refine w_iv dX9_go_31 rfl rfl (As := [.int 2]) rfl rfl hJ0.1.1 zs_386 (Nat.le_of_ble_eq_true rfl) ?_
          refine ZV.imp (k_2306 2 (by have := zt_2; omega) (by have := zt_2; omega) hN hJ0.1) ?_
          rintro _ ⟨x71, M68, rfl, h72, h73, hJ69, hq70⟩
          replace hb : zHd _ := hb x71.toInt h72 h73 (zi M68) (zi_fr hJ69.2)
          have hJ75 := zJ_trans hJ0 hJ69 (zSub_cons (fun _ _ h h' hk => zIR_a (by omega) (by omega)) zSub_nil)
          show ZW _ _ _ _ _ _ _ (34, [some (.ref 386), some (.int a0), none], [.int x71], M68)
          refine w_eni dX9_go_34 rfl rfl ?_
          exact ⟨_, _, rfl, (zbot _), (ztop _), hJ75, hb⟩
      · skip
        replace hb : zHd _ := hb.2 h50
        refine w_ieq_t dX9_go_14 (t := 29) rfl (by omega) ?_
        refine w_lo dX9_go_29 rfl rfl rfl rfl ?_
        refine w_ic dX9_go_30 zi_2 ?_
        refine w_iv dX9_go_31 rfl rfl (As := [.int 2]) rfl rfl hJ0.1.1 zs_386 (Nat.le_of_ble_eq_true rfl) ?_
        refine ZV.imp (k_2306 2 (by have := zt_2; omega) (by have := zt_2; omega) hN hJ0.1) ?_
        rintro _ ⟨x79, M76, rfl, h80, h81, hJ77, hq78⟩
        replace hb : zHd _ := hb x79.toInt h80 h81 (zi M76) (zi_fr hJ77.2)
        have hJ83 := zJ_trans hJ0 hJ77 (zSub_cons (fun _ _ h h' hk => zIR_a (by omega) (by omega)) zSub_nil)
        show ZW _ _ _ _ _ _ _ (34, [some (.ref 386), some (.int a0), none], [.int x79], M76)
        refine w_eni dX9_go_34 rfl rfl ?_
        exact ⟨_, _, rfl, (zbot _), (ztop _), hJ83, hb⟩
set_option maxRecDepth 100000 in
theorem u_2391 {X : List Int32} {d N : Nat} {M0 : zM} (a0 : Int32) (a1 : Int32) (hN : N ≤ 600) (hB0 : zB N M0) {Q : Int → zF → Prop} (hb : b_2391 (zi M0) a0.toInt a1.toInt Q) : ZV X (d + 9) 2391 [.ref 386, .int a0, .int a1] M0 (zRI N [(415, 433, 1000), (434, 436, 1000), (386, 387, 64), (386, 387, 65), (386, 387, 70), (386, 387, 71), (386, 387, 72), (386, 387, 74), (386, 387, 75)] M0 (-2147483648) (2147483647) (fun v M' => Q v.toInt (zi M'))) := by
  have hJ0 : zJ N [(415, 433, 1000), (434, 436, 1000), (386, 387, 64), (386, 387, 65), (386, 387, 70), (386, 387, 71), (386, 387, 72), (386, 387, 74), (386, 387, 75)] M0 M0 := zJ_refl hB0
  refine ZV.of (ini := false) rfl (Nat.le_of_ble_eq_true rfl) (by decide +kernel) ?_
  unfold b_2391 at hb
  replace hb : zHd _ := hb
  show ZW _ _ _ _ _ _ _ (0, [some (.ref 386), some (.int a0), some (.int a1)], [], M0)
  refine w_lo dX9_dreams_0 rfl rfl rfl rfl ?_
  refine w_lo dX9_dreams_1 rfl rfl rfl rfl ?_
  refine w_iv dX9_dreams_2 rfl rfl (As := [.int a0]) rfl rfl hJ0.1.1 zs_386 (Nat.le_of_ble_eq_true rfl) ?_
  refine ZV.of (ini := false) rfl (Nat.le_of_ble_eq_true rfl) (by decide +kernel) ?_
  show ZW _ _ _ _ _ _ _ (0, [some (.ref 386), some (.int a0)], [], M0)
  refine w_lo dX9_isBoy_0 rfl rfl rfl rfl ?_
  rcases zcut a0.toInt (0 : Int) with h1 | h1
  · skip
    replace hb : zHd _ := hb.1 h1
    refine w_ilt_t dX9_isBoy_1 (t := 21) rfl (by omega) ?_
    refine w_ic dX9_isBoy_21 zi_0 ?_
    refine w_en dX9_isBoy_22 rfl ?_
    show ZW _ _ _ _ _ _ _ (5, [some (.ref 386), some (.int a0), some (.int a1)], [.int 0], M0)
    refine w_ieq_t dX9_dreams_5 (t := 25) rfl (by have := zt_0; omega) ?_
    refine w_lo dX9_dreams_25 rfl rfl rfl rfl ?_
    refine w_ic dX9_dreams_26 zi_2 ?_
    refine w_iv dX9_dreams_27 rfl rfl (As := [.int 2]) rfl rfl hJ0.1.1 zs_386 (Nat.le_of_ble_eq_true rfl) ?_
    refine ZV.imp (k_2306 2 (by have := zt_2; omega) (by have := zt_2; omega) hN hJ0.1) ?_
    rintro _ ⟨x5, M2, rfl, h6, h7, hJ3, hq4⟩
    replace hb : zHd _ := hb x5.toInt h6 h7 (zi M2) (zi_fr hJ3.2)
    have hJ9 := zJ_trans hJ0 hJ3 (zSub_cons (fun _ _ h h' hk => zIR_a (by omega) (by omega)) zSub_nil)
    show ZW _ _ _ _ _ _ _ (30, [some (.ref 386), some (.int a0), some (.int a1)], [.int x5], M2)
    refine w_eni dX9_dreams_30 rfl rfl ?_
    exact ⟨_, _, rfl, (zbot _), (ztop _), hJ9, hb⟩
  · skip
    replace hb : zHd _ := hb.2 h1
    refine w_ilt_f dX9_isBoy_1 (t := 21) rfl (by omega) ?_
    refine w_lo dX9_isBoy_4 rfl rfl rfl rfl ?_
    refine w_lo dX9_isBoy_5 rfl rfl rfl rfl ?_
    refine w_gf dX9_isBoy_6 rfl hJ0.1.1 zs_386 (zr_386_13 hJ0.1) ?_
    refine w_lo dX9_isBoy_9 rfl rfl rfl rfl ?_
    refine w_gfi dX9_isBoy_10 rfl hJ0.1 zs_386 (Nat.le_of_ble_eq_true rfl) zo_386_12 ?_
    intro x10 f11 h12 h13
    replace hb : zHd _ := hb x10.toInt (ziE f11) h12 h13
    refine w_iai dX9_isBoy_13 hJ0.1 zs_388 (by omega) (by omega) zu_388 ?_
    intro x17 f14 h15 h16
    replace hb : zHd _ := hb x17.toInt (ziEk f14 rfl) h15 h16
    rcases zcut a0.toInt x17.toInt with h18 | h18
    · skip
      replace hb : zHd _ := hb.1 h18
      refine w_cge_f dX9_isBoy_14 (t := 21) rfl (by omega) ?_
      refine w_ic dX9_isBoy_17 zi_1 ?_
      refine w_gt dX9_isBoy_18 (t := 22) rfl ?_
      refine w_en dX9_isBoy_22 rfl ?_
      show ZW _ _ _ _ _ _ _ (5, [some (.ref 386), some (.int a0), some (.int a1)], [.int 1], M0)
      refine w_ieq_f dX9_dreams_5 (t := 25) rfl (by have := zt_1; omega) ?_
      refine w_lo dX9_dreams_8 rfl rfl rfl rfl ?_
      refine w_lo dX9_dreams_9 rfl rfl rfl rfl ?_
      refine w_iv dX9_dreams_10 rfl rfl (As := [.int a1]) rfl rfl hJ0.1.1 zs_386 (Nat.le_of_ble_eq_true rfl) ?_
      refine ZV.of (ini := false) rfl (Nat.le_of_ble_eq_true rfl) (by decide +kernel) ?_
      show ZW _ _ _ _ _ _ _ (0, [some (.ref 386), some (.int a1)], [], M0)
      refine w_lo dX9_isDream_0 rfl rfl rfl rfl ?_
      rcases zcut a1.toInt (0 : Int) with h19 | h19
      · skip
        replace hb : zHd _ := hb.1 h19
        refine w_ilt_t dX9_isDream_1 (t := 21) rfl (by omega) ?_
        refine w_ic dX9_isDream_21 zi_0 ?_
        refine w_en dX9_isDream_22 rfl ?_
        show ZW _ _ _ _ _ _ _ (13, [some (.ref 386), some (.int a0), some (.int a1)], [.int 0], M0)
        refine w_ieq_t dX9_dreams_13 (t := 25) rfl (by have := zt_0; omega) ?_
        refine w_lo dX9_dreams_25 rfl rfl rfl rfl ?_
        refine w_ic dX9_dreams_26 zi_2 ?_
        refine w_iv dX9_dreams_27 rfl rfl (As := [.int 2]) rfl rfl hJ0.1.1 zs_386 (Nat.le_of_ble_eq_true rfl) ?_
        refine ZV.imp (k_2306 2 (by have := zt_2; omega) (by have := zt_2; omega) hN hJ0.1) ?_
        rintro _ ⟨x23, M20, rfl, h24, h25, hJ21, hq22⟩
        replace hb : zHd _ := hb x23.toInt h24 h25 (zi M20) (zi_fr hJ21.2)
        have hJ27 := zJ_trans hJ0 hJ21 (zSub_cons (fun _ _ h h' hk => zIR_a (by omega) (by omega)) zSub_nil)
        show ZW _ _ _ _ _ _ _ (30, [some (.ref 386), some (.int a0), some (.int a1)], [.int x23], M20)
        refine w_eni dX9_dreams_30 rfl rfl ?_
        exact ⟨_, _, rfl, (zbot _), (ztop _), hJ27, hb⟩
      · skip
        replace hb : zHd _ := hb.2 h19
        refine w_ilt_f dX9_isDream_1 (t := 21) rfl (by omega) ?_
        refine w_lo dX9_isDream_4 rfl rfl rfl rfl ?_
        refine w_lo dX9_isDream_5 rfl rfl rfl rfl ?_
        refine w_gf dX9_isDream_6 rfl hJ0.1.1 zs_386 (zr_386_21 hJ0.1) ?_
        refine w_lo dX9_isDream_9 rfl rfl rfl rfl ?_
        refine w_gf dX9_isDream_10 rfl hJ0.1.1 zs_386 f11 ?_
        refine w_iai dX9_isDream_13 hJ0.1 zs_396 (by omega) (by omega) zu_396 ?_
        intro x31 f28 h29 h30
        replace hb : zHd _ := hb x31.toInt (ziEk f28 rfl) h29 h30
        rcases zcut a1.toInt x31.toInt with h32 | h32
        · skip
          replace hb : zHd _ := hb.1 h32
          refine w_cge_f dX9_isDream_14 (t := 21) rfl (by omega) ?_
          refine w_ic dX9_isDream_17 zi_1 ?_
          refine w_gt dX9_isDream_18 (t := 22) rfl ?_
          refine w_en dX9_isDream_22 rfl ?_
          show ZW _ _ _ _ _ _ _ (13, [some (.ref 386), some (.int a0), some (.int a1)], [.int 1], M0)
          refine w_ieq_f dX9_dreams_13 (t := 25) rfl (by have := zt_1; omega) ?_
          refine w_lo dX9_dreams_16 rfl rfl rfl rfl ?_
          refine w_ic dX9_dreams_17 zi_0 ?_
          refine w_lo dX9_dreams_18 rfl rfl rfl rfl ?_
          refine w_iv dX9_dreams_19 rfl rfl (As := [.int 0, .int a0]) rfl rfl hJ0.1.1 zs_386 (Nat.le_of_ble_eq_true rfl) ?_
          refine ZV.of (ini := false) rfl (Nat.le_of_ble_eq_true rfl) (by decide +kernel) ?_
          show ZW _ _ _ _ _ _ _ (0, [some (.ref 386), some (.int 0), some (.int a0)], [], M0)
          refine w_lo dX9_canDream_0 rfl rfl rfl rfl ?_
          refine w_gf dX9_canDream_1 rfl hJ0.1.1 zs_386 (zr_386_51 hJ0.1) ?_
          refine w_bi dX9_canDream_4 (c := 12) (by decide) ?_
          refine w_lo dX9_canDream_6 rfl rfl rfl rfl ?_
          refine w_pu (st' := [.int 0, .ref 420]) dX9_canDream_7 rfl rfl ?_
          refine w_lo dX9_canDream_8 rfl rfl rfl rfl ?_
          refine w_add dX9_canDream_9 (by have := zt_0; omega) ?_
          intro x33 h34
          have := zt_0
          replace hb : zHd _ := hb x33.toInt (by have := zt_0; omega)
          refine w_iai dX9_canDream_10 hJ0.1 zs_420 (by omega) (by omega) zu_420 ?_
          intro x38 f35 h36 h37
          replace hb : zHd _ := hb x38.toInt (ziEk f35 rfl) h36 h37
          refine w_ic dX9_canDream_11 zi_1 ?_
          rcases Int.decEq x38.toInt (1 : Int) with h39 | h39
          · skip
            replace hb : zHd _ := hb.1 h39
            refine w_cne_t dX9_canDream_12 (t := 42) rfl (by have := zt_1; omega) ?_
            refine w_ic dX9_canDream_42 zi_0 ?_
            refine w_en dX9_canDream_43 rfl ?_
            show ZW _ _ _ _ _ _ _ (22, [some (.ref 386), some (.int a0), some (.int a1)], [.int 0], M0)
            refine w_ine_f dX9_dreams_22 (t := 31) rfl (by have := zt_0; omega) ?_
            refine w_lo dX9_dreams_25 rfl rfl rfl rfl ?_
            refine w_ic dX9_dreams_26 zi_2 ?_
            refine w_iv dX9_dreams_27 rfl rfl (As := [.int 2]) rfl rfl hJ0.1.1 zs_386 (Nat.le_of_ble_eq_true rfl) ?_
            refine ZV.imp (k_2306 2 (by have := zt_2; omega) (by have := zt_2; omega) hN hJ0.1) ?_
            rintro _ ⟨x43, M40, rfl, h44, h45, hJ41, hq42⟩
            replace hb : zHd _ := hb x43.toInt h44 h45 (zi M40) (zi_fr hJ41.2)
            have hJ47 := zJ_trans hJ0 hJ41 (zSub_cons (fun _ _ h h' hk => zIR_a (by omega) (by omega)) zSub_nil)
            show ZW _ _ _ _ _ _ _ (30, [some (.ref 386), some (.int a0), some (.int a1)], [.int x43], M40)
            refine w_eni dX9_dreams_30 rfl rfl ?_
            exact ⟨_, _, rfl, (zbot _), (ztop _), hJ47, hb⟩
          · skip
            replace hb : zHd _ := hb.2 h39
            refine w_cne_f dX9_canDream_12 (t := 42) rfl (by have := zt_1; omega) ?_
            refine w_lo dX9_canDream_15 rfl rfl rfl rfl ?_
            refine w_lo dX9_canDream_16 rfl rfl rfl rfl ?_
            refine w_iv dX9_canDream_17 rfl rfl (As := [.int a0]) rfl rfl hJ0.1.1 zs_386 (Nat.le_of_ble_eq_true rfl) ?_
            refine ZV.of (ini := false) rfl (Nat.le_of_ble_eq_true rfl) (by decide +kernel) ?_
            show ZW _ _ _ _ _ _ _ (0, [some (.ref 386), some (.int a0)], [], M0)
            refine w_lo dX9_isGhost_0 rfl rfl rfl rfl ?_
            refine w_gf dX9_isGhost_1 rfl hJ0.1.1 zs_386 (zr_386_19 hJ0.1) ?_
            refine w_bi dX9_isGhost_4 (c := 12) (by decide) ?_
            refine w_lo dX9_isGhost_6 rfl rfl rfl rfl ?_
            refine w_gf dX9_isGhost_7 rfl hJ0.1.1 zs_386 f11 ?_
            refine w_mulc dX9_isGhost_10 zt_12 (by have := zt_12; omega) ?_
            intro x48 h49
            have := zt_12
            replace hb : zHd _ := hb x48.toInt (by have := zt_12; omega)
            refine w_lo dX9_isGhost_11 rfl rfl rfl rfl ?_
            refine w_add dX9_isGhost_12 (by omega) ?_
            intro x50 h51
            replace hb : zHd _ := hb x50.toInt (by omega)
            refine w_iai dX9_isGhost_13 hJ0.1 zs_394 (by omega) (by omega) zu_394 ?_
            intro x55 f52 h53 h54
            replace hb : zHd _ := hb x55.toInt (ziEk f52 rfl) h53 h54
            refine w_ic dX9_isGhost_14 zi_2 ?_
            refine w_and dX9_isGhost_15 (m := 2) zt_2 (by omega) ?_
            intro x56 h57 h58
            replace hb : zHd _ := hb x56.toInt h57 h58
            rcases Int.decEq x56.toInt (0 : Int) with h59 | h59
            · skip
              replace hb : zHd _ := hb.1 h59
              refine w_ieq_f dX9_isGhost_16 (t := 23) rfl (by omega) ?_
              refine w_ic dX9_isGhost_19 zi_1 ?_
              refine w_gt dX9_isGhost_20 (t := 24) rfl ?_
              refine w_en dX9_isGhost_24 rfl ?_
              show ZW _ _ _ _ _ _ _ (20, [some (.ref 386), some (.int 0), some (.int a0)], [.int 1], M0)
              refine w_ine_t dX9_canDream_20 (t := 42) rfl (by have := zt_1; omega) ?_
              refine w_ic dX9_canDream_42 zi_0 ?_
              refine w_en dX9_canDream_43 rfl ?_
              show ZW _ _ _ _ _ _ _ (22, [some (.ref 386), some (.int a0), some (.int a1)], [.int 0], M0)
              refine w_ine_f dX9_dreams_22 (t := 31) rfl (by have := zt_0; omega) ?_
              refine w_lo dX9_dreams_25 rfl rfl rfl rfl ?_
              refine w_ic dX9_dreams_26 zi_2 ?_
              refine w_iv dX9_dreams_27 rfl rfl (As := [.int 2]) rfl rfl hJ0.1.1 zs_386 (Nat.le_of_ble_eq_true rfl) ?_
              refine ZV.imp (k_2306 2 (by have := zt_2; omega) (by have := zt_2; omega) hN hJ0.1) ?_
              rintro _ ⟨x63, M60, rfl, h64, h65, hJ61, hq62⟩
              replace hb : zHd _ := hb x63.toInt h64 h65 (zi M60) (zi_fr hJ61.2)
              have hJ67 := zJ_trans hJ0 hJ61 (zSub_cons (fun _ _ h h' hk => zIR_a (by omega) (by omega)) zSub_nil)
              show ZW _ _ _ _ _ _ _ (30, [some (.ref 386), some (.int a0), some (.int a1)], [.int x63], M60)
              refine w_eni dX9_dreams_30 rfl rfl ?_
              exact ⟨_, _, rfl, (zbot _), (ztop _), hJ67, hb⟩
            · skip
              replace hb : zHd _ := hb.2 h59
              refine w_ieq_t dX9_isGhost_16 (t := 23) rfl (by omega) ?_
              refine w_ic dX9_isGhost_23 zi_0 ?_
              refine w_en dX9_isGhost_24 rfl ?_
              show ZW _ _ _ _ _ _ _ (20, [some (.ref 386), some (.int 0), some (.int a0)], [.int 0], M0)
              refine w_ine_f dX9_canDream_20 (t := 42) rfl (by have := zt_0; omega) ?_
              refine w_lo dX9_canDream_23 rfl rfl rfl rfl ?_
              refine w_gf dX9_canDream_24 rfl hJ0.1.1 zs_386 (zr_386_52 hJ0.1) ?_
              refine w_bi dX9_canDream_27 (c := 12) (by decide) ?_
              refine w_lo dX9_canDream_29 rfl rfl rfl rfl ?_
              refine w_pu (st' := [.int 0, .ref 421]) dX9_canDream_30 rfl rfl ?_
              refine w_lo dX9_canDream_31 rfl rfl rfl rfl ?_
              refine w_add dX9_canDream_32 (by have := zt_0; omega) ?_
              intro x68 h69
              have := zt_0
              replace hb : zHd _ := hb x68.toInt (by have := zt_0; omega)
              refine w_iai dX9_canDream_33 hJ0.1 zs_421 (by omega) (by omega) zu_421 ?_
              intro x73 f70 h71 h72
              replace hb : zHd _ := hb x73.toInt (ziEk f70 rfl) h71 h72
              refine w_ic dX9_canDream_34 zi_m1 ?_
              rcases Int.decEq x73.toInt (-1 : Int) with h74 | h74
              · skip
                replace hb : zHd _ := hb.1 h74
                refine w_cne_t dX9_canDream_35 (t := 42) rfl (by have := zt_m1; omega) ?_
                refine w_ic dX9_canDream_42 zi_0 ?_
                refine w_en dX9_canDream_43 rfl ?_
                show ZW _ _ _ _ _ _ _ (22, [some (.ref 386), some (.int a0), some (.int a1)], [.int 0], M0)
                refine w_ine_f dX9_dreams_22 (t := 31) rfl (by have := zt_0; omega) ?_
                refine w_lo dX9_dreams_25 rfl rfl rfl rfl ?_
                refine w_ic dX9_dreams_26 zi_2 ?_
                refine w_iv dX9_dreams_27 rfl rfl (As := [.int 2]) rfl rfl hJ0.1.1 zs_386 (Nat.le_of_ble_eq_true rfl) ?_
                refine ZV.imp (k_2306 2 (by have := zt_2; omega) (by have := zt_2; omega) hN hJ0.1) ?_
                rintro _ ⟨x78, M75, rfl, h79, h80, hJ76, hq77⟩
                replace hb : zHd _ := hb x78.toInt h79 h80 (zi M75) (zi_fr hJ76.2)
                have hJ82 := zJ_trans hJ0 hJ76 (zSub_cons (fun _ _ h h' hk => zIR_a (by omega) (by omega)) zSub_nil)
                show ZW _ _ _ _ _ _ _ (30, [some (.ref 386), some (.int a0), some (.int a1)], [.int x78], M75)
                refine w_eni dX9_dreams_30 rfl rfl ?_
                exact ⟨_, _, rfl, (zbot _), (ztop _), hJ82, hb⟩
              · skip
                replace hb : zHd _ := hb.2 h74
                refine w_cne_f dX9_canDream_35 (t := 42) rfl (by have := zt_m1; omega) ?_
                refine w_ic dX9_canDream_38 zi_1 ?_
                refine w_gt dX9_canDream_39 (t := 43) rfl ?_
                refine w_en dX9_canDream_43 rfl ?_
                show ZW _ _ _ _ _ _ _ (22, [some (.ref 386), some (.int a0), some (.int a1)], [.int 1], M0)
                refine w_ine_t dX9_dreams_22 (t := 31) rfl (by have := zt_1; omega) ?_
                refine w_lo dX9_dreams_31 rfl rfl rfl rfl ?_
                refine w_iv dX9_dreams_32 rfl rfl (As := []) rfl rfl hJ0.1.1 zs_386 (Nat.le_of_ble_eq_true rfl) ?_
                obtain ⟨P85, hp86, hb⟩ := hb
                replace hb : zHd _ := hb
                refine ZV.imp (u_2377 hN hJ0.1 hp86) ?_
                rintro _ ⟨M83, rfl, hJ84, hq87⟩
                replace hb : zHd _ := hb  (zi M83) (zi_fr hJ84.2) hq87
                have hJ89 := zJ_trans hJ0 hJ84 (zSub_cons (fun _ _ h h' hk => zIR_a (by omega) (by omega)) (zSub_cons (fun _ _ h h' hk => zIR_s (zIR_s (zIR_e (by omega) (by omega) hk))) (zSub_cons (fun _ _ h h' hk => zIR_s (zIR_s (zIR_s (zIR_e (by omega) (by omega) hk)))) zSub_nil)))
                show ZW _ _ _ _ _ _ _ (35, [some (.ref 386), some (.int a0), some (.int a1)], [], M83)
                refine w_lo dX9_dreams_35 rfl rfl rfl rfl ?_
                refine w_ic dX9_dreams_36 zi_0 ?_
                refine w_lo dX9_dreams_37 rfl rfl rfl rfl ?_
                refine w_lo dX9_dreams_38 rfl rfl rfl rfl ?_
                refine w_lo dX9_dreams_39 rfl rfl rfl rfl ?_
                refine w_gf dX9_dreams_40 rfl hJ89.1.1 zs_386 (zr_386_49 hJ89.1) ?_
                refine w_ic dX9_dreams_43 zi_0 ?_
                refine w_iai dX9_dreams_44 hJ89.1 zs_418 (by have := zt_0; omega) (by have := zt_0; omega) zu_418 ?_
                intro x93 f90 h91 h92
                replace hb : zHd _ := hb x93.toInt (ziEk f90 (by decide))
                refine w_lo dX9_dreams_45 rfl rfl rfl rfl ?_
                refine w_iv dX9_dreams_46 rfl rfl (As := [.int 0, .int a0, .int a1, .int x93, .int a0]) rfl rfl hJ89.1.1 zs_386 (Nat.le_of_ble_eq_true rfl) ?_
                obtain ⟨P96, hp97, hb⟩ := hb
                replace hb : zHd _ := hb
                have hp97c : b_2380 (zi M83) (0 : Int32).toInt a0.toInt a1.toInt x93.toInt a0.toInt P96 := by rw [zt_0]; exact hp97
                refine ZV.imp (u_2380 0 (by have := zt_0; omega) (by have := zt_0; omega) a0 (by omega) (by omega) a1 (by omega) (by omega) x93 a0 (by omega) (by omega) hN hJ89.1 hp97c) ?_
                rintro _ ⟨x99, M94, rfl, h100, h101, hJ95, hq98⟩
                replace hb : zHd _ := hb x99.toInt  (zi M94) (zi_fr hJ95.2) hq98
                have hJ103 := zJ_trans hJ89 hJ95 (zSub_cons (fun _ _ h h' hk => zIR_a (by omega) (by omega)) (zSub_cons (fun _ _ h h' hk => zIR_a (by omega) (by omega)) (zSub_cons (fun _ _ h h' hk => zIR_a (by omega) (by omega)) (zSub_cons (fun _ _ h h' hk => zIR_s (zIR_a (by omega) (by omega))) (zSub_cons (fun _ _ h h' hk => zIR_s (zIR_s (zIR_s (zIR_s (zIR_e (by omega) (by omega) hk))))) (zSub_cons (fun _ _ h h' hk => zIR_s (zIR_s (zIR_s (zIR_s (zIR_s (zIR_e (by omega) (by omega) hk)))))) (zSub_cons (fun _ _ h h' hk => zIR_s (zIR_s (zIR_s (zIR_s (zIR_s (zIR_s (zIR_e (by omega) (by omega) hk))))))) (zSub_cons (fun _ _ h h' hk => zIR_s (zIR_s (zIR_s (zIR_s (zIR_s (zIR_s (zIR_s (zIR_e (by omega) (by omega) hk)))))))) (zSub_cons (fun _ _ h h' hk => zIR_s (zIR_s (zIR_s (zIR_s (zIR_s (zIR_s (zIR_s (zIR_s (zIR_e (by omega) (by omega) hk))))))))) zSub_nil)))))))))
                show ZW _ _ _ _ _ _ _ (49, [some (.ref 386), some (.int a0), some (.int a1)], [.int x99], M94)
                refine w_eni dX9_dreams_49 rfl rfl ?_
                exact ⟨_, _, rfl, (zbot _), (ztop _), hJ103, hb⟩
        · skip
          replace hb : zHd _ := hb.2 h32
          refine w_cge_t dX9_isDream_14 (t := 21) rfl (by omega) ?_
          refine w_ic dX9_isDream_21 zi_0 ?_
          refine w_en dX9_isDream_22 rfl ?_
          show ZW _ _ _ _ _ _ _ (13, [some (.ref 386), some (.int a0), some (.int a1)], [.int 0], M0)
          refine w_ieq_t dX9_dreams_13 (t := 25) rfl (by have := zt_0; omega) ?_
          refine w_lo dX9_dreams_25 rfl rfl rfl rfl ?_
          refine w_ic dX9_dreams_26 zi_2 ?_
          refine w_iv dX9_dreams_27 rfl rfl (As := [.int 2]) rfl rfl hJ0.1.1 zs_386 (Nat.le_of_ble_eq_true rfl) ?_
          refine ZV.imp (k_2306 2 (by have := zt_2; omega) (by have := zt_2; omega) hN hJ0.1) ?_
          rintro _ ⟨x107, M104, rfl, h108, h109, hJ105, hq106⟩
          replace hb : zHd _ := hb x107.toInt h108 h109 (zi M104) (zi_fr hJ105.2)
          have hJ111 := zJ_trans hJ0 hJ105 (zSub_cons (fun _ _ h h' hk => zIR_a (by omega) (by omega)) zSub_nil)
          show ZW _ _ _ _ _ _ _ (30, [some (.ref 386), some (.int a0), some (.int a1)], [.int x107], M104)
          refine w_eni dX9_dreams_30 rfl rfl ?_
          exact ⟨_, _, rfl, (zbot _), (ztop _), hJ111, hb⟩
    · skip
      replace hb : zHd _ := hb.2 h18
      refine w_cge_t dX9_isBoy_14 (t := 21) rfl (by omega) ?_
      refine w_ic dX9_isBoy_21 zi_0 ?_
      refine w_en dX9_isBoy_22 rfl ?_
      show ZW _ _ _ _ _ _ _ (5, [some (.ref 386), some (.int a0), some (.int a1)], [.int 0], M0)
      refine w_ieq_t dX9_dreams_5 (t := 25) rfl (by have := zt_0; omega) ?_
      refine w_lo dX9_dreams_25 rfl rfl rfl rfl ?_
      refine w_ic dX9_dreams_26 zi_2 ?_
      refine w_iv dX9_dreams_27 rfl rfl (As := [.int 2]) rfl rfl hJ0.1.1 zs_386 (Nat.le_of_ble_eq_true rfl) ?_
      refine ZV.imp (k_2306 2 (by have := zt_2; omega) (by have := zt_2; omega) hN hJ0.1) ?_
      rintro _ ⟨x115, M112, rfl, h116, h117, hJ113, hq114⟩
      replace hb : zHd _ := hb x115.toInt h116 h117 (zi M112) (zi_fr hJ113.2)
      have hJ119 := zJ_trans hJ0 hJ113 (zSub_cons (fun _ _ h h' hk => zIR_a (by omega) (by omega)) zSub_nil)
      show ZW _ _ _ _ _ _ _ (30, [some (.ref 386), some (.int a0), some (.int a1)], [.int x115], M112)
      refine w_eni dX9_dreams_30 rfl rfl ?_
      exact ⟨_, _, rfl, (zbot _), (ztop _), hJ119, hb⟩
set_option maxRecDepth 100000 in
theorem u_2402 {X : List Int32} {d N : Nat} {M0 : zM} (a0 : Int32) (hN : N ≤ 600) (hB0 : zB N M0) {Q : Int → zF → Prop} (hb : b_2402 (zi M0) a0.toInt Q) : ZV X (d + 9) 2402 [.ref 386, .int a0] M0 (zRI N [(416, 418, 1000), (434, 437, 1000), (386, 387, 70), (386, 387, 71), (386, 387, 72), (386, 387, 74)] M0 (-2147483648) (2147483647) (fun v M' => Q v.toInt (zi M'))) := by
  have hJ0 : zJ N [(416, 418, 1000), (434, 437, 1000), (386, 387, 70), (386, 387, 71), (386, 387, 72), (386, 387, 74)] M0 M0 := zJ_refl hB0
  refine ZV.of (ini := false) rfl (Nat.le_of_ble_eq_true rfl) (by decide +kernel) ?_
  obtain ⟨I35, I63, I90, hbE, hb35, hb63, hb90⟩ := hb
  replace hbE : zHd _ := hbE
  replace hb35 : zHd _ := hb35
  replace hb63 : zHd _ := hb63
  replace hb90 : zHd _ := hb90
  have main : ∀ n : Nat,
      (∀ (M : zM) (v35_1 : Int32) (v35_2 : Int32) (o35_3 : Option Value) (o35_4 : Option Value) (o35_5 : Option Value) (o35_6 : Option Value), zJ N [(416, 418, 1000), (434, 437, 1000), (386, 387, 70), (386, 387, 71), (386, 387, 72), (386, 387, 74)] M0 M → ((-1 : Int) ≤ v35_1.toInt) → (v35_1.toInt ≤ 5) → ((0 : Int) ≤ v35_2.toInt) → (v35_2.toInt ≤ 12) → I35 n (zi M) v35_1.toInt v35_2.toInt → ZW X (d + 8) 9 false (some .int) cX9_best (zRI N [(416, 418, 1000), (434, 437, 1000), (386, 387, 70), (386, 387, 71), (386, 387, 72), (386, 387, 74)] M0 (-2147483648) (2147483647) (fun v M' => Q v.toInt (zi M'))) (35, [some (.ref 386), some (.int v35_1), some (.int v35_2), o35_3, o35_4, o35_5, o35_6], [], M)) ∧
      (∀ (M : zM) (v63_1 : Int32) (v63_2 : Int32) (v63_3 : Int32) (v63_4 : Int32) (o63_5 : Option Value) (o63_6 : Option Value), zJ N [(416, 418, 1000), (434, 437, 1000), (386, 387, 70), (386, 387, 71), (386, 387, 72), (386, 387, 74)] M0 M → ((-1 : Int) ≤ v63_1.toInt) → (v63_1.toInt ≤ 5) → ((-2147483648 : Int) ≤ v63_2.toInt) → (v63_2.toInt ≤ 2147483647) → ((0 : Int) ≤ v63_3.toInt) → (v63_3.toInt ≤ 1) → ((0 : Int) ≤ v63_4.toInt) → (v63_4.toInt ≤ 1) → I63 n (zi M) v63_1.toInt v63_2.toInt v63_3.toInt v63_4.toInt → ZW X (d + 8) 9 false (some .int) cX9_best (zRI N [(416, 418, 1000), (434, 437, 1000), (386, 387, 70), (386, 387, 71), (386, 387, 72), (386, 387, 74)] M0 (-2147483648) (2147483647) (fun v M' => Q v.toInt (zi M'))) (63, [some (.ref 386), some (.int v63_1), some (.int v63_2), some (.int v63_3), some (.int v63_4), o63_5, o63_6], [], M)) ∧
      (∀ (M : zM) (v90_1 : Int32) (v90_2 : Int32) (u90_3 : Int32) (u90_4 : Int32) (u90_5 : Int32) (v90_6 : Int32), zJ N [(416, 418, 1000), (434, 437, 1000), (386, 387, 70), (386, 387, 71), (386, 387, 72), (386, 387, 74)] M0 M → ((-1 : Int) ≤ v90_1.toInt) → (v90_1.toInt ≤ 5) → ((-2147483648 : Int) ≤ v90_2.toInt) → (v90_2.toInt ≤ 2147483647) → ((0 : Int) ≤ v90_6.toInt) → (v90_6.toInt ≤ 12) → I90 n (zi M) v90_1.toInt v90_2.toInt v90_6.toInt → ZW X (d + 8) 9 false (some .int) cX9_best (zRI N [(416, 418, 1000), (434, 437, 1000), (386, 387, 70), (386, 387, 71), (386, 387, 72), (386, 387, 74)] M0 (-2147483648) (2147483647) (fun v M' => Q v.toInt (zi M'))) (90, [some (.ref 386), some (.int v90_1), some (.int v90_2), some (.int u90_3), some (.int u90_4), some (.int u90_5), some (.int v90_6)], [], M)) := by
    intro n
    induction n using Nat.strongRecOn with
    | _ n ih =>
      refine ⟨?_, ?_, ?_⟩
      · intro M v35_1 v35_2 o35_3 o35_4 o35_5 o35_6 hJ v35_10 v35_11 v35_20 v35_21 hI
        have hb : zHd _ := hb35 n (zi M) v35_1.toInt v35_2.toInt (zi_fr hJ.2) v35_10 v35_11 v35_20 v35_21 hI
        refine w_lo dX9_best_35 rfl rfl rfl rfl ?_
        refine w_lo dX9_best_36 rfl rfl rfl rfl ?_
        refine w_gfi dX9_best_37 rfl hJ.1 zs_386 (Nat.le_of_ble_eq_true rfl) zo_386_70 ?_
        intro x1 f2 h3 h4
        replace hb : zHd _ := hb x1.toInt (ziE f2) h3 h4
        rcases zcut v35_2.toInt x1.toInt with h5 | h5
        · skip
          replace hb : zHd _ := hb.1 h5
          refine w_cge_f dX9_best_40 (t := 56) rfl (by omega) ?_
          refine w_lo dX9_best_43 rfl rfl rfl rfl ?_
          refine w_gf dX9_best_44 rfl hJ.1.1 zs_386 (zr_386_69 hJ.1) ?_
          refine w_lo dX9_best_47 rfl rfl rfl rfl ?_
          refine w_lo dX9_best_48 rfl rfl rfl rfl ?_
          refine w_isi dX9_best_49 hJ zs_434 (by omega) (by omega) zu_434 (by omega) (by omega) (zIR_s (zIR_a (by omega) (by omega))) ?_
          intro M6 hJ7 f8 hn9
          replace hb : zHd _ := hb (zi M6) (zi_zup hn9 f8 rfl rfl)
          refine w_inc (kk := 2) dX9_best_50 rfl (m := 1) (by decide) (by omega) ?_
          intro x11 h12
          refine ⟨_, rfl, ?_⟩
          replace hb : zHd _ := hb x11.toInt h12
          show ZW _ _ _ _ _ _ _ (53, [some (.ref 386), some (.int v35_1), some (.int x11), o35_3, o35_4, o35_5, o35_6], [], M6)
          refine w_gt dX9_best_53 (t := 35) rfl ?_
          obtain ⟨m, hm, hI⟩ := hb
          exact (ih m hm).1 M6 v35_1 x11 o35_3 o35_4 o35_5 o35_6 hJ7 (by omega) (by omega) (by omega) (by omega) hI
        · skip
          replace hb : zHd _ := hb.2 h5
          refine w_cge_t dX9_best_40 (t := 56) rfl (by omega) ?_
          refine w_ic dX9_best_56 zi_0 ?_
          refine w_lo (ml' := [some (.ref 386), some (.int v35_1), some (.int 0), o35_3, o35_4, o35_5, o35_6]) dX9_best_57 rfl rfl rfl rfl ?_
          refine w_ic dX9_best_58 zi_0 ?_
          refine w_lo (ml' := [some (.ref 386), some (.int v35_1), some (.int 0), some (.int 0), o35_4, o35_5, o35_6]) dX9_best_59 rfl rfl rfl rfl ?_
          refine w_ic dX9_best_60 zi_1 ?_
          refine w_lo (ml' := [some (.ref 386), some (.int v35_1), some (.int 0), some (.int 0), some (.int 1), o35_5, o35_6]) dX9_best_61 rfl rfl rfl rfl ?_
          obtain ⟨m, hm, hI⟩ := hb
          exact (ih m hm).2.1 M v35_1 0 0 1 o35_5 o35_6 hJ (by omega) (by omega) (zbot _) (ztop _) (by have := zt_0; omega) (by have := zt_0; omega) (by have := zt_1; omega) (by have := zt_1; omega) hI
      · intro M v63_1 v63_2 v63_3 v63_4 o63_5 o63_6 hJ v63_10 v63_11 v63_20 v63_21 v63_30 v63_31 v63_40 v63_41 hI
        have hb : zHd _ := hb63 n (zi M) v63_1.toInt v63_2.toInt v63_3.toInt v63_4.toInt (zi_fr hJ.2) v63_10 v63_11 v63_30 v63_31 v63_40 v63_41 hI
        refine w_lo dX9_best_63 rfl rfl rfl rfl ?_
        rcases Int.decEq v63_4.toInt (0 : Int) with h13 | h13
        · skip
          replace hb : zHd _ := hb.1 h13
          refine w_ieq_f dX9_best_65 (t := 130) rfl (by omega) ?_
          refine w_lo dX9_best_68 rfl rfl rfl rfl ?_
          refine w_iv dX9_best_69 rfl rfl (As := []) rfl rfl hJ.1.1 zs_386 (Nat.le_of_ble_eq_true rfl) ?_
          have h16 := hb.1
          replace hb : zHd _ := hb.2
          refine ZV.imp (k_2401 hN hJ.1 h16) ?_
          rintro _ ⟨x18, M14, rfl, h19, h20, hJ15, hq17⟩
          replace hb : zHd _ := hb x18.toInt  (zi M14) (zi_fr hJ15.2)
          have hJ22 := zJ_trans hJ hJ15 (zSub_cons (fun _ _ h h' hk => zIR_a (by omega) (by omega)) (zSub_cons (fun _ _ h h' hk => zIR_s (zIR_a (by omega) (by omega))) (zSub_cons (fun _ _ h h' hk => zIR_s (zIR_s (zIR_s (zIR_e (by omega) (by omega) hk)))) (zSub_cons (fun _ _ h h' hk => zIR_s (zIR_s (zIR_s (zIR_s (zIR_s (zIR_e (by omega) (by omega) hk)))))) zSub_nil))))
          show ZW _ _ _ _ _ _ _ (72, [some (.ref 386), some (.int v63_1), some (.int v63_2), some (.int v63_3), some (.int v63_4), o63_5, o63_6], [.int x18], M14)
          refine w_lo (ml' := [some (.ref 386), some (.int v63_1), some (.int v63_2), some (.int v63_3), some (.int v63_4), some (.int x18), o63_6]) dX9_best_72 rfl rfl rfl rfl ?_
          refine w_lo dX9_best_74 rfl rfl rfl rfl ?_
          rcases Int.decEq v63_3.toInt (0 : Int) with h23 | h23
          · skip
            replace hb : zHd _ := hb.1 h23
            refine w_ieq_f dX9_best_75 (t := 84) rfl (by omega) ?_
            refine w_lo dX9_best_78 rfl rfl rfl rfl ?_
            refine w_lo dX9_best_80 rfl rfl rfl rfl ?_
            rcases zcut x18.toInt v63_2.toInt with h24 | h24
            · skip
              replace hb : zHd _ := hb.1 h24
              refine w_cge_f dX9_best_81 (t := 119) rfl (by omega) ?_
              refine w_lo dX9_best_84 rfl rfl rfl rfl ?_
              refine w_lo (ml' := [some (.ref 386), some (.int v63_1), some (.int x18), some (.int v63_3), some (.int v63_4), some (.int x18), o63_6]) dX9_best_86 rfl rfl rfl rfl ?_
              refine w_ic dX9_best_87 zi_0 ?_
              refine w_lo (ml' := [some (.ref 386), some (.int v63_1), some (.int x18), some (.int v63_3), some (.int v63_4), some (.int x18), some (.int 0)]) dX9_best_88 rfl rfl rfl rfl ?_
              obtain ⟨m, hm, hI⟩ := hb
              exact (ih m hm).2.2 M14 v63_1 x18 v63_3 v63_4 x18 0 hJ22 (by omega) (by omega) (zbot _) (ztop _) (by have := zt_0; omega) (by have := zt_0; omega) hI
            · skip
              replace hb : zHd _ := hb.2 h24
              refine w_cge_t dX9_best_81 (t := 119) rfl (by omega) ?_
              refine w_ic dX9_best_119 zi_1 ?_
              refine w_lo (ml' := [some (.ref 386), some (.int v63_1), some (.int v63_2), some (.int 1), some (.int v63_4), some (.int x18), o63_6]) dX9_best_120 rfl rfl rfl rfl ?_
              refine w_lo dX9_best_121 rfl rfl rfl rfl ?_
              refine w_iv dX9_best_122 rfl rfl (As := []) rfl rfl hJ22.1.1 zs_386 (Nat.le_of_ble_eq_true rfl) ?_
              obtain ⟨P27, hp28, hb⟩ := hb
              replace hb : zHd _ := hb
              refine ZV.imp (u_2403 hN hJ22.1 hp28) ?_
              rintro _ ⟨x30, M25, rfl, h31, h32, hJ26, hq29⟩
              replace hb : zHd _ := hb x30.toInt h31 h32 (zi M25) (zi_fr hJ26.2) hq29
              have hJ34 := zJ_trans hJ22 hJ26 (zSub_cons (fun _ _ h h' hk => zIR_s (zIR_a (by omega) (by omega))) zSub_nil)
              show ZW _ _ _ _ _ _ _ (125, [some (.ref 386), some (.int v63_1), some (.int v63_2), some (.int 1), some (.int v63_4), some (.int x18), o63_6], [.int x30], M25)
              refine w_lo (ml' := [some (.ref 386), some (.int v63_1), some (.int v63_2), some (.int 1), some (.int x30), some (.int x18), o63_6]) dX9_best_125 rfl rfl rfl rfl ?_
              refine w_gt dX9_best_127 (t := 63) rfl ?_
              obtain ⟨m, hm, hI⟩ := hb
              exact (ih m hm).2.1 M25 v63_1 v63_2 1 x30 (some (.int x18)) o63_6 hJ34 (by omega) (by omega) (zbot _) (ztop _) (by have := zt_1; omega) (by have := zt_1; omega) (by omega) (by omega) hI
          · skip
            replace hb : zHd _ := hb.2 h23
            refine w_ieq_t dX9_best_75 (t := 84) rfl (by omega) ?_
            refine w_lo dX9_best_84 rfl rfl rfl rfl ?_
            refine w_lo (ml' := [some (.ref 386), some (.int v63_1), some (.int x18), some (.int v63_3), some (.int v63_4), some (.int x18), o63_6]) dX9_best_86 rfl rfl rfl rfl ?_
            refine w_ic dX9_best_87 zi_0 ?_
            refine w_lo (ml' := [some (.ref 386), some (.int v63_1), some (.int x18), some (.int v63_3), some (.int v63_4), some (.int x18), some (.int 0)]) dX9_best_88 rfl rfl rfl rfl ?_
            obtain ⟨m, hm, hI⟩ := hb
            exact (ih m hm).2.2 M14 v63_1 x18 v63_3 v63_4 x18 0 hJ22 (by omega) (by omega) (zbot _) (ztop _) (by have := zt_0; omega) (by have := zt_0; omega) hI
        · skip
          replace hb : zHd _ := hb.2 h13
          refine w_ieq_t dX9_best_65 (t := 130) rfl (by omega) ?_
          refine w_lo dX9_best_130 rfl rfl rfl rfl ?_
          refine w_ic dX9_best_131 zi_m1 ?_
          rcases Int.decEq v63_1.toInt (-1 : Int) with h35 | h35
          · skip
            replace hb : zHd _ := hb.1 h35
            refine w_cne_t dX9_best_132 (t := 139) rfl (by have := zt_m1; omega) ?_
            refine w_lo dX9_best_139 rfl rfl rfl rfl ?_
            refine w_gf dX9_best_140 rfl hJ.1.1 zs_386 (zr_386_76 hJ.1) ?_
            refine w_lo dX9_best_143 rfl rfl rfl rfl ?_
            refine w_iai dX9_best_144 hJ.1 zs_436 (by omega) (by omega) zu_436 ?_
            intro x39 f36 h37 h38
            replace hb : zHd _ := hb x39.toInt (ziEk f36 rfl) h37 h38
            refine w_eni dX9_best_145 rfl rfl ?_
            exact ⟨_, _, rfl, (zbot _), (ztop _), hJ, hb⟩
          · skip
            replace hb : zHd _ := hb.2 h35
            refine w_cne_f dX9_best_132 (t := 139) rfl (by have := zt_m1; omega) ?_
            refine w_lo dX9_best_135 rfl rfl rfl rfl ?_
            refine w_gt dX9_best_136 (t := 145) rfl ?_
            refine w_eni dX9_best_145 rfl rfl ?_
            exact ⟨_, _, rfl, (zbot _), (ztop _), hJ, hb⟩
      · intro M v90_1 v90_2 u90_3 u90_4 u90_5 v90_6 hJ v90_10 v90_11 v90_20 v90_21 v90_60 v90_61 hI
        have hb : zHd _ := hb90 n (zi M) v90_1.toInt v90_2.toInt v90_6.toInt (zi_fr hJ.2) v90_10 v90_11 v90_60 v90_61 hI
        refine w_lo dX9_best_90 rfl rfl rfl rfl ?_
        refine w_lo dX9_best_92 rfl rfl rfl rfl ?_
        refine w_gfi dX9_best_93 rfl hJ.1 zs_386 (Nat.le_of_ble_eq_true rfl) zo_386_70 ?_
        intro x40 f41 h42 h43
        replace hb : zHd _ := hb x40.toInt (ziE f41) h42 h43
        rcases zcut v90_6.toInt x40.toInt with h44 | h44
        · skip
          replace hb : zHd _ := hb.1 h44
          refine w_cge_f dX9_best_96 (t := 119) rfl (by omega) ?_
          refine w_lo dX9_best_99 rfl rfl rfl rfl ?_
          refine w_gf dX9_best_100 rfl hJ.1.1 zs_386 (zr_386_76 hJ.1) ?_
          refine w_lo dX9_best_103 rfl rfl rfl rfl ?_
          refine w_lo dX9_best_105 rfl rfl rfl rfl ?_
          refine w_gf dX9_best_106 rfl hJ.1.1 zs_386 (zr_386_69 hJ.1) ?_
          refine w_lo dX9_best_109 rfl rfl rfl rfl ?_
          refine w_iai dX9_best_111 hJ.1 zs_434 (by omega) (by omega) zu_434 ?_
          intro x48 f45 h46 h47
          replace hb : zHd _ := hb x48.toInt (ziEk f45 rfl) h46 h47
          refine w_isi dX9_best_112 hJ zs_436 (by omega) (by omega) zu_436 (by omega) (by omega) (zIR_s (zIR_a (by omega) (by omega))) ?_
          intro M49 hJ50 f51 hn52
          replace hb : zHd _ := hb (zi M49) (zi_zup hn52 f51 rfl rfl)
          refine w_inc (kk := 6) dX9_best_113 rfl (m := 1) (by decide) (by omega) ?_
          intro x54 h55
          refine ⟨_, rfl, ?_⟩
          replace hb : zHd _ := hb x54.toInt h55
          show ZW _ _ _ _ _ _ _ (116, [some (.ref 386), some (.int v90_1), some (.int v90_2), some (.int u90_3), some (.int u90_4), some (.int u90_5), some (.int x54)], [], M49)
          refine w_gt dX9_best_116 (t := 90) rfl ?_
          obtain ⟨m, hm, hI⟩ := hb
          exact (ih m hm).2.2 M49 v90_1 v90_2 u90_3 u90_4 u90_5 x54 hJ50 (by omega) (by omega) (zbot _) (ztop _) (by omega) (by omega) hI
        · skip
          replace hb : zHd _ := hb.2 h44
          refine w_cge_t dX9_best_96 (t := 119) rfl (by omega) ?_
          refine w_ic dX9_best_119 zi_1 ?_
          refine w_lo (ml' := [some (.ref 386), some (.int v90_1), some (.int v90_2), some (.int 1), some (.int u90_4), some (.int u90_5), some (.int v90_6)]) dX9_best_120 rfl rfl rfl rfl ?_
          refine w_lo dX9_best_121 rfl rfl rfl rfl ?_
          refine w_iv dX9_best_122 rfl rfl (As := []) rfl rfl hJ.1.1 zs_386 (Nat.le_of_ble_eq_true rfl) ?_
          obtain ⟨P58, hp59, hb⟩ := hb
          replace hb : zHd _ := hb
          refine ZV.imp (u_2403 hN hJ.1 hp59) ?_
          rintro _ ⟨x61, M56, rfl, h62, h63, hJ57, hq60⟩
          replace hb : zHd _ := hb x61.toInt h62 h63 (zi M56) (zi_fr hJ57.2) hq60
          have hJ65 := zJ_trans hJ hJ57 (zSub_cons (fun _ _ h h' hk => zIR_s (zIR_a (by omega) (by omega))) zSub_nil)
          show ZW _ _ _ _ _ _ _ (125, [some (.ref 386), some (.int v90_1), some (.int v90_2), some (.int 1), some (.int u90_4), some (.int u90_5), some (.int v90_6)], [.int x61], M56)
          refine w_lo (ml' := [some (.ref 386), some (.int v90_1), some (.int v90_2), some (.int 1), some (.int x61), some (.int u90_5), some (.int v90_6)]) dX9_best_125 rfl rfl rfl rfl ?_
          refine w_gt dX9_best_127 (t := 63) rfl ?_
          obtain ⟨m, hm, hI⟩ := hb
          exact (ih m hm).2.1 M56 v90_1 v90_2 1 x61 (some (.int u90_5)) (some (.int v90_6)) hJ65 (by omega) (by omega) (zbot _) (ztop _) (by have := zt_1; omega) (by have := zt_1; omega) (by omega) (by omega) hI
  have hb : zHd _ := hbE
  show ZW _ _ _ _ _ _ _ (0, [some (.ref 386), some (.int a0), none, none, none, none, none], [], M0)
  refine w_lo dX9_best_0 rfl rfl rfl rfl ?_
  refine w_iv dX9_best_1 rfl rfl (As := []) rfl rfl hJ0.1.1 zs_386 (Nat.le_of_ble_eq_true rfl) ?_
  refine ZV.of (ini := false) rfl (Nat.le_of_ble_eq_true rfl) (by decide +kernel) ?_
  show ZW _ _ _ _ _ _ _ (0, [some (.ref 386)], [], M0)
  refine w_lo dX9_many_0 rfl rfl rfl rfl ?_
  refine w_gf dX9_many_1 rfl hJ0.1.1 zs_386 (zr_386_13 hJ0.1) ?_
  refine w_lo dX9_many_4 rfl rfl rfl rfl ?_
  refine w_gfi dX9_many_5 rfl hJ0.1 zs_386 (Nat.le_of_ble_eq_true rfl) zo_386_12 ?_
  intro x66 f67 h68 h69
  replace hb : zHd _ := hb x66.toInt (ziE f67) h68 h69
  refine w_iai dX9_many_8 hJ0.1 zs_388 (by omega) (by omega) zu_388 ?_
  intro x73 f70 h71 h72
  replace hb : zHd _ := hb x73.toInt (ziEk f70 rfl) h71 h72
  refine w_eni dX9_many_9 rfl rfl ?_
  show ZW _ _ _ _ _ _ _ (4, [some (.ref 386), some (.int a0), none, none, none, none, none], [.int x73], M0)
  refine w_ic dX9_best_4 zi_1 ?_
  refine w_bi dX9_best_5 (c := 6) (by decide) ?_
  refine w_ss dX9_best_7 rfl rfl (As := [.int x73, .int 1, .int 6]) rfl rfl (Nat.le_of_ble_eq_true rfl) ?_
  refine ZV.of (ini := false) rfl (Nat.le_of_ble_eq_true rfl) (by decide +kernel) ?_
  show ZW _ _ _ _ _ _ _ (0, [some (.int x73), some (.int 1), some (.int 6)], [], M0)
  refine w_lo dX9_is_0 rfl rfl rfl rfl ?_
  refine w_lo dX9_is_1 rfl rfl rfl rfl ?_
  rcases zcut x73.toInt (1 : Int) with h74 | h74
  · skip
    replace hb : zHd _ := hb.1 h74
    refine w_clt_t dX9_is_2 (t := 14) rfl (by have := zt_1; omega) ?_
    refine w_ic dX9_is_14 zi_0 ?_
    refine w_en dX9_is_15 rfl ?_
    show ZW _ _ _ _ _ _ _ (10, [some (.ref 386), some (.int a0), none, none, none, none, none], [.int 0], M0)
    refine w_ieq_t dX9_best_10 (t := 26) rfl (by have := zt_0; omega) ?_
    refine w_ic dX9_best_26 zi_m1 ?_
    refine w_en dX9_best_27 rfl ?_
    exact ⟨_, _, rfl, (zbot _), (ztop _), hJ0, hb⟩
  · skip
    replace hb : zHd _ := hb.2 h74
    refine w_clt_f dX9_is_2 (t := 14) rfl (by have := zt_1; omega) ?_
    refine w_lo dX9_is_5 rfl rfl rfl rfl ?_
    refine w_lo dX9_is_6 rfl rfl rfl rfl ?_
    rcases zcut (6 : Int) x73.toInt with h75 | h75
    · skip
      replace hb : zHd _ := hb.1 h75
      refine w_cgt_t dX9_is_7 (t := 14) rfl (by have := zt_6; omega) ?_
      refine w_ic dX9_is_14 zi_0 ?_
      refine w_en dX9_is_15 rfl ?_
      show ZW _ _ _ _ _ _ _ (10, [some (.ref 386), some (.int a0), none, none, none, none, none], [.int 0], M0)
      refine w_ieq_t dX9_best_10 (t := 26) rfl (by have := zt_0; omega) ?_
      refine w_ic dX9_best_26 zi_m1 ?_
      refine w_en dX9_best_27 rfl ?_
      exact ⟨_, _, rfl, (zbot _), (ztop _), hJ0, hb⟩
    · skip
      replace hb : zHd _ := hb.2 h75
      refine w_cgt_f dX9_is_7 (t := 14) rfl (by have := zt_6; omega) ?_
      refine w_ic dX9_is_10 zi_1 ?_
      refine w_gt dX9_is_11 (t := 15) rfl ?_
      refine w_en dX9_is_15 rfl ?_
      show ZW _ _ _ _ _ _ _ (10, [some (.ref 386), some (.int a0), none, none, none, none, none], [.int 1], M0)
      refine w_ieq_f dX9_best_10 (t := 26) rfl (by have := zt_1; omega) ?_
      refine w_lo dX9_best_13 rfl rfl rfl rfl ?_
      refine w_ic dX9_best_14 zi_m1 ?_
      rcases Int.decEq a0.toInt (-1 : Int) with h76 | h76
      · skip
        replace hb : zHd _ := hb.1 h76
        refine w_ceq_f dX9_best_15 (t := 28) rfl (by have := zt_m1; omega) ?_
        refine w_lo dX9_best_18 rfl rfl rfl rfl ?_
        refine w_lo dX9_best_19 rfl rfl rfl rfl ?_
        refine w_iv dX9_best_20 rfl rfl (As := [.int a0]) rfl rfl hJ0.1.1 zs_386 (Nat.le_of_ble_eq_true rfl) ?_
        refine ZV.of (ini := false) rfl (Nat.le_of_ble_eq_true rfl) (by decide +kernel) ?_
        show ZW _ _ _ _ _ _ _ (0, [some (.ref 386), some (.int a0)], [], M0)
        refine w_lo dX9_isBoy_0 rfl rfl rfl rfl ?_
        rcases zcut a0.toInt (0 : Int) with h77 | h77
        · skip
          replace hb : zHd _ := hb.1 h77
          refine w_ilt_t dX9_isBoy_1 (t := 21) rfl (by omega) ?_
          refine w_ic dX9_isBoy_21 zi_0 ?_
          refine w_en dX9_isBoy_22 rfl ?_
          show ZW _ _ _ _ _ _ _ (23, [some (.ref 386), some (.int a0), none, none, none, none, none], [.int 0], M0)
          refine w_ine_f dX9_best_23 (t := 28) rfl (by have := zt_0; omega) ?_
          refine w_ic dX9_best_26 zi_m1 ?_
          refine w_en dX9_best_27 rfl ?_
          exact ⟨_, _, rfl, (zbot _), (ztop _), hJ0, hb⟩
        · skip
          replace hb : zHd _ := hb.2 h77
          refine w_ilt_f dX9_isBoy_1 (t := 21) rfl (by omega) ?_
          refine w_lo dX9_isBoy_4 rfl rfl rfl rfl ?_
          refine w_lo dX9_isBoy_5 rfl rfl rfl rfl ?_
          refine w_gf dX9_isBoy_6 rfl hJ0.1.1 zs_386 (zr_386_13 hJ0.1) ?_
          refine w_lo dX9_isBoy_9 rfl rfl rfl rfl ?_
          refine w_gf dX9_isBoy_10 rfl hJ0.1.1 zs_386 f67 ?_
          refine w_ia dX9_isBoy_13 hJ0.1.1 zs_388 (znat (by omega)) f70 ?_
          rcases zcut a0.toInt x73.toInt with h81 | h81
          · skip
            replace hb : zHd _ := hb.1 h81
            refine w_cge_f dX9_isBoy_14 (t := 21) rfl (by omega) ?_
            refine w_ic dX9_isBoy_17 zi_1 ?_
            refine w_gt dX9_isBoy_18 (t := 22) rfl ?_
            refine w_en dX9_isBoy_22 rfl ?_
            show ZW _ _ _ _ _ _ _ (23, [some (.ref 386), some (.int a0), none, none, none, none, none], [.int 1], M0)
            refine w_ine_t dX9_best_23 (t := 28) rfl (by have := zt_1; omega) ?_
            refine w_lo dX9_best_28 rfl rfl rfl rfl ?_
            refine w_ic dX9_best_29 zi_0 ?_
            refine w_iv dX9_best_30 rfl rfl (As := [.int 0]) rfl rfl hJ0.1.1 zs_386 (Nat.le_of_ble_eq_true rfl) ?_
            obtain ⟨P84, hp85, hb⟩ := hb
            replace hb : zHd _ := hb
            have hp85c : b_2363 (zi M0) (0 : Int32).toInt P84 := by rw [zt_0]; exact hp85
            refine ZV.imp (u_2363 0 (by have := zt_0; omega) (by have := zt_0; omega) hN hJ0.1 hp85c) ?_
            rintro _ ⟨M82, rfl, hJ83, hq86⟩
            replace hb : zHd _ := hb  (zi M82) (zi_fr hJ83.2) hq86
            have hJ88 := zJ_trans hJ0 hJ83 (zSub_cons (fun _ _ h h' hk => zIR_s (zIR_a (by omega) (by omega))) (zSub_cons (fun _ _ h h' hk => zIR_s (zIR_s (zIR_e (by omega) (by omega) hk))) (zSub_cons (fun _ _ h h' hk => zIR_s (zIR_s (zIR_s (zIR_e (by omega) (by omega) hk)))) (zSub_cons (fun _ _ h h' hk => zIR_s (zIR_s (zIR_s (zIR_s (zIR_e (by omega) (by omega) hk))))) zSub_nil))))
            show ZW _ _ _ _ _ _ _ (33, [some (.ref 386), some (.int a0), none, none, none, none, none], [], M82)
            refine w_ic dX9_best_33 zi_0 ?_
            refine w_lo (ml' := [some (.ref 386), some (.int a0), some (.int 0), none, none, none, none]) dX9_best_34 rfl rfl rfl rfl ?_
            obtain ⟨m, hI⟩ := hb
            exact (main m).1 M82 a0 0 none none none none hJ88 (by omega) (by omega) (by have := zt_0; omega) (by have := zt_0; omega) hI
          · skip
            replace hb : zHd _ := hb.2 h81
            refine w_cge_t dX9_isBoy_14 (t := 21) rfl (by omega) ?_
            refine w_ic dX9_isBoy_21 zi_0 ?_
            refine w_en dX9_isBoy_22 rfl ?_
            show ZW _ _ _ _ _ _ _ (23, [some (.ref 386), some (.int a0), none, none, none, none, none], [.int 0], M0)
            refine w_ine_f dX9_best_23 (t := 28) rfl (by have := zt_0; omega) ?_
            refine w_ic dX9_best_26 zi_m1 ?_
            refine w_en dX9_best_27 rfl ?_
            exact ⟨_, _, rfl, (zbot _), (ztop _), hJ0, hb⟩
      · skip
        replace hb : zHd _ := hb.2 h76
        refine w_ceq_t dX9_best_15 (t := 28) rfl (by have := zt_m1; omega) ?_
        refine w_lo dX9_best_28 rfl rfl rfl rfl ?_
        refine w_ic dX9_best_29 zi_0 ?_
        refine w_iv dX9_best_30 rfl rfl (As := [.int 0]) rfl rfl hJ0.1.1 zs_386 (Nat.le_of_ble_eq_true rfl) ?_
        obtain ⟨P91, hp92, hb⟩ := hb
        replace hb : zHd _ := hb
        have hp92c : b_2363 (zi M0) (0 : Int32).toInt P91 := by rw [zt_0]; exact hp92
        refine ZV.imp (u_2363 0 (by have := zt_0; omega) (by have := zt_0; omega) hN hJ0.1 hp92c) ?_
        rintro _ ⟨M89, rfl, hJ90, hq93⟩
        replace hb : zHd _ := hb  (zi M89) (zi_fr hJ90.2) hq93
        have hJ95 := zJ_trans hJ0 hJ90 (zSub_cons (fun _ _ h h' hk => zIR_s (zIR_a (by omega) (by omega))) (zSub_cons (fun _ _ h h' hk => zIR_s (zIR_s (zIR_e (by omega) (by omega) hk))) (zSub_cons (fun _ _ h h' hk => zIR_s (zIR_s (zIR_s (zIR_e (by omega) (by omega) hk)))) (zSub_cons (fun _ _ h h' hk => zIR_s (zIR_s (zIR_s (zIR_s (zIR_e (by omega) (by omega) hk))))) zSub_nil))))
        show ZW _ _ _ _ _ _ _ (33, [some (.ref 386), some (.int a0), none, none, none, none, none], [], M89)
        refine w_ic dX9_best_33 zi_0 ?_
        refine w_lo (ml' := [some (.ref 386), some (.int a0), some (.int 0), none, none, none, none]) dX9_best_34 rfl rfl rfl rfl ?_
        obtain ⟨m, hI⟩ := hb
        exact (main m).1 M89 a0 0 none none none none hJ95 (by omega) (by omega) (by have := zt_0; omega) (by have := zt_0; omega) hI
set_option maxRecDepth 100000 in
theorem u_2406 {X : List Int32} {d N : Nat} {M0 : zM}  (hN : N ≤ 600) (hB0 : zB N M0) {Q : Int → zF → Prop} (hb : b_2406 (zi M0) Q) : ZV X (d + 9) 2406 [.ref 386] M0 (zRI N [(416, 418, 1000), (434, 436, 1000), (386, 387, 70), (386, 387, 71), (386, 387, 72), (386, 387, 74), (386, 387, 77)] M0 (-2147483648) (2147483647) (fun v M' => Q v.toInt (zi M'))) := by
  have hJ0 : zJ N [(416, 418, 1000), (434, 436, 1000), (386, 387, 70), (386, 387, 71), (386, 387, 72), (386, 387, 74), (386, 387, 77)] M0 M0 := zJ_refl hB0
  refine ZV.of (ini := false) rfl (Nat.le_of_ble_eq_true rfl) (by decide +kernel) ?_
  obtain ⟨I17, I32, I47, hbE, hb17, hb32, hb47⟩ := hb
  replace hbE : zHd _ := hbE
  replace hb17 : zHd _ := hb17
  replace hb32 : zHd _ := hb32
  replace hb47 : zHd _ := hb47
  have main : ∀ n : Nat,
      (∀ (M : zM) (v17_1 : Int32) (v17_2 : Int32) (o17_3 : Option Value) (o17_4 : Option Value) (o17_5 : Option Value) (o17_6 : Option Value) (o17_7 : Option Value) (o17_8 : Option Value), zJ N [(416, 418, 1000), (434, 436, 1000), (386, 387, 70), (386, 387, 71), (386, 387, 72), (386, 387, 74), (386, 387, 77)] M0 M → ((-2147483648 : Int) ≤ v17_1.toInt) → (v17_1.toInt ≤ 2147483647) → ((0 : Int) ≤ v17_2.toInt) → (v17_2.toInt ≤ 1) → I17 n (zi M) v17_1.toInt v17_2.toInt → ZW X (d + 8) 9 false (some .int) cX9_exchanged (zRI N [(416, 418, 1000), (434, 436, 1000), (386, 387, 70), (386, 387, 71), (386, 387, 72), (386, 387, 74), (386, 387, 77)] M0 (-2147483648) (2147483647) (fun v M' => Q v.toInt (zi M'))) (17, [some (.ref 386), some (.int v17_1), some (.int v17_2), o17_3, o17_4, o17_5, o17_6, o17_7, o17_8], [], M)) ∧
      (∀ (M : zM) (u32_1 : Int32) (u32_2 : Int32) (v32_3 : Int32) (v32_4 : Int32) (v32_5 : Int32) (v32_6 : Int32) (o32_7 : Option Value) (o32_8 : Option Value), zJ N [(416, 418, 1000), (434, 436, 1000), (386, 387, 70), (386, 387, 71), (386, 387, 72), (386, 387, 74), (386, 387, 77)] M0 M → ((-1 : Int) ≤ v32_3.toInt) → (v32_3.toInt ≤ 11) → ((-1 : Int) ≤ v32_4.toInt) → (v32_4.toInt ≤ 11) → ((-2147483648 : Int) ≤ v32_5.toInt) → (v32_5.toInt ≤ 2147483647) → ((0 : Int) ≤ v32_6.toInt) → (v32_6.toInt ≤ 12) → I32 n (zi M) v32_3.toInt v32_4.toInt v32_5.toInt v32_6.toInt → ZW X (d + 8) 9 false (some .int) cX9_exchanged (zRI N [(416, 418, 1000), (434, 436, 1000), (386, 387, 70), (386, 387, 71), (386, 387, 72), (386, 387, 74), (386, 387, 77)] M0 (-2147483648) (2147483647) (fun v M' => Q v.toInt (zi M'))) (32, [some (.ref 386), some (.int u32_1), some (.int u32_2), some (.int v32_3), some (.int v32_4), some (.int v32_5), some (.int v32_6), o32_7, o32_8], [], M)) ∧
      (∀ (M : zM) (u47_1 : Int32) (u47_2 : Int32) (v47_3 : Int32) (v47_4 : Int32) (v47_5 : Int32) (v47_6 : Int32) (v47_7 : Int32) (o47_8 : Option Value), zJ N [(416, 418, 1000), (434, 436, 1000), (386, 387, 70), (386, 387, 71), (386, 387, 72), (386, 387, 74), (386, 387, 77)] M0 M → ((-1 : Int) ≤ v47_3.toInt) → (v47_3.toInt ≤ 11) → ((-1 : Int) ≤ v47_4.toInt) → (v47_4.toInt ≤ 11) → ((-2147483648 : Int) ≤ v47_5.toInt) → (v47_5.toInt ≤ 2147483647) → ((0 : Int) ≤ v47_6.toInt) → (v47_6.toInt ≤ 11) → ((1 : Int) ≤ v47_7.toInt) → (v47_7.toInt ≤ 12) → I47 n (zi M) v47_3.toInt v47_4.toInt v47_5.toInt v47_6.toInt v47_7.toInt → ZW X (d + 8) 9 false (some .int) cX9_exchanged (zRI N [(416, 418, 1000), (434, 436, 1000), (386, 387, 70), (386, 387, 71), (386, 387, 72), (386, 387, 74), (386, 387, 77)] M0 (-2147483648) (2147483647) (fun v M' => Q v.toInt (zi M'))) (47, [some (.ref 386), some (.int u47_1), some (.int u47_2), some (.int v47_3), some (.int v47_4), some (.int v47_5), some (.int v47_6), some (.int v47_7), o47_8], [], M)) := by
    intro n
    induction n using Nat.strongRecOn with
    | _ n ih =>
      refine ⟨?_, ?_, ?_⟩
      · intro M v17_1 v17_2 o17_3 o17_4 o17_5 o17_6 o17_7 o17_8 hJ v17_10 v17_11 v17_20 v17_21 hI
        have hb : zHd _ := hb17 n (zi M) v17_1.toInt v17_2.toInt (zi_fr hJ.2) v17_10 v17_11 v17_20 v17_21 hI
        refine w_lo dX9_exchanged_17 rfl rfl rfl rfl ?_
        rcases Int.decEq v17_2.toInt (0 : Int) with h1 | h1
        · skip
          replace hb : zHd _ := hb.1 h1
          refine w_ieq_f dX9_exchanged_18 (t := 157) rfl (by omega) ?_
          refine w_ic dX9_exchanged_21 zi_m1 ?_
          refine w_lo (ml' := [some (.ref 386), some (.int v17_1), some (.int v17_2), some (.int (-1)), o17_4, o17_5, o17_6, o17_7, o17_8]) dX9_exchanged_22 rfl rfl rfl rfl ?_
          refine w_ic dX9_exchanged_23 zi_m1 ?_
          refine w_lo (ml' := [some (.ref 386), some (.int v17_1), some (.int v17_2), some (.int (-1)), some (.int (-1)), o17_5, o17_6, o17_7, o17_8]) dX9_exchanged_24 rfl rfl rfl rfl ?_
          refine w_lo dX9_exchanged_26 rfl rfl rfl rfl ?_
          refine w_lo (ml' := [some (.ref 386), some (.int v17_1), some (.int v17_2), some (.int (-1)), some (.int (-1)), some (.int v17_1), o17_6, o17_7, o17_8]) dX9_exchanged_27 rfl rfl rfl rfl ?_
          refine w_ic dX9_exchanged_29 zi_0 ?_
          refine w_lo (ml' := [some (.ref 386), some (.int v17_1), some (.int v17_2), some (.int (-1)), some (.int (-1)), some (.int v17_1), some (.int 0), o17_7, o17_8]) dX9_exchanged_30 rfl rfl rfl rfl ?_
          obtain ⟨m, hm, hI⟩ := hb
          exact (ih m hm).2.1 M v17_1 v17_2 (-1) (-1) v17_1 0 o17_7 o17_8 hJ (by have := zt_m1; omega) (by have := zt_m1; omega) (by have := zt_m1; omega) (by have := zt_m1; omega) (zbot _) (ztop _) (by have := zt_0; omega) (by have := zt_0; omega) hI
        · skip
          replace hb : zHd _ := hb.2 h1
          refine w_ieq_t dX9_exchanged_18 (t := 157) rfl (by omega) ?_
          refine w_lo dX9_exchanged_157 rfl rfl rfl rfl ?_
          refine w_eni dX9_exchanged_158 rfl rfl ?_
          exact ⟨_, _, rfl, (zbot _), (ztop _), hJ, hb⟩
      · intro M u32_1 u32_2 v32_3 v32_4 v32_5 v32_6 o32_7 o32_8 hJ v32_30 v32_31 v32_40 v32_41 v32_50 v32_51 v32_60 v32_61 hI
        have hb : zHd _ := hb32 n (zi M) v32_3.toInt v32_4.toInt v32_5.toInt v32_6.toInt (zi_fr hJ.2) v32_30 v32_31 v32_40 v32_41 v32_50 v32_51 v32_60 v32_61 hI
        refine w_lo dX9_exchanged_32 rfl rfl rfl rfl ?_
        refine w_lo dX9_exchanged_34 rfl rfl rfl rfl ?_
        refine w_gfi dX9_exchanged_35 rfl hJ.1 zs_386 (Nat.le_of_ble_eq_true rfl) zo_386_70 ?_
        intro x2 f3 h4 h5
        replace hb : zHd _ := hb x2.toInt (ziE f3) h4 h5
        rcases zcut v32_6.toInt x2.toInt with h6 | h6
        · skip
          replace hb : zHd _ := hb.1 h6
          refine w_cge_f dX9_exchanged_38 (t := 111) rfl (by omega) ?_
          refine w_lo dX9_exchanged_41 rfl rfl rfl rfl ?_
          refine w_ic dX9_exchanged_43 zi_1 ?_
          refine w_add dX9_exchanged_44 (by have := zt_1; omega) ?_
          intro x7 h8
          have := zt_1
          replace hb : zHd _ := hb x7.toInt (by have := zt_1; omega)
          refine w_lo (ml' := [some (.ref 386), some (.int u32_1), some (.int u32_2), some (.int v32_3), some (.int v32_4), some (.int v32_5), some (.int v32_6), some (.int x7), o32_8]) dX9_exchanged_45 rfl rfl rfl rfl ?_
          obtain ⟨m, hm, hI⟩ := hb
          exact (ih m hm).2.2 M u32_1 u32_2 v32_3 v32_4 v32_5 v32_6 x7 o32_8 hJ (by omega) (by omega) (by omega) (by omega) (zbot _) (ztop _) (by omega) (by omega) (by omega) (by omega) hI
        · skip
          replace hb : zHd _ := hb.2 h6
          refine w_cge_t dX9_exchanged_38 (t := 111) rfl (by omega) ?_
          refine w_lo dX9_exchanged_111 rfl rfl rfl rfl ?_
          refine w_ic dX9_exchanged_112 zi_m1 ?_
          rcases Int.decEq v32_3.toInt (-1 : Int) with h9 | h9
          · skip
            replace hb : zHd _ := hb.1 h9
            refine w_ceq_f dX9_exchanged_113 (t := 120) rfl (by have := zt_m1; omega) ?_
            refine w_ic dX9_exchanged_116 zi_1 ?_
            refine w_gt dX9_exchanged_117 (t := 121) rfl ?_
            refine w_lo (ml' := [some (.ref 386), some (.int u32_1), some (.int 1), some (.int v32_3), some (.int v32_4), some (.int v32_5), some (.int v32_6), o32_7, o32_8]) dX9_exchanged_121 rfl rfl rfl rfl ?_
            refine w_lo dX9_exchanged_122 rfl rfl rfl rfl ?_
            refine w_ieq_f dX9_exchanged_123 (t := 133) rfl (by have := zt_1; omega) ?_
            refine w_lo dX9_exchanged_126 rfl rfl rfl rfl ?_
            refine w_lo dX9_exchanged_127 rfl rfl rfl rfl ?_
            refine w_lo dX9_exchanged_128 rfl rfl rfl rfl ?_
            have h10 := hb.1
            replace hb : zHd _ := hb.2
            refine w_iv dX9_exchanged_130 rfl rfl (As := [.int v32_3, .int v32_4]) rfl rfl hJ.1.1 zs_386 (Nat.le_of_ble_eq_true rfl) ?_
            obtain ⟨P13, hp14, hb⟩ := hb
            replace hb : zHd _ := hb
            refine ZV.imp (u_2404 v32_3 (by omega) (by omega) v32_4 (by omega) (by omega) hN hJ.1 hp14) ?_
            rintro _ ⟨M11, rfl, hJ12, hq15⟩
            replace hb : zHd _ := hb  (zi M11) (zi_fr hJ12.2) hq15
            have hJ17 := zJ_trans hJ hJ12 (zSub_cons (fun _ _ h h' hk => zIR_s (zIR_a (by omega) (by omega))) zSub_nil)
            show ZW _ _ _ _ _ _ _ (133, [some (.ref 386), some (.int u32_1), some (.int 1), some (.int v32_3), some (.int v32_4), some (.int v32_5), some (.int v32_6), o32_7, o32_8], [], M11)
            refine w_lo dX9_exchanged_133 rfl rfl rfl rfl ?_
            refine w_pu dX9_exchanged_134 rfl rfl ?_
            refine w_gfi dX9_exchanged_135 rfl hJ17.1 zs_386 (Nat.le_of_ble_eq_true rfl) zo_386_77 ?_
            intro x18 f19 h20 h21
            replace hb : zHd _ := hb x18.toInt (ziE f19)
            refine w_lo dX9_exchanged_138 rfl rfl rfl rfl ?_
            refine w_ieq_f dX9_exchanged_139 (t := 146) rfl (by have := zt_1; omega) ?_
            refine w_ic dX9_exchanged_142 zi_1 ?_
            refine w_gt dX9_exchanged_143 (t := 147) rfl ?_
            refine w_puI dX9_exchanged_147 rfl rfl ?_
            intro x22
            replace hb : zHd _ := hb x22.toInt 
            refine w_pfi dX9_exchanged_148 rfl hJ17 zs_386 (Nat.le_of_ble_eq_true rfl) zo_386_77 (zbot _) (ztop _) (zIR_s (zIR_s (zIR_s (zIR_s (zIR_s (zIR_s (zIR_k (by omega) (by omega)))))))) rfl rfl rfl ?_
            intro M23 hJ24 f25 hn26
            replace hb : zHd _ := hb (zi M23) (zi_zup hn26 f25 rfl rfl)
            refine w_lo dX9_exchanged_151 rfl rfl rfl rfl ?_
            refine w_lo (ml' := [some (.ref 386), some (.int v32_5), some (.int 1), some (.int v32_3), some (.int v32_4), some (.int v32_5), some (.int v32_6), o32_7, o32_8]) dX9_exchanged_153 rfl rfl rfl rfl ?_
            refine w_gt dX9_exchanged_154 (t := 17) rfl ?_
            obtain ⟨m, hm, hI⟩ := hb
            exact (ih m hm).1 M23 v32_5 1 (some (.int v32_3)) (some (.int v32_4)) (some (.int v32_5)) (some (.int v32_6)) o32_7 o32_8 hJ24 (zbot _) (ztop _) (by have := zt_1; omega) (by have := zt_1; omega) hI
          · skip
            replace hb : zHd _ := hb.2 h9
            refine w_ceq_t dX9_exchanged_113 (t := 120) rfl (by have := zt_m1; omega) ?_
            refine w_ic dX9_exchanged_120 zi_0 ?_
            refine w_lo (ml' := [some (.ref 386), some (.int u32_1), some (.int 0), some (.int v32_3), some (.int v32_4), some (.int v32_5), some (.int v32_6), o32_7, o32_8]) dX9_exchanged_121 rfl rfl rfl rfl ?_
            refine w_lo dX9_exchanged_122 rfl rfl rfl rfl ?_
            refine w_ieq_t dX9_exchanged_123 (t := 133) rfl (by have := zt_0; omega) ?_
            refine w_lo dX9_exchanged_133 rfl rfl rfl rfl ?_
            refine w_pu dX9_exchanged_134 rfl rfl ?_
            refine w_gfi dX9_exchanged_135 rfl hJ.1 zs_386 (Nat.le_of_ble_eq_true rfl) zo_386_77 ?_
            intro x28 f29 h30 h31
            replace hb : zHd _ := hb x28.toInt (ziE f29)
            refine w_lo dX9_exchanged_138 rfl rfl rfl rfl ?_
            refine w_ieq_t dX9_exchanged_139 (t := 146) rfl (by have := zt_0; omega) ?_
            refine w_ic dX9_exchanged_146 zi_0 ?_
            refine w_add dX9_exchanged_147 (by have := zt_0; omega) ?_
            intro x32 h33
            have := zt_0
            replace hb : zHd _ := hb x32.toInt (by have := zt_0; omega)
            refine w_pfi dX9_exchanged_148 rfl hJ zs_386 (Nat.le_of_ble_eq_true rfl) zo_386_77 (zbot _) (ztop _) (zIR_s (zIR_s (zIR_s (zIR_s (zIR_s (zIR_s (zIR_k (by omega) (by omega)))))))) rfl rfl rfl ?_
            intro M34 hJ35 f36 hn37
            replace hb : zHd _ := hb (zi M34) (zi_zup hn37 f36 rfl rfl)
            refine w_lo dX9_exchanged_151 rfl rfl rfl rfl ?_
            refine w_lo (ml' := [some (.ref 386), some (.int v32_5), some (.int 0), some (.int v32_3), some (.int v32_4), some (.int v32_5), some (.int v32_6), o32_7, o32_8]) dX9_exchanged_153 rfl rfl rfl rfl ?_
            refine w_gt dX9_exchanged_154 (t := 17) rfl ?_
            obtain ⟨m, hm, hI⟩ := hb
            exact (ih m hm).1 M34 v32_5 0 (some (.int v32_3)) (some (.int v32_4)) (some (.int v32_5)) (some (.int v32_6)) o32_7 o32_8 hJ35 (zbot _) (ztop _) (by have := zt_0; omega) (by have := zt_0; omega) hI
      · intro M u47_1 u47_2 v47_3 v47_4 v47_5 v47_6 v47_7 o47_8 hJ v47_30 v47_31 v47_40 v47_41 v47_50 v47_51 v47_60 v47_61 v47_70 v47_71 hI
        have hb : zHd _ := hb47 n (zi M) v47_3.toInt v47_4.toInt v47_5.toInt v47_6.toInt v47_7.toInt (zi_fr hJ.2) v47_30 v47_31 v47_40 v47_41 v47_50 v47_51 v47_60 v47_61 v47_70 v47_71 hI
        refine w_lo dX9_exchanged_47 rfl rfl rfl rfl ?_
        refine w_lo dX9_exchanged_49 rfl rfl rfl rfl ?_
        refine w_gfi dX9_exchanged_50 rfl hJ.1 zs_386 (Nat.le_of_ble_eq_true rfl) zo_386_70 ?_
        intro x39 f40 h41 h42
        replace hb : zHd _ := hb x39.toInt (ziE f40) h41 h42
        rcases zcut v47_7.toInt x39.toInt with h43 | h43
        · skip
          replace hb : zHd _ := hb.1 h43
          refine w_cge_f dX9_exchanged_53 (t := 105) rfl (by omega) ?_
          refine w_lo dX9_exchanged_56 rfl rfl rfl rfl ?_
          refine w_lo dX9_exchanged_57 rfl rfl rfl rfl ?_
          refine w_lo dX9_exchanged_59 rfl rfl rfl rfl ?_
          refine w_iv dX9_exchanged_61 rfl rfl (As := [.int v47_6, .int v47_7]) rfl rfl hJ.1.1 zs_386 (Nat.le_of_ble_eq_true rfl) ?_
          obtain ⟨P46, hp47, hb⟩ := hb
          replace hb : zHd _ := hb
          refine ZV.imp (u_2404 v47_6 (by omega) (by omega) v47_7 (by omega) (by omega) hN hJ.1 hp47) ?_
          rintro _ ⟨M44, rfl, hJ45, hq48⟩
          replace hb : zHd _ := hb  (zi M44) (zi_fr hJ45.2) hq48
          have hJ50 := zJ_trans hJ hJ45 (zSub_cons (fun _ _ h h' hk => zIR_s (zIR_a (by omega) (by omega))) zSub_nil)
          show ZW _ _ _ _ _ _ _ (64, [some (.ref 386), some (.int u47_1), some (.int u47_2), some (.int v47_3), some (.int v47_4), some (.int v47_5), some (.int v47_6), some (.int v47_7), o47_8], [], M44)
          refine w_lo dX9_exchanged_64 rfl rfl rfl rfl ?_
          refine w_iv dX9_exchanged_65 rfl rfl (As := []) rfl rfl hJ50.1.1 zs_386 (Nat.le_of_ble_eq_true rfl) ?_
          have h53 := hb.1
          replace hb : zHd _ := hb.2
          refine ZV.imp (k_2401 hN hJ50.1 h53) ?_
          rintro _ ⟨x55, M51, rfl, h56, h57, hJ52, hq54⟩
          replace hb : zHd _ := hb x55.toInt  (zi M51) (zi_fr hJ52.2)
          have hJ59 := zJ_trans hJ50 hJ52 (zSub_cons (fun _ _ h h' hk => zIR_a (by omega) (by omega)) (zSub_cons (fun _ _ h h' hk => zIR_s (zIR_a (by omega) (by omega))) (zSub_cons (fun _ _ h h' hk => zIR_s (zIR_s (zIR_s (zIR_e (by omega) (by omega) hk)))) (zSub_cons (fun _ _ h h' hk => zIR_s (zIR_s (zIR_s (zIR_s (zIR_s (zIR_e (by omega) (by omega) hk)))))) zSub_nil))))
          show ZW _ _ _ _ _ _ _ (68, [some (.ref 386), some (.int u47_1), some (.int u47_2), some (.int v47_3), some (.int v47_4), some (.int v47_5), some (.int v47_6), some (.int v47_7), o47_8], [.int x55], M51)
          refine w_lo (ml' := [some (.ref 386), some (.int u47_1), some (.int u47_2), some (.int v47_3), some (.int v47_4), some (.int v47_5), some (.int v47_6), some (.int v47_7), some (.int x55)]) dX9_exchanged_68 rfl rfl rfl rfl ?_
          refine w_lo dX9_exchanged_70 rfl rfl rfl rfl ?_
          refine w_lo dX9_exchanged_71 rfl rfl rfl rfl ?_
          refine w_lo dX9_exchanged_73 rfl rfl rfl rfl ?_
          refine w_iv dX9_exchanged_75 rfl rfl (As := [.int v47_6, .int v47_7]) rfl rfl hJ59.1.1 zs_386 (Nat.le_of_ble_eq_true rfl) ?_
          obtain ⟨P62, hp63, hb⟩ := hb
          replace hb : zHd _ := hb
          refine ZV.imp (u_2404 v47_6 (by omega) (by omega) v47_7 (by omega) (by omega) hN hJ59.1 hp63) ?_
          rintro _ ⟨M60, rfl, hJ61, hq64⟩
          replace hb : zHd _ := hb  (zi M60) (zi_fr hJ61.2) hq64
          have hJ66 := zJ_trans hJ59 hJ61 (zSub_cons (fun _ _ h h' hk => zIR_s (zIR_a (by omega) (by omega))) zSub_nil)
          show ZW _ _ _ _ _ _ _ (78, [some (.ref 386), some (.int u47_1), some (.int u47_2), some (.int v47_3), some (.int v47_4), some (.int v47_5), some (.int v47_6), some (.int v47_7), some (.int x55)], [], M60)
          refine w_lo dX9_exchanged_78 rfl rfl rfl rfl ?_
          refine w_lo dX9_exchanged_80 rfl rfl rfl rfl ?_
          rcases zcut x55.toInt v47_5.toInt with h67 | h67
          · skip
            replace hb : zHd _ := hb.1 h67
            refine w_clt_t dX9_exchanged_82 (t := 88) rfl (by omega) ?_
            refine w_lo dX9_exchanged_88 rfl rfl rfl rfl ?_
            refine w_lo (ml' := [some (.ref 386), some (.int u47_1), some (.int u47_2), some (.int v47_3), some (.int v47_4), some (.int x55), some (.int v47_6), some (.int v47_7), some (.int x55)]) dX9_exchanged_90 rfl rfl rfl rfl ?_
            refine w_lo dX9_exchanged_92 rfl rfl rfl rfl ?_
            refine w_lo (ml' := [some (.ref 386), some (.int u47_1), some (.int u47_2), some (.int v47_6), some (.int v47_4), some (.int x55), some (.int v47_6), some (.int v47_7), some (.int x55)]) dX9_exchanged_94 rfl rfl rfl rfl ?_
            refine w_lo dX9_exchanged_95 rfl rfl rfl rfl ?_
            refine w_lo (ml' := [some (.ref 386), some (.int u47_1), some (.int u47_2), some (.int v47_6), some (.int v47_7), some (.int x55), some (.int v47_6), some (.int v47_7), some (.int x55)]) dX9_exchanged_97 rfl rfl rfl rfl ?_
            refine w_inc (kk := 7) dX9_exchanged_99 rfl (m := 1) (by decide) (by omega) ?_
            intro x68 h69
            refine ⟨_, rfl, ?_⟩
            replace hb : zHd _ := hb x68.toInt h69
            show ZW _ _ _ _ _ _ _ (102, [some (.ref 386), some (.int u47_1), some (.int u47_2), some (.int v47_6), some (.int v47_7), some (.int x55), some (.int v47_6), some (.int x68), some (.int x55)], [], M60)
            refine w_gt dX9_exchanged_102 (t := 47) rfl ?_
            obtain ⟨m, hm, hI⟩ := hb
            exact (ih m hm).2.2 M60 u47_1 u47_2 v47_6 v47_7 x55 v47_6 x68 (some (.int x55)) hJ66 (by omega) (by omega) (by omega) (by omega) (zbot _) (ztop _) (by omega) (by omega) (by omega) (by omega) hI
          · skip
            replace hb : zHd _ := hb.2 h67
            refine w_clt_f dX9_exchanged_82 (t := 88) rfl (by omega) ?_
            refine w_gt dX9_exchanged_85 (t := 99) rfl ?_
            refine w_inc (kk := 7) dX9_exchanged_99 rfl (m := 1) (by decide) (by omega) ?_
            intro x70 h71
            refine ⟨_, rfl, ?_⟩
            replace hb : zHd _ := hb x70.toInt h71
            show ZW _ _ _ _ _ _ _ (102, [some (.ref 386), some (.int u47_1), some (.int u47_2), some (.int v47_3), some (.int v47_4), some (.int v47_5), some (.int v47_6), some (.int x70), some (.int x55)], [], M60)
            refine w_gt dX9_exchanged_102 (t := 47) rfl ?_
            obtain ⟨m, hm, hI⟩ := hb
            exact (ih m hm).2.2 M60 u47_1 u47_2 v47_3 v47_4 v47_5 v47_6 x70 (some (.int x55)) hJ66 (by omega) (by omega) (by omega) (by omega) (zbot _) (ztop _) (by omega) (by omega) (by omega) (by omega) hI
        · skip
          replace hb : zHd _ := hb.2 h43
          refine w_cge_t dX9_exchanged_53 (t := 105) rfl (by omega) ?_
          refine w_inc (kk := 6) dX9_exchanged_105 rfl (m := 1) (by decide) (by omega) ?_
          intro x72 h73
          refine ⟨_, rfl, ?_⟩
          replace hb : zHd _ := hb x72.toInt h73
          show ZW _ _ _ _ _ _ _ (108, [some (.ref 386), some (.int u47_1), some (.int u47_2), some (.int v47_3), some (.int v47_4), some (.int v47_5), some (.int x72), some (.int v47_7), o47_8], [], M)
          refine w_gt dX9_exchanged_108 (t := 32) rfl ?_
          obtain ⟨m, hm, hI⟩ := hb
          exact (ih m hm).2.1 M u47_1 u47_2 v47_3 v47_4 v47_5 x72 (some (.int v47_7)) o47_8 hJ (by omega) (by omega) (by omega) (by omega) (zbot _) (ztop _) (by omega) (by omega) hI
  have hb : zHd _ := hbE
  show ZW _ _ _ _ _ _ _ (0, [some (.ref 386), none, none, none, none, none, none, none, none], [], M0)
  refine w_lo dX9_exchanged_0 rfl rfl rfl rfl ?_
  refine w_ic dX9_exchanged_1 zi_0 ?_
  refine w_iv dX9_exchanged_2 rfl rfl (As := [.int 0]) rfl rfl hJ0.1.1 zs_386 (Nat.le_of_ble_eq_true rfl) ?_
  obtain ⟨P76, hp77, hb⟩ := hb
  replace hb : zHd _ := hb
  have hp77c : b_2363 (zi M0) (0 : Int32).toInt P76 := by rw [zt_0]; exact hp77
  refine ZV.imp (u_2363 0 (by have := zt_0; omega) (by have := zt_0; omega) hN hJ0.1 hp77c) ?_
  rintro _ ⟨M74, rfl, hJ75, hq78⟩
  replace hb : zHd _ := hb  (zi M74) (zi_fr hJ75.2) hq78
  have hJ80 := zJ_trans hJ0 hJ75 (zSub_cons (fun _ _ h h' hk => zIR_s (zIR_a (by omega) (by omega))) (zSub_cons (fun _ _ h h' hk => zIR_s (zIR_s (zIR_e (by omega) (by omega) hk))) (zSub_cons (fun _ _ h h' hk => zIR_s (zIR_s (zIR_s (zIR_e (by omega) (by omega) hk)))) (zSub_cons (fun _ _ h h' hk => zIR_s (zIR_s (zIR_s (zIR_s (zIR_e (by omega) (by omega) hk))))) zSub_nil))))
  show ZW _ _ _ _ _ _ _ (5, [some (.ref 386), none, none, none, none, none, none, none, none], [], M74)
  refine w_lo dX9_exchanged_5 rfl rfl rfl rfl ?_
  refine w_ic dX9_exchanged_6 zi_0 ?_
  refine w_pfi dX9_exchanged_7 rfl hJ80 zs_386 (Nat.le_of_ble_eq_true rfl) zo_386_77 (zbot _) (ztop _) (zIR_s (zIR_s (zIR_s (zIR_s (zIR_s (zIR_s (zIR_k (by omega) (by omega)))))))) rfl rfl rfl ?_
  intro M81 hJ82 f83 hn84
  replace hb : zHd _ := hb (zi M81) (zi_zup hn84 f83 rfl zt_0)
  refine w_lo dX9_exchanged_10 rfl rfl rfl rfl ?_
  refine w_iv dX9_exchanged_11 rfl rfl (As := []) rfl rfl hJ82.1.1 zs_386 (Nat.le_of_ble_eq_true rfl) ?_
  have h88 := hb.1
  replace hb : zHd _ := hb.2
  refine ZV.imp (k_2401 hN hJ82.1 h88) ?_
  rintro _ ⟨x90, M86, rfl, h91, h92, hJ87, hq89⟩
  replace hb : zHd _ := hb x90.toInt  (zi M86) (zi_fr hJ87.2)
  have hJ94 := zJ_trans hJ82 hJ87 (zSub_cons (fun _ _ h h' hk => zIR_a (by omega) (by omega)) (zSub_cons (fun _ _ h h' hk => zIR_s (zIR_a (by omega) (by omega))) (zSub_cons (fun _ _ h h' hk => zIR_s (zIR_s (zIR_s (zIR_e (by omega) (by omega) hk)))) (zSub_cons (fun _ _ h h' hk => zIR_s (zIR_s (zIR_s (zIR_s (zIR_s (zIR_e (by omega) (by omega) hk)))))) zSub_nil))))
  show ZW _ _ _ _ _ _ _ (14, [some (.ref 386), none, none, none, none, none, none, none, none], [.int x90], M86)
  refine w_lo (ml' := [some (.ref 386), some (.int x90), none, none, none, none, none, none, none]) dX9_exchanged_14 rfl rfl rfl rfl ?_
  refine w_ic dX9_exchanged_15 zi_1 ?_
  refine w_lo (ml' := [some (.ref 386), some (.int x90), some (.int 1), none, none, none, none, none, none]) dX9_exchanged_16 rfl rfl rfl rfl ?_
  obtain ⟨m, hI⟩ := hb
  exact (main m).1 M86 x90 1 none none none none none none hJ94 (zbot _) (ztop _) (by have := zt_1; omega) (by have := zt_1; omega) hI
set_option maxRecDepth 100000 in
theorem u_2405 {X : List Int32} {d N : Nat} {M0 : zM} (a0 : Int32) (hN : N ≤ 600) (hB0 : zB N M0) {Q : Int → zF → Prop} (hb : b_2405 (zi M0) a0.toInt Q) : ZV X (d + 10) 2405 [.ref 386, .int a0] M0 (zRI N [(416, 418, 1000), (434, 436, 1000), (386, 387, 70), (386, 387, 71), (386, 387, 72), (386, 387, 74), (386, 387, 77)] M0 (-2147483648) (2147483647) (fun v M' => Q v.toInt (zi M'))) := by
  have hJ0 : zJ N [(416, 418, 1000), (434, 436, 1000), (386, 387, 70), (386, 387, 71), (386, 387, 72), (386, 387, 74), (386, 387, 77)] M0 M0 := zJ_refl hB0
  refine ZV.of (ini := false) rfl (Nat.le_of_ble_eq_true rfl) (by decide +kernel) ?_
  unfold b_2405 at hb
  replace hb : zHd _ := hb
  show ZW _ _ _ _ _ _ _ (0, [some (.ref 386), some (.int a0), none], [], M0)
  refine w_lo dX9_exchange_0 rfl rfl rfl rfl ?_
  refine w_iv dX9_exchange_1 rfl rfl (As := []) rfl rfl hJ0.1.1 zs_386 (Nat.le_of_ble_eq_true rfl) ?_
  refine ZV.of (ini := false) rfl (Nat.le_of_ble_eq_true rfl) (by decide +kernel) ?_
  show ZW _ _ _ _ _ _ _ (0, [some (.ref 386)], [], M0)
  refine w_lo dX9_many_0 rfl rfl rfl rfl ?_
  refine w_gf dX9_many_1 rfl hJ0.1.1 zs_386 (zr_386_13 hJ0.1) ?_
  refine w_lo dX9_many_4 rfl rfl rfl rfl ?_
  refine w_gfi dX9_many_5 rfl hJ0.1 zs_386 (Nat.le_of_ble_eq_true rfl) zo_386_12 ?_
  intro x1 f2 h3 h4
  replace hb : zHd _ := hb x1.toInt (ziE f2) h3 h4
  refine w_iai dX9_many_8 hJ0.1 zs_388 (by omega) (by omega) zu_388 ?_
  intro x8 f5 h6 h7
  replace hb : zHd _ := hb x8.toInt (ziEk f5 rfl) h6 h7
  refine w_eni dX9_many_9 rfl rfl ?_
  show ZW _ _ _ _ _ _ _ (4, [some (.ref 386), some (.int a0), none], [.int x8], M0)
  rcases Int.decEq x8.toInt (0 : Int) with h9 | h9
  · skip
    replace hb : zHd _ := hb.1 h9
    refine w_ieq_f dX9_exchange_4 (t := 26) rfl (by omega) ?_
    refine w_lo dX9_exchange_7 rfl rfl rfl rfl ?_
    refine w_ic dX9_exchange_8 zi_m1 ?_
    rcases Int.decEq a0.toInt (-1 : Int) with h10 | h10
    · skip
      replace hb : zHd _ := hb.1 h10
      refine w_ceq_f dX9_exchange_9 (t := 28) rfl (by have := zt_m1; omega) ?_
      refine w_lo dX9_exchange_12 rfl rfl rfl rfl ?_
      refine w_bi dX9_exchange_13 (c := 20) (by decide) ?_
      rcases Int.decEq a0.toInt (20 : Int) with h11 | h11
      · skip
        replace hb : zHd _ := hb.1 h11
        refine w_ceq_f dX9_exchange_15 (t := 28) rfl (by have := zt_20; omega) ?_
        refine w_lo dX9_exchange_18 rfl rfl rfl rfl ?_
        refine w_lo dX9_exchange_19 rfl rfl rfl rfl ?_
        refine w_iv dX9_exchange_20 rfl rfl (As := [.int a0]) rfl rfl hJ0.1.1 zs_386 (Nat.le_of_ble_eq_true rfl) ?_
        refine ZV.of (ini := false) rfl (Nat.le_of_ble_eq_true rfl) (by decide +kernel) ?_
        show ZW _ _ _ _ _ _ _ (0, [some (.ref 386), some (.int a0)], [], M0)
        refine w_lo dX9_isBoy_0 rfl rfl rfl rfl ?_
        rcases zcut a0.toInt (0 : Int) with h12 | h12
        · skip
          replace hb : zHd _ := hb.1 h12
          refine w_ilt_t dX9_isBoy_1 (t := 21) rfl (by omega) ?_
          refine w_ic dX9_isBoy_21 zi_0 ?_
          refine w_en dX9_isBoy_22 rfl ?_
          show ZW _ _ _ _ _ _ _ (23, [some (.ref 386), some (.int a0), none], [.int 0], M0)
          refine w_ine_f dX9_exchange_23 (t := 28) rfl (by have := zt_0; omega) ?_
          refine w_ic dX9_exchange_26 zi_m1 ?_
          refine w_en dX9_exchange_27 rfl ?_
          exact ⟨_, _, rfl, (zbot _), (ztop _), hJ0, hb⟩
        · skip
          replace hb : zHd _ := hb.2 h12
          refine w_ilt_f dX9_isBoy_1 (t := 21) rfl (by omega) ?_
          refine w_lo dX9_isBoy_4 rfl rfl rfl rfl ?_
          refine w_lo dX9_isBoy_5 rfl rfl rfl rfl ?_
          refine w_gf dX9_isBoy_6 rfl hJ0.1.1 zs_386 (zr_386_13 hJ0.1) ?_
          refine w_lo dX9_isBoy_9 rfl rfl rfl rfl ?_
          refine w_gf dX9_isBoy_10 rfl hJ0.1.1 zs_386 f2 ?_
          refine w_ia dX9_isBoy_13 hJ0.1.1 zs_388 (znat (by omega)) f5 ?_
          rcases zcut a0.toInt x8.toInt with h16 | h16
          · skip
            replace hb : zHd _ := hb.1 h16
            refine w_cge_f dX9_isBoy_14 (t := 21) rfl (by omega) ?_
            refine w_ic dX9_isBoy_17 zi_1 ?_
            refine w_gt dX9_isBoy_18 (t := 22) rfl ?_
            refine w_en dX9_isBoy_22 rfl ?_
            show ZW _ _ _ _ _ _ _ (23, [some (.ref 386), some (.int a0), none], [.int 1], M0)
            refine w_ine_t dX9_exchange_23 (t := 28) rfl (by have := zt_1; omega) ?_
            refine w_lo dX9_exchange_28 rfl rfl rfl rfl ?_
            refine w_iv dX9_exchange_29 rfl rfl (As := []) rfl rfl hJ0.1.1 zs_386 (Nat.le_of_ble_eq_true rfl) ?_
            obtain ⟨P19, hp20, hb⟩ := hb
            replace hb : zHd _ := hb
            refine ZV.imp (u_2406 hN hJ0.1 hp20) ?_
            rintro _ ⟨x22, M17, rfl, h23, h24, hJ18, hq21⟩
            replace hb : zHd _ := hb x22.toInt  (zi M17) (zi_fr hJ18.2) hq21
            have hJ26 := zJ_trans hJ0 hJ18 (zSub_cons (fun _ _ h h' hk => zIR_a (by omega) (by omega)) (zSub_cons (fun _ _ h h' hk => zIR_s (zIR_a (by omega) (by omega))) (zSub_cons (fun _ _ h h' hk => zIR_s (zIR_s (zIR_e (by omega) (by omega) hk))) (zSub_cons (fun _ _ h h' hk => zIR_s (zIR_s (zIR_s (zIR_e (by omega) (by omega) hk)))) (zSub_cons (fun _ _ h h' hk => zIR_s (zIR_s (zIR_s (zIR_s (zIR_e (by omega) (by omega) hk))))) (zSub_cons (fun _ _ h h' hk => zIR_s (zIR_s (zIR_s (zIR_s (zIR_s (zIR_e (by omega) (by omega) hk)))))) (zSub_cons (fun _ _ h h' hk => zIR_s (zIR_s (zIR_s (zIR_s (zIR_s (zIR_s (zIR_e (by omega) (by omega) hk))))))) zSub_nil)))))))
            show ZW _ _ _ _ _ _ _ (32, [some (.ref 386), some (.int a0), none], [.int x22], M17)
            refine w_lo (ml' := [some (.ref 386), some (.int a0), some (.int x22)]) dX9_exchange_32 rfl rfl rfl rfl ?_
            refine w_lo dX9_exchange_33 rfl rfl rfl rfl ?_
            refine w_ic dX9_exchange_34 zi_m1 ?_
            refine w_cne_t dX9_exchange_35 (t := 42) rfl (by have := zt_m1; omega) ?_
            refine w_lo dX9_exchange_42 rfl rfl rfl rfl ?_
            refine w_bi dX9_exchange_43 (c := 20) (by decide) ?_
            refine w_cne_t dX9_exchange_45 (t := 55) rfl (by have := zt_20; omega) ?_
            refine w_lo dX9_exchange_55 rfl rfl rfl rfl ?_
            refine w_gf dX9_exchange_56 rfl hJ26.1.1 zs_386 (zr_386_69 hJ26.1) ?_
            refine w_lo dX9_exchange_59 rfl rfl rfl rfl ?_
            refine w_iai dX9_exchange_60 hJ26.1 zs_434 (by omega) (by omega) zu_434 ?_
            intro x30 f27 h28 h29
            replace hb : zHd _ := hb x30.toInt (ziEk f27 rfl) h28 h29
            refine w_eni dX9_exchange_61 rfl rfl ?_
            exact ⟨_, _, rfl, (zbot _), (ztop _), hJ26, hb⟩
          · skip
            replace hb : zHd _ := hb.2 h16
            refine w_cge_t dX9_isBoy_14 (t := 21) rfl (by omega) ?_
            refine w_ic dX9_isBoy_21 zi_0 ?_
            refine w_en dX9_isBoy_22 rfl ?_
            show ZW _ _ _ _ _ _ _ (23, [some (.ref 386), some (.int a0), none], [.int 0], M0)
            refine w_ine_f dX9_exchange_23 (t := 28) rfl (by have := zt_0; omega) ?_
            refine w_ic dX9_exchange_26 zi_m1 ?_
            refine w_en dX9_exchange_27 rfl ?_
            exact ⟨_, _, rfl, (zbot _), (ztop _), hJ0, hb⟩
      · skip
        replace hb : zHd _ := hb.2 h11
        refine w_ceq_t dX9_exchange_15 (t := 28) rfl (by have := zt_20; omega) ?_
        refine w_lo dX9_exchange_28 rfl rfl rfl rfl ?_
        refine w_iv dX9_exchange_29 rfl rfl (As := []) rfl rfl hJ0.1.1 zs_386 (Nat.le_of_ble_eq_true rfl) ?_
        obtain ⟨P33, hp34, hb⟩ := hb
        replace hb : zHd _ := hb
        refine ZV.imp (u_2406 hN hJ0.1 hp34) ?_
        rintro _ ⟨x36, M31, rfl, h37, h38, hJ32, hq35⟩
        replace hb : zHd _ := hb x36.toInt  (zi M31) (zi_fr hJ32.2) hq35
        have hJ40 := zJ_trans hJ0 hJ32 (zSub_cons (fun _ _ h h' hk => zIR_a (by omega) (by omega)) (zSub_cons (fun _ _ h h' hk => zIR_s (zIR_a (by omega) (by omega))) (zSub_cons (fun _ _ h h' hk => zIR_s (zIR_s (zIR_e (by omega) (by omega) hk))) (zSub_cons (fun _ _ h h' hk => zIR_s (zIR_s (zIR_s (zIR_e (by omega) (by omega) hk)))) (zSub_cons (fun _ _ h h' hk => zIR_s (zIR_s (zIR_s (zIR_s (zIR_e (by omega) (by omega) hk))))) (zSub_cons (fun _ _ h h' hk => zIR_s (zIR_s (zIR_s (zIR_s (zIR_s (zIR_e (by omega) (by omega) hk)))))) (zSub_cons (fun _ _ h h' hk => zIR_s (zIR_s (zIR_s (zIR_s (zIR_s (zIR_s (zIR_e (by omega) (by omega) hk))))))) zSub_nil)))))))
        show ZW _ _ _ _ _ _ _ (32, [some (.ref 386), some (.int a0), none], [.int x36], M31)
        refine w_lo (ml' := [some (.ref 386), some (.int a0), some (.int x36)]) dX9_exchange_32 rfl rfl rfl rfl ?_
        refine w_lo dX9_exchange_33 rfl rfl rfl rfl ?_
        refine w_ic dX9_exchange_34 zi_m1 ?_
        refine w_cne_t dX9_exchange_35 (t := 42) rfl (by have := zt_m1; omega) ?_
        refine w_lo dX9_exchange_42 rfl rfl rfl rfl ?_
        refine w_bi dX9_exchange_43 (c := 20) (by decide) ?_
        refine w_cne_f dX9_exchange_45 (t := 55) rfl (by have := zt_20; omega) ?_
        refine w_lo dX9_exchange_48 rfl rfl rfl rfl ?_
        refine w_gfi dX9_exchange_49 rfl hJ40.1 zs_386 (Nat.le_of_ble_eq_true rfl) zo_386_77 ?_
        intro x41 f42 h43 h44
        replace hb : zHd _ := hb x41.toInt (ziE f42)
        refine w_gt dX9_exchange_52 (t := 61) rfl ?_
        refine w_eni dX9_exchange_61 rfl rfl ?_
        exact ⟨_, _, rfl, (zbot _), (ztop _), hJ40, hb⟩
    · skip
      replace hb : zHd _ := hb.2 h10
      refine w_ceq_t dX9_exchange_9 (t := 28) rfl (by have := zt_m1; omega) ?_
      refine w_lo dX9_exchange_28 rfl rfl rfl rfl ?_
      refine w_iv dX9_exchange_29 rfl rfl (As := []) rfl rfl hJ0.1.1 zs_386 (Nat.le_of_ble_eq_true rfl) ?_
      obtain ⟨P47, hp48, hb⟩ := hb
      replace hb : zHd _ := hb
      refine ZV.imp (u_2406 hN hJ0.1 hp48) ?_
      rintro _ ⟨x50, M45, rfl, h51, h52, hJ46, hq49⟩
      replace hb : zHd _ := hb x50.toInt  (zi M45) (zi_fr hJ46.2) hq49
      have hJ54 := zJ_trans hJ0 hJ46 (zSub_cons (fun _ _ h h' hk => zIR_a (by omega) (by omega)) (zSub_cons (fun _ _ h h' hk => zIR_s (zIR_a (by omega) (by omega))) (zSub_cons (fun _ _ h h' hk => zIR_s (zIR_s (zIR_e (by omega) (by omega) hk))) (zSub_cons (fun _ _ h h' hk => zIR_s (zIR_s (zIR_s (zIR_e (by omega) (by omega) hk)))) (zSub_cons (fun _ _ h h' hk => zIR_s (zIR_s (zIR_s (zIR_s (zIR_e (by omega) (by omega) hk))))) (zSub_cons (fun _ _ h h' hk => zIR_s (zIR_s (zIR_s (zIR_s (zIR_s (zIR_e (by omega) (by omega) hk)))))) (zSub_cons (fun _ _ h h' hk => zIR_s (zIR_s (zIR_s (zIR_s (zIR_s (zIR_s (zIR_e (by omega) (by omega) hk))))))) zSub_nil)))))))
      show ZW _ _ _ _ _ _ _ (32, [some (.ref 386), some (.int a0), none], [.int x50], M45)
      refine w_lo (ml' := [some (.ref 386), some (.int a0), some (.int x50)]) dX9_exchange_32 rfl rfl rfl rfl ?_
      refine w_lo dX9_exchange_33 rfl rfl rfl rfl ?_
      refine w_ic dX9_exchange_34 zi_m1 ?_
      refine w_cne_f dX9_exchange_35 (t := 42) rfl (by have := zt_m1; omega) ?_
      refine w_lo dX9_exchange_38 rfl rfl rfl rfl ?_
      refine w_gt dX9_exchange_39 (t := 61) rfl ?_
      refine w_eni dX9_exchange_61 rfl rfl ?_
      exact ⟨_, _, rfl, (zbot _), (ztop _), hJ54, hb⟩
  · skip
    replace hb : zHd _ := hb.2 h9
    refine w_ieq_t dX9_exchange_4 (t := 26) rfl (by omega) ?_
    refine w_ic dX9_exchange_26 zi_m1 ?_
    refine w_en dX9_exchange_27 rfl ?_
    exact ⟨_, _, rfl, (zbot _), (ztop _), hJ0, hb⟩
set_option maxRecDepth 100000 in
theorem u_2407 {X : List Int32} {d N : Nat} {M0 : zM}  (hN : N ≤ 600) (hB0 : zB N M0) {Q : Int → zF → Prop} (hb : b_2407 (zi M0) Q) : ZV X (d + 10) 2407 [.ref 386] M0 (zRI N [(415, 433, 1000), (434, 436, 1000), (386, 387, 64), (386, 387, 65), (386, 387, 70), (386, 387, 71), (386, 387, 72), (386, 387, 74), (386, 387, 77)] M0 (-2147483648) (2147483647) (fun v M' => Q v.toInt (zi M'))) := by
  have hJ0 : zJ N [(415, 433, 1000), (434, 436, 1000), (386, 387, 64), (386, 387, 65), (386, 387, 70), (386, 387, 71), (386, 387, 72), (386, 387, 74), (386, 387, 77)] M0 M0 := zJ_refl hB0
  refine ZV.of (ini := false) rfl (Nat.le_of_ble_eq_true rfl) (by decide +kernel) ?_
  obtain ⟨I33, hbE, hb33⟩ := hb
  replace hbE : zHd _ := hbE
  replace hb33 : zHd _ := hb33
  have main : ∀ n : Nat,
      (∀ (M : zM) (v33_1 : Int32), zJ N [(415, 433, 1000), (434, 436, 1000), (386, 387, 64), (386, 387, 65), (386, 387, 70), (386, 387, 71), (386, 387, 72), (386, 387, 74), (386, 387, 77)] M0 M → ((0 : Int) ≤ v33_1.toInt) → (v33_1.toInt ≤ 12) → I33 n (zi M) v33_1.toInt → ZW X (d + 9) 9 false (some .int) cX9_lay (zRI N [(415, 433, 1000), (434, 436, 1000), (386, 387, 64), (386, 387, 65), (386, 387, 70), (386, 387, 71), (386, 387, 72), (386, 387, 74), (386, 387, 77)] M0 (-2147483648) (2147483647) (fun v M' => Q v.toInt (zi M'))) (33, [some (.ref 386), some (.int v33_1)], [], M)) := by
    intro n
    induction n using Nat.strongRecOn with
    | _ n ih =>
      · intro M v33_1 hJ v33_10 v33_11 hI
        have hb : zHd _ := hb33 n (zi M) v33_1.toInt (zi_fr hJ.2) v33_10 v33_11 hI
        refine w_lo dX9_lay_33 rfl rfl rfl rfl ?_
        refine w_lo dX9_lay_34 rfl rfl rfl rfl ?_
        refine w_gfi dX9_lay_35 rfl hJ.1 zs_386 (Nat.le_of_ble_eq_true rfl) zo_386_70 ?_
        intro x1 f2 h3 h4
        replace hb : zHd _ := hb x1.toInt (ziE f2) h3 h4
        rcases zcut v33_1.toInt x1.toInt with h5 | h5
        · skip
          replace hb : zHd _ := hb.1 h5
          refine w_cge_f dX9_lay_38 (t := 59) rfl (by omega) ?_
          refine w_lo dX9_lay_41 rfl rfl rfl rfl ?_
          refine w_gf dX9_lay_42 rfl hJ.1.1 zs_386 (zr_386_50 hJ.1) ?_
          refine w_lo dX9_lay_45 rfl rfl rfl rfl ?_
          refine w_lo dX9_lay_46 rfl rfl rfl rfl ?_
          refine w_gf dX9_lay_47 rfl hJ.1.1 zs_386 (zr_386_69 hJ.1) ?_
          refine w_lo dX9_lay_50 rfl rfl rfl rfl ?_
          refine w_iai dX9_lay_51 hJ.1 zs_434 (by omega) (by omega) zu_434 ?_
          intro x9 f6 h7 h8
          replace hb : zHd _ := hb x9.toInt (ziEk f6 rfl) h7 h8
          refine w_isi dX9_lay_52 hJ zs_419 (by omega) (by omega) zu_419 (by omega) (by omega) (zIR_a (by omega) (by omega)) ?_
          intro M10 hJ11 f12 hn13
          replace hb : zHd _ := hb (zi M10) (zi_zup hn13 f12 rfl rfl)
          refine w_inc (kk := 1) dX9_lay_53 rfl (m := 1) (by decide) (by omega) ?_
          intro x15 h16
          refine ⟨_, rfl, ?_⟩
          replace hb : zHd _ := hb x15.toInt h16
          show ZW _ _ _ _ _ _ _ (56, [some (.ref 386), some (.int x15)], [], M10)
          refine w_gt dX9_lay_56 (t := 33) rfl ?_
          obtain ⟨m, hm, hI⟩ := hb
          exact (ih m hm) M10 x15 hJ11 (by omega) (by omega) hI
        · skip
          replace hb : zHd _ := hb.2 h5
          refine w_cge_t dX9_lay_38 (t := 59) rfl (by omega) ?_
          refine w_lo dX9_lay_59 rfl rfl rfl rfl ?_
          refine w_gfi dX9_lay_60 rfl hJ.1 zs_386 (Nat.le_of_ble_eq_true rfl) zo_386_77 ?_
          intro x17 f18 h19 h20
          replace hb : zHd _ := hb x17.toInt (ziE f18)
          refine w_eni dX9_lay_63 rfl rfl ?_
          exact ⟨_, _, rfl, (zbot _), (ztop _), hJ, hb⟩
  have hb : zHd _ := hbE
  show ZW _ _ _ _ _ _ _ (0, [some (.ref 386), none], [], M0)
  refine w_lo dX9_lay_0 rfl rfl rfl rfl ?_
  refine w_iv dX9_lay_1 rfl rfl (As := []) rfl rfl hJ0.1.1 zs_386 (Nat.le_of_ble_eq_true rfl) ?_
  refine ZV.of (ini := false) rfl (Nat.le_of_ble_eq_true rfl) (by decide +kernel) ?_
  show ZW _ _ _ _ _ _ _ (0, [some (.ref 386)], [], M0)
  refine w_lo dX9_many_0 rfl rfl rfl rfl ?_
  refine w_gf dX9_many_1 rfl hJ0.1.1 zs_386 (zr_386_13 hJ0.1) ?_
  refine w_lo dX9_many_4 rfl rfl rfl rfl ?_
  refine w_gfi dX9_many_5 rfl hJ0.1 zs_386 (Nat.le_of_ble_eq_true rfl) zo_386_12 ?_
  intro x21 f22 h23 h24
  replace hb : zHd _ := hb x21.toInt (ziE f22) h23 h24
  refine w_iai dX9_many_8 hJ0.1 zs_388 (by omega) (by omega) zu_388 ?_
  intro x28 f25 h26 h27
  replace hb : zHd _ := hb x28.toInt (ziEk f25 rfl) h26 h27
  refine w_eni dX9_many_9 rfl rfl ?_
  show ZW _ _ _ _ _ _ _ (4, [some (.ref 386), none], [.int x28], M0)
  rcases Int.decEq x28.toInt (0 : Int) with h29 | h29
  · skip
    replace hb : zHd _ := hb.1 h29
    refine w_ine_t dX9_lay_4 (t := 13) rfl (by omega) ?_
    refine w_lo dX9_lay_13 rfl rfl rfl rfl ?_
    refine w_iv dX9_lay_14 rfl rfl (As := []) rfl rfl hJ0.1.1 zs_386 (Nat.le_of_ble_eq_true rfl) ?_
    obtain ⟨P32, hp33, hb⟩ := hb
    replace hb : zHd _ := hb
    refine ZV.imp (u_2406 hN hJ0.1 hp33) ?_
    rintro _ ⟨x35, M30, rfl, h36, h37, hJ31, hq34⟩
    replace hb : zHd _ := hb x35.toInt  (zi M30) (zi_fr hJ31.2) hq34
    have hJ39 := zJ_trans hJ0 hJ31 (zSub_cons (fun _ _ h h' hk => zIR_a (by omega) (by omega)) (zSub_cons (fun _ _ h h' hk => zIR_s (zIR_a (by omega) (by omega))) (zSub_cons (fun _ _ h h' hk => zIR_s (zIR_s (zIR_s (zIR_s (zIR_e (by omega) (by omega) hk))))) (zSub_cons (fun _ _ h h' hk => zIR_s (zIR_s (zIR_s (zIR_s (zIR_s (zIR_e (by omega) (by omega) hk)))))) (zSub_cons (fun _ _ h h' hk => zIR_s (zIR_s (zIR_s (zIR_s (zIR_s (zIR_s (zIR_e (by omega) (by omega) hk))))))) (zSub_cons (fun _ _ h h' hk => zIR_s (zIR_s (zIR_s (zIR_s (zIR_s (zIR_s (zIR_s (zIR_e (by omega) (by omega) hk)))))))) (zSub_cons (fun _ _ h h' hk => zIR_s (zIR_s (zIR_s (zIR_s (zIR_s (zIR_s (zIR_s (zIR_s (zIR_e (by omega) (by omega) hk))))))))) zSub_nil)))))))
    show ZW _ _ _ _ _ _ _ (17, [some (.ref 386), none], [.int x35], M30)
    refine w_pu dX9_lay_17 rfl rfl ?_
    refine w_lo dX9_lay_18 rfl rfl rfl rfl ?_
    refine w_gfi dX9_lay_19 rfl hJ39.1 zs_386 (Nat.le_of_ble_eq_true rfl) zo_386_77 ?_
    intro x40 f41 h42 h43
    replace hb : zHd _ := hb x40.toInt (ziE f41)
    rcases Int.decEq x40.toInt (0 : Int) with h44 | h44
    · skip
      replace hb : zHd _ := hb.1 h44
      refine w_ine_t dX9_lay_22 (t := 27) rfl (by omega) ?_
      refine w_lo dX9_lay_27 rfl rfl rfl rfl ?_
      refine w_iv dX9_lay_28 rfl rfl (As := []) rfl rfl hJ39.1.1 zs_386 (Nat.le_of_ble_eq_true rfl) ?_
      obtain ⟨P47, hp48, hb⟩ := hb
      replace hb : zHd _ := hb
      refine ZV.imp (u_2377 hN hJ39.1 hp48) ?_
      rintro _ ⟨M45, rfl, hJ46, hq49⟩
      replace hb : zHd _ := hb  (zi M45) (zi_fr hJ46.2) hq49
      have hJ51 := zJ_trans hJ39 hJ46 (zSub_cons (fun _ _ h h' hk => zIR_a (by omega) (by omega)) (zSub_cons (fun _ _ h h' hk => zIR_s (zIR_s (zIR_e (by omega) (by omega) hk))) (zSub_cons (fun _ _ h h' hk => zIR_s (zIR_s (zIR_s (zIR_e (by omega) (by omega) hk)))) zSub_nil)))
      show ZW _ _ _ _ _ _ _ (31, [some (.ref 386), none], [], M45)
      refine w_ic dX9_lay_31 zi_0 ?_
      refine w_lo (ml' := [some (.ref 386), some (.int 0)]) dX9_lay_32 rfl rfl rfl rfl ?_
      obtain ⟨m, hI⟩ := hb
      exact (main m) M45 0 hJ51 (by have := zt_0; omega) (by have := zt_0; omega) hI
    · skip
      replace hb : zHd _ := hb.2 h44
      refine w_ine_f dX9_lay_22 (t := 27) rfl (by omega) ?_
      refine w_ic dX9_lay_25 zi_0 ?_
      refine w_en dX9_lay_26 rfl ?_
      exact ⟨_, _, rfl, (zbot _), (ztop _), hJ39, hb⟩
  · skip
    replace hb : zHd _ := hb.2 h29
    refine w_ine_f dX9_lay_4 (t := 13) rfl (by omega) ?_
    refine w_lo dX9_lay_7 rfl rfl rfl rfl ?_
    refine w_ic dX9_lay_8 zi_3 ?_
    refine w_iv dX9_lay_9 rfl rfl (As := [.int 3]) rfl rfl hJ0.1.1 zs_386 (Nat.le_of_ble_eq_true rfl) ?_
    refine ZV.imp (k_2306 3 (by have := zt_3; omega) (by have := zt_3; omega) hN hJ0.1) ?_
    rintro _ ⟨x55, M52, rfl, h56, h57, hJ53, hq54⟩
    replace hb : zHd _ := hb x55.toInt h56 h57 (zi M52) (zi_fr hJ53.2)
    have hJ59 := zJ_trans hJ0 hJ53 (zSub_cons (fun _ _ h h' hk => zIR_a (by omega) (by omega)) zSub_nil)
    show ZW _ _ _ _ _ _ _ (12, [some (.ref 386), none], [.int x55], M52)
    refine w_eni dX9_lay_12 rfl rfl ?_
    exact ⟨_, _, rfl, (zbot _), (ztop _), hJ59, hb⟩
set_option maxRecDepth 100000 in
theorem u_2413 {X : List Int32} {d N : Nat} {M0 : zM} (a0 : Int32) (ha00 : (0 : Int) ≤ a0.toInt) (ha01 : a0.toInt ≤ 11) (a1 : Int32) (ha10 : (0 : Int) ≤ a1.toInt) (ha11 : a1.toInt ≤ 5) (hN : N ≤ 600) (hB0 : zB N M0) {Q : Int → zF → Prop} (hb : b_2413 (zi M0) a0.toInt a1.toInt Q) : ZV X (d + 8) 2413 [.ref 386, .int a0, .int a1] M0 (zRI N [(416, 418, 1000), (434, 436, 1000), (386, 387, 70), (386, 387, 71), (386, 387, 72), (386, 387, 74)] M0 (-2147483648) (2147483647) (fun v M' => Q v.toInt (zi M'))) := by
  have hJ0 : zJ N [(416, 418, 1000), (434, 436, 1000), (386, 387, 70), (386, 387, 71), (386, 387, 72), (386, 387, 74)] M0 M0 := zJ_refl hB0
  refine ZV.of (ini := false) rfl (Nat.le_of_ble_eq_true rfl) (by decide +kernel) ?_
  obtain ⟨I41, hbE, hb41⟩ := hb
  replace hbE : zHd _ := hbE
  replace hb41 : zHd _ := hb41
  have main : ∀ n : Nat,
      (∀ (M : zM) (v41_1 : Int32) (v41_2 : Int32) (v41_3 : Int32), zJ N [(416, 418, 1000), (434, 436, 1000), (386, 387, 70), (386, 387, 71), (386, 387, 72), (386, 387, 74)] M0 M → ((0 : Int) ≤ v41_1.toInt) → (v41_1.toInt ≤ 11) → ((0 : Int) ≤ v41_2.toInt) → (v41_2.toInt ≤ 5) → ((0 : Int) ≤ v41_3.toInt) → (v41_3.toInt ≤ 12) → I41 n (zi M) v41_1.toInt v41_2.toInt v41_3.toInt → ZW X (d + 7) 9 false (some .int) cX9_oddsIf (zRI N [(416, 418, 1000), (434, 436, 1000), (386, 387, 70), (386, 387, 71), (386, 387, 72), (386, 387, 74)] M0 (-2147483648) (2147483647) (fun v M' => Q v.toInt (zi M'))) (41, [some (.ref 386), some (.int v41_1), some (.int v41_2), some (.int v41_3)], [], M)) := by
    intro n
    induction n using Nat.strongRecOn with
    | _ n ih =>
      · intro M v41_1 v41_2 v41_3 hJ v41_10 v41_11 v41_20 v41_21 v41_30 v41_31 hI
        have hb : zHd _ := hb41 n (zi M) v41_1.toInt v41_2.toInt v41_3.toInt (zi_fr hJ.2) v41_10 v41_11 v41_20 v41_21 v41_30 v41_31 hI
        refine w_lo dX9_oddsIf_41 rfl rfl rfl rfl ?_
        refine w_lo dX9_oddsIf_42 rfl rfl rfl rfl ?_
        refine w_iv dX9_oddsIf_43 rfl rfl (As := []) rfl rfl hJ.1.1 zs_386 (Nat.le_of_ble_eq_true rfl) ?_
        refine ZV.of (ini := false) rfl (Nat.le_of_ble_eq_true rfl) (by decide +kernel) ?_
        show ZW _ _ _ _ _ _ _ (0, [some (.ref 386)], [], M)
        refine w_lo dX9_many_0 rfl rfl rfl rfl ?_
        refine w_gf dX9_many_1 rfl hJ.1.1 zs_386 (zr_386_13 hJ.1) ?_
        refine w_lo dX9_many_4 rfl rfl rfl rfl ?_
        refine w_gfi dX9_many_5 rfl hJ.1 zs_386 (Nat.le_of_ble_eq_true rfl) zo_386_12 ?_
        intro x1 f2 h3 h4
        replace hb : zHd _ := hb x1.toInt (ziE f2) h3 h4
        refine w_iai dX9_many_8 hJ.1 zs_388 (by omega) (by omega) zu_388 ?_
        intro x8 f5 h6 h7
        replace hb : zHd _ := hb x8.toInt (ziEk f5 rfl) h6 h7
        refine w_eni dX9_many_9 rfl rfl ?_
        show ZW _ _ _ _ _ _ _ (46, [some (.ref 386), some (.int v41_1), some (.int v41_2), some (.int v41_3)], [.int x8, .int v41_3], M)
        rcases zcut v41_3.toInt x8.toInt with h9 | h9
        · skip
          replace hb : zHd _ := hb.1 h9
          refine w_cge_f dX9_oddsIf_46 (t := 72) rfl (by omega) ?_
          refine w_lo dX9_oddsIf_49 rfl rfl rfl rfl ?_
          refine w_gf dX9_oddsIf_50 rfl hJ.1.1 zs_386 (zr_386_73 hJ.1) ?_
          refine w_lo dX9_oddsIf_53 rfl rfl rfl rfl ?_
          refine w_iai dX9_oddsIf_54 hJ.1 zs_435 (by omega) (by omega) zu_435 ?_
          intro x13 f10 h11 h12
          replace hb : zHd _ := hb x13.toInt (ziEk f10 rfl) h11
          refine w_lo dX9_oddsIf_55 rfl rfl rfl rfl ?_
          refine w_gf dX9_oddsIf_56 rfl hJ.1.1 zs_386 (zr_386_67 hJ.1) ?_
          refine w_lo dX9_oddsIf_59 rfl rfl rfl rfl ?_
          refine w_iai dX9_oddsIf_60 hJ.1 zs_433 (by omega) (by omega) zu_433 ?_
          intro x17 f14 h15 h16
          replace hb : zHd _ := hb x17.toInt (ziEk f14 rfl)
          rcases Int.decEq x13.toInt x17.toInt with h18 | h18
          · skip
            replace hb : zHd _ := hb.1 h18
            refine w_ceq_f dX9_oddsIf_61 (t := 66) rfl (by omega) ?_
            refine w_ic dX9_oddsIf_64 zi_0 ?_
            refine w_en dX9_oddsIf_65 rfl ?_
            exact ⟨_, _, rfl, (zbot _), (ztop _), hJ, hb⟩
          · skip
            replace hb : zHd _ := hb.2 h18
            refine w_ceq_t dX9_oddsIf_61 (t := 66) rfl (by omega) ?_
            refine w_inc (kk := 3) dX9_oddsIf_66 rfl (m := 1) (by decide) (by omega) ?_
            intro x19 h20
            refine ⟨_, rfl, ?_⟩
            replace hb : zHd _ := hb x19.toInt h20
            show ZW _ _ _ _ _ _ _ (69, [some (.ref 386), some (.int v41_1), some (.int v41_2), some (.int x19)], [], M)
            refine w_gt dX9_oddsIf_69 (t := 41) rfl ?_
            obtain ⟨m, hm, hI⟩ := hb
            exact (ih m hm) M v41_1 v41_2 x19 hJ (by omega) (by omega) (by omega) (by omega) (by omega) (by omega) hI
        · skip
          replace hb : zHd _ := hb.2 h9
          refine w_cge_t dX9_oddsIf_46 (t := 72) rfl (by omega) ?_
          refine w_lo dX9_oddsIf_72 rfl rfl rfl rfl ?_
          refine w_gf dX9_oddsIf_73 rfl hJ.1.1 zs_386 (zr_386_17 hJ.1) ?_
          refine w_bi dX9_oddsIf_76 (c := 12) (by decide) ?_
          refine w_lo dX9_oddsIf_78 rfl rfl rfl rfl ?_
          refine w_gf dX9_oddsIf_79 rfl hJ.1.1 zs_386 f2 ?_
          refine w_mulc dX9_oddsIf_82 zt_12 (by have := zt_12; omega) ?_
          intro x21 h22
          have := zt_12
          replace hb : zHd _ := hb x21.toInt (by have := zt_12; omega)
          refine w_lo dX9_oddsIf_83 rfl rfl rfl rfl ?_
          refine w_add dX9_oddsIf_84 (by omega) ?_
          intro x23 h24
          replace hb : zHd _ := hb x23.toInt (by omega)
          refine w_iai dX9_oddsIf_85 hJ.1 zs_392 (by omega) (by omega) zu_392 ?_
          intro x28 f25 h26 h27
          replace hb : zHd _ := hb x28.toInt (ziEk f25 rfl)
          refine w_lo dX9_oddsIf_86 rfl rfl rfl rfl ?_
          refine w_gf dX9_oddsIf_87 rfl hJ.1.1 zs_386 (zr_386_26 hJ.1) ?_
          refine w_bi dX9_oddsIf_90 (c := 6) (by decide) ?_
          refine w_lo dX9_oddsIf_92 rfl rfl rfl rfl ?_
          refine w_gf dX9_oddsIf_93 rfl hJ.1.1 zs_386 f2 ?_
          refine w_mulc dX9_oddsIf_96 zt_6 (by have := zt_6; omega) ?_
          intro x29 h30
          have := zt_6
          replace hb : zHd _ := hb x29.toInt (by have := zt_6; omega)
          refine w_lo dX9_oddsIf_97 rfl rfl rfl rfl ?_
          refine w_add dX9_oddsIf_98 (by omega) ?_
          intro x31 h32
          replace hb : zHd _ := hb x31.toInt (by omega)
          refine w_iai dX9_oddsIf_99 hJ.1 zs_401 (by omega) (by omega) zu_401 ?_
          intro x36 f33 h34 h35
          replace hb : zHd _ := hb x36.toInt (ziEk f33 rfl)
          refine w_puI dX9_oddsIf_100 rfl rfl ?_
          intro x37
          replace hb : zHd _ := hb x37.toInt 
          refine w_eni dX9_oddsIf_101 rfl rfl ?_
          exact ⟨_, _, rfl, (zbot _), (ztop _), hJ, hb⟩
  have hb : zHd _ := hbE
  show ZW _ _ _ _ _ _ _ (0, [some (.ref 386), some (.int a0), some (.int a1), none], [], M0)
  refine w_lo dX9_oddsIf_0 rfl rfl rfl rfl ?_
  refine w_lo dX9_oddsIf_1 rfl rfl rfl rfl ?_
  refine w_iv dX9_oddsIf_2 rfl rfl (As := [.int a0]) rfl rfl hJ0.1.1 zs_386 (Nat.le_of_ble_eq_true rfl) ?_
  refine ZV.of (ini := false) rfl (Nat.le_of_ble_eq_true rfl) (by decide +kernel) ?_
  show ZW _ _ _ _ _ _ _ (0, [some (.ref 386), some (.int a0)], [], M0)
  refine w_lo dX9_isGhost_0 rfl rfl rfl rfl ?_
  refine w_gf dX9_isGhost_1 rfl hJ0.1.1 zs_386 (zr_386_19 hJ0.1) ?_
  refine w_bi dX9_isGhost_4 (c := 12) (by decide) ?_
  refine w_lo dX9_isGhost_6 rfl rfl rfl rfl ?_
  refine w_gfi dX9_isGhost_7 rfl hJ0.1 zs_386 (Nat.le_of_ble_eq_true rfl) zo_386_12 ?_
  intro x38 f39 h40 h41
  replace hb : zHd _ := hb x38.toInt (ziE f39) h40 h41
  refine w_mulc dX9_isGhost_10 zt_12 (by have := zt_12; omega) ?_
  intro x42 h43
  have := zt_12
  replace hb : zHd _ := hb x42.toInt (by have := zt_12; omega)
  refine w_lo dX9_isGhost_11 rfl rfl rfl rfl ?_
  refine w_add dX9_isGhost_12 (by omega) ?_
  intro x44 h45
  replace hb : zHd _ := hb x44.toInt (by omega)
  refine w_iai dX9_isGhost_13 hJ0.1 zs_394 (by omega) (by omega) zu_394 ?_
  intro x49 f46 h47 h48
  replace hb : zHd _ := hb x49.toInt (ziEk f46 rfl) h47 h48
  refine w_ic dX9_isGhost_14 zi_2 ?_
  refine w_and dX9_isGhost_15 (m := 2) zt_2 (by omega) ?_
  intro x50 h51 h52
  replace hb : zHd _ := hb x50.toInt h51 h52
  rcases Int.decEq x50.toInt (0 : Int) with h53 | h53
  · skip
    replace hb : zHd _ := hb.1 h53
    refine w_ieq_f dX9_isGhost_16 (t := 23) rfl (by omega) ?_
    refine w_ic dX9_isGhost_19 zi_1 ?_
    refine w_gt dX9_isGhost_20 (t := 24) rfl ?_
    refine w_en dX9_isGhost_24 rfl ?_
    show ZW _ _ _ _ _ _ _ (5, [some (.ref 386), some (.int a0), some (.int a1), none], [.int 1], M0)
    refine w_ieq_f dX9_oddsIf_5 (t := 10) rfl (by have := zt_1; omega) ?_
    refine w_ic dX9_oddsIf_8 zi_0 ?_
    refine w_en dX9_oddsIf_9 rfl ?_
    exact ⟨_, _, rfl, (zbot _), (ztop _), hJ0, hb⟩
  · skip
    replace hb : zHd _ := hb.2 h53
    refine w_ieq_t dX9_isGhost_16 (t := 23) rfl (by omega) ?_
    refine w_ic dX9_isGhost_23 zi_0 ?_
    refine w_en dX9_isGhost_24 rfl ?_
    show ZW _ _ _ _ _ _ _ (5, [some (.ref 386), some (.int a0), some (.int a1), none], [.int 0], M0)
    refine w_ieq_t dX9_oddsIf_5 (t := 10) rfl (by have := zt_0; omega) ?_
    refine w_lo dX9_oddsIf_10 rfl rfl rfl rfl ?_
    refine w_ic dX9_oddsIf_11 zi_0 ?_
    refine w_iv dX9_oddsIf_12 rfl rfl (As := [.int 0]) rfl rfl hJ0.1.1 zs_386 (Nat.le_of_ble_eq_true rfl) ?_
    obtain ⟨P56, hp57, hb⟩ := hb
    replace hb : zHd _ := hb
    have hp57c : b_2363 (zi M0) (0 : Int32).toInt P56 := by rw [zt_0]; exact hp57
    refine ZV.imp (u_2363 0 (by have := zt_0; omega) (by have := zt_0; omega) hN hJ0.1 hp57c) ?_
    rintro _ ⟨M54, rfl, hJ55, hq58⟩
    replace hb : zHd _ := hb  (zi M54) (zi_fr hJ55.2) hq58
    have hJ60 := zJ_trans hJ0 hJ55 (zSub_cons (fun _ _ h h' hk => zIR_s (zIR_a (by omega) (by omega))) (zSub_cons (fun _ _ h h' hk => zIR_s (zIR_s (zIR_e (by omega) (by omega) hk))) (zSub_cons (fun _ _ h h' hk => zIR_s (zIR_s (zIR_s (zIR_e (by omega) (by omega) hk)))) (zSub_cons (fun _ _ h h' hk => zIR_s (zIR_s (zIR_s (zIR_s (zIR_e (by omega) (by omega) hk))))) zSub_nil))))
    show ZW _ _ _ _ _ _ _ (15, [some (.ref 386), some (.int a0), some (.int a1), none], [], M54)
    refine w_lo dX9_oddsIf_15 rfl rfl rfl rfl ?_
    refine w_lo dX9_oddsIf_16 rfl rfl rfl rfl ?_
    refine w_ic dX9_oddsIf_17 zi_0 ?_
    refine w_lo dX9_oddsIf_18 rfl rfl rfl rfl ?_
    refine w_iv dX9_oddsIf_19 rfl rfl (As := [.int 0, .int a0]) rfl rfl hJ60.1.1 zs_386 (Nat.le_of_ble_eq_true rfl) ?_
    obtain ⟨P63, hp64, hb⟩ := hb
    replace hb : zHd _ := hb
    have hp64c : b_2354 (zi M54) (0 : Int32).toInt a0.toInt P63 := by rw [zt_0]; exact hp64
    refine ZV.imp (u_2354 0 (by have := zt_0; omega) (by have := zt_0; omega) a0 (by omega) (by omega) hN hJ60.1 hp64c) ?_
    rintro _ ⟨x66, M61, rfl, h67, h68, hJ62, hq65⟩
    replace hb : zHd _ := hb x66.toInt h67 h68 (zi M61) (zi_fr hJ62.2) hq65
    have hJ70 := zJ_trans hJ60 hJ62 zSub_nil
    show ZW _ _ _ _ _ _ _ (22, [some (.ref 386), some (.int a0), some (.int a1), none], [.int x66, .ref 386], M61)
    refine w_lo dX9_oddsIf_22 rfl rfl rfl rfl ?_
    refine w_gf dX9_oddsIf_23 rfl hJ70.1.1 zs_386 (zr_386_23 hJ70.1) ?_
    refine w_bi dX9_oddsIf_26 (c := 6) (by decide) ?_
    refine w_lo dX9_oddsIf_28 rfl rfl rfl rfl ?_
    have f71 := (hJ62.2 (386) 12 zNI_nil).trans ((hJ55.2 (386) 12 (zNI (by omega) (zNI_k (by decide) (by decide) (zNI_k (by decide) (by decide) (zNI_k (by decide) (by decide) zNI_nil))))).trans (f39))
    refine w_gf dX9_oddsIf_29 rfl hJ70.1.1 zs_386 f71 ?_
    refine w_mulc dX9_oddsIf_32 zt_6 (by have := zt_6; omega) ?_
    intro x72 h73
    have := zt_6
    replace hb : zHd _ := hb x72.toInt (by have := zt_6; omega)
    refine w_lo dX9_oddsIf_33 rfl rfl rfl rfl ?_
    refine w_add dX9_oddsIf_34 (by omega) ?_
    intro x74 h75
    replace hb : zHd _ := hb x74.toInt (by omega)
    refine w_iai dX9_oddsIf_35 hJ70.1 zs_398 (by omega) (by omega) zu_398 ?_
    intro x79 f76 h77 h78
    replace hb : zHd _ := hb x79.toInt (ziEk f76 rfl)
    have h80 := hb.1
    replace hb : zHd _ := hb.2
    refine w_iv dX9_oddsIf_36 rfl rfl (As := [.int x66, .int x79]) rfl rfl hJ70.1.1 zs_386 (Nat.le_of_ble_eq_true rfl) ?_
    have h83 := hb.1
    replace hb : zHd _ := hb.2
    refine ZV.imp (k_2382 x66 (by omega) (by omega) x79 hN hJ70.1 h83) ?_
    rintro _ ⟨M81, rfl, hJ82, hq84⟩
    replace hb : zHd _ := hb  (zi M81) (zi_fr hJ82.2)
    have hJ86 := zJ_trans hJ70 hJ82 (zSub_cons (fun _ _ h h' hk => zIR_a (by omega) (by omega)) (zSub_cons (fun _ _ h h' hk => zIR_s (zIR_a (by omega) (by omega))) (zSub_cons (fun _ _ h h' hk => zIR_s (zIR_s (zIR_s (zIR_s (zIR_s (zIR_e (by omega) (by omega) hk)))))) zSub_nil)))
    show ZW _ _ _ _ _ _ _ (39, [some (.ref 386), some (.int a0), some (.int a1), none], [], M81)
    refine w_ic dX9_oddsIf_39 zi_0 ?_
    refine w_lo (ml' := [some (.ref 386), some (.int a0), some (.int a1), some (.int 0)]) dX9_oddsIf_40 rfl rfl rfl rfl ?_
    obtain ⟨m, hI⟩ := hb
    exact (main m) M81 a0 a1 0 hJ86 (by omega) (by omega) (by omega) (by omega) (by have := zt_0; omega) (by have := zt_0; omega) hI
set_option maxRecDepth 100000 in
theorem u_2412 {X : List Int32} {d N : Nat} {M0 : zM}  (hN : N ≤ 600) (hB0 : zB N M0) {Q : Int → zF → Prop} (hb : b_2412 (zi M0) Q) : ZV X (d + 9) 2412 [.ref 386] M0 (zRI N [(416, 418, 1000), (434, 436, 1000), (386, 387, 70), (386, 387, 71), (386, 387, 72), (386, 387, 74)] M0 (-2147483648) (2147483647) (fun v M' => Q v.toInt (zi M'))) := by
  have hJ0 : zJ N [(416, 418, 1000), (434, 436, 1000), (386, 387, 70), (386, 387, 71), (386, 387, 72), (386, 387, 74)] M0 M0 := zJ_refl hB0
  refine ZV.of (ini := false) rfl (Nat.le_of_ble_eq_true rfl) (by decide +kernel) ?_
  obtain ⟨I4, I14, hbE, hb4, hb14⟩ := hb
  replace hbE : zHd _ := hbE
  replace hb4 : zHd _ := hb4
  replace hb14 : zHd _ := hb14
  have main : ∀ n : Nat,
      (∀ (M : zM) (v4_1 : Int32) (v4_2 : Int32) (o4_3 : Option Value), zJ N [(416, 418, 1000), (434, 436, 1000), (386, 387, 70), (386, 387, 71), (386, 387, 72), (386, 387, 74)] M0 M → ((-2147483648 : Int) ≤ v4_1.toInt) → (v4_1.toInt ≤ 2147483647) → ((0 : Int) ≤ v4_2.toInt) → (v4_2.toInt ≤ 12) → I4 n (zi M) v4_1.toInt v4_2.toInt → ZW X (d + 8) 9 false (some .int) cX9_allOdds (zRI N [(416, 418, 1000), (434, 436, 1000), (386, 387, 70), (386, 387, 71), (386, 387, 72), (386, 387, 74)] M0 (-2147483648) (2147483647) (fun v M' => Q v.toInt (zi M'))) (4, [some (.ref 386), some (.int v4_1), some (.int v4_2), o4_3], [], M)) ∧
      (∀ (M : zM) (v14_1 : Int32) (v14_2 : Int32) (v14_3 : Int32), zJ N [(416, 418, 1000), (434, 436, 1000), (386, 387, 70), (386, 387, 71), (386, 387, 72), (386, 387, 74)] M0 M → ((-2147483648 : Int) ≤ v14_1.toInt) → (v14_1.toInt ≤ 2147483647) → ((0 : Int) ≤ v14_2.toInt) → (v14_2.toInt ≤ 11) → ((0 : Int) ≤ v14_3.toInt) → (v14_3.toInt ≤ 6) → I14 n (zi M) v14_1.toInt v14_2.toInt v14_3.toInt → ZW X (d + 8) 9 false (some .int) cX9_allOdds (zRI N [(416, 418, 1000), (434, 436, 1000), (386, 387, 70), (386, 387, 71), (386, 387, 72), (386, 387, 74)] M0 (-2147483648) (2147483647) (fun v M' => Q v.toInt (zi M'))) (14, [some (.ref 386), some (.int v14_1), some (.int v14_2), some (.int v14_3)], [], M)) := by
    intro n
    induction n using Nat.strongRecOn with
    | _ n ih =>
      refine ⟨?_, ?_⟩
      · intro M v4_1 v4_2 o4_3 hJ v4_10 v4_11 v4_20 v4_21 hI
        have hb : zHd _ := hb4 n (zi M) v4_1.toInt v4_2.toInt (zi_fr hJ.2) v4_20 v4_21 hI
        refine w_lo dX9_allOdds_4 rfl rfl rfl rfl ?_
        refine w_lo dX9_allOdds_5 rfl rfl rfl rfl ?_
        refine w_iv dX9_allOdds_6 rfl rfl (As := []) rfl rfl hJ.1.1 zs_386 (Nat.le_of_ble_eq_true rfl) ?_
        refine ZV.of (ini := false) rfl (Nat.le_of_ble_eq_true rfl) (by decide +kernel) ?_
        show ZW _ _ _ _ _ _ _ (0, [some (.ref 386)], [], M)
        refine w_lo dX9_many_0 rfl rfl rfl rfl ?_
        refine w_gf dX9_many_1 rfl hJ.1.1 zs_386 (zr_386_13 hJ.1) ?_
        refine w_lo dX9_many_4 rfl rfl rfl rfl ?_
        refine w_gfi dX9_many_5 rfl hJ.1 zs_386 (Nat.le_of_ble_eq_true rfl) zo_386_12 ?_
        intro x1 f2 h3 h4
        replace hb : zHd _ := hb x1.toInt (ziE f2) h3 h4
        refine w_iai dX9_many_8 hJ.1 zs_388 (by omega) (by omega) zu_388 ?_
        intro x8 f5 h6 h7
        replace hb : zHd _ := hb x8.toInt (ziEk f5 rfl) h6 h7
        refine w_eni dX9_many_9 rfl rfl ?_
        show ZW _ _ _ _ _ _ _ (9, [some (.ref 386), some (.int v4_1), some (.int v4_2), o4_3], [.int x8, .int v4_2], M)
        rcases zcut v4_2.toInt x8.toInt with h9 | h9
        · skip
          replace hb : zHd _ := hb.1 h9
          refine w_cge_f dX9_allOdds_9 (t := 48) rfl (by omega) ?_
          refine w_ic dX9_allOdds_12 zi_0 ?_
          refine w_lo (ml' := [some (.ref 386), some (.int v4_1), some (.int v4_2), some (.int 0)]) dX9_allOdds_13 rfl rfl rfl rfl ?_
          obtain ⟨m, hm, hI⟩ := hb
          exact (ih m hm).2 M v4_1 v4_2 0 hJ (zbot _) (ztop _) (by omega) (by omega) (by have := zt_0; omega) (by have := zt_0; omega) hI
        · skip
          replace hb : zHd _ := hb.2 h9
          refine w_cge_t dX9_allOdds_9 (t := 48) rfl (by omega) ?_
          refine w_lo dX9_allOdds_48 rfl rfl rfl rfl ?_
          refine w_eni dX9_allOdds_49 rfl rfl ?_
          exact ⟨_, _, rfl, (zbot _), (ztop _), hJ, hb⟩
      · intro M v14_1 v14_2 v14_3 hJ v14_10 v14_11 v14_20 v14_21 v14_30 v14_31 hI
        have hb : zHd _ := hb14 n (zi M) v14_1.toInt v14_2.toInt v14_3.toInt (zi_fr hJ.2) v14_20 v14_21 v14_30 v14_31 hI
        refine w_lo dX9_allOdds_14 rfl rfl rfl rfl ?_
        refine w_lo dX9_allOdds_15 rfl rfl rfl rfl ?_
        refine w_gf dX9_allOdds_16 rfl hJ.1.1 zs_386 (zr_386_21 hJ.1) ?_
        refine w_lo dX9_allOdds_19 rfl rfl rfl rfl ?_
        refine w_gfi dX9_allOdds_20 rfl hJ.1 zs_386 (Nat.le_of_ble_eq_true rfl) zo_386_12 ?_
        intro x10 f11 h12 h13
        replace hb : zHd _ := hb x10.toInt (ziE f11) h12 h13
        refine w_iai dX9_allOdds_23 hJ.1 zs_396 (by omega) (by omega) zu_396 ?_
        intro x17 f14 h15 h16
        replace hb : zHd _ := hb x17.toInt (ziEk f14 rfl) h15 h16
        rcases zcut v14_3.toInt x17.toInt with h18 | h18
        · skip
          replace hb : zHd _ := hb.1 h18
          refine w_cge_f dX9_allOdds_24 (t := 42) rfl (by omega) ?_
          refine w_lo dX9_allOdds_27 rfl rfl rfl rfl ?_
          refine w_lo dX9_allOdds_28 rfl rfl rfl rfl ?_
          refine w_lo dX9_allOdds_29 rfl rfl rfl rfl ?_
          refine w_lo dX9_allOdds_30 rfl rfl rfl rfl ?_
          refine w_iv dX9_allOdds_31 rfl rfl (As := [.int v14_2, .int v14_3]) rfl rfl hJ.1.1 zs_386 (Nat.le_of_ble_eq_true rfl) ?_
          obtain ⟨P21, hp22, hb⟩ := hb
          replace hb : zHd _ := hb
          refine ZV.imp (u_2413 v14_2 (by omega) (by omega) v14_3 (by omega) (by omega) hN hJ.1 hp22) ?_
          rintro _ ⟨x24, M19, rfl, h25, h26, hJ20, hq23⟩
          replace hb : zHd _ := hb x24.toInt  (zi M19) (zi_fr hJ20.2) hq23
          have hJ28 := zJ_trans hJ hJ20 (zSub_cons (fun _ _ h h' hk => zIR_a (by omega) (by omega)) (zSub_cons (fun _ _ h h' hk => zIR_s (zIR_a (by omega) (by omega))) (zSub_cons (fun _ _ h h' hk => zIR_s (zIR_s (zIR_e (by omega) (by omega) hk))) (zSub_cons (fun _ _ h h' hk => zIR_s (zIR_s (zIR_s (zIR_e (by omega) (by omega) hk)))) (zSub_cons (fun _ _ h h' hk => zIR_s (zIR_s (zIR_s (zIR_s (zIR_e (by omega) (by omega) hk))))) (zSub_cons (fun _ _ h h' hk => zIR_s (zIR_s (zIR_s (zIR_s (zIR_s (zIR_e (by omega) (by omega) hk)))))) zSub_nil))))))
          show ZW _ _ _ _ _ _ _ (34, [some (.ref 386), some (.int v14_1), some (.int v14_2), some (.int v14_3)], [.int x24, .int v14_1], M19)
          refine w_puI dX9_allOdds_34 rfl rfl ?_
          intro x29
          replace hb : zHd _ := hb x29.toInt 
          refine w_lo (ml' := [some (.ref 386), some (.int x29), some (.int v14_2), some (.int v14_3)]) dX9_allOdds_35 rfl rfl rfl rfl ?_
          refine w_inc (kk := 3) dX9_allOdds_36 rfl (m := 1) (by decide) (by omega) ?_
          intro x30 h31
          refine ⟨_, rfl, ?_⟩
          replace hb : zHd _ := hb x30.toInt h31
          show ZW _ _ _ _ _ _ _ (39, [some (.ref 386), some (.int x29), some (.int v14_2), some (.int x30)], [], M19)
          refine w_gt dX9_allOdds_39 (t := 14) rfl ?_
          obtain ⟨m, hm, hI⟩ := hb
          exact (ih m hm).2 M19 x29 v14_2 x30 hJ28 (zbot _) (ztop _) (by omega) (by omega) (by omega) (by omega) hI
        · skip
          replace hb : zHd _ := hb.2 h18
          refine w_cge_t dX9_allOdds_24 (t := 42) rfl (by omega) ?_
          refine w_inc (kk := 2) dX9_allOdds_42 rfl (m := 1) (by decide) (by omega) ?_
          intro x32 h33
          refine ⟨_, rfl, ?_⟩
          replace hb : zHd _ := hb x32.toInt h33
          show ZW _ _ _ _ _ _ _ (45, [some (.ref 386), some (.int v14_1), some (.int x32), some (.int v14_3)], [], M)
          refine w_gt dX9_allOdds_45 (t := 4) rfl ?_
          obtain ⟨m, hm, hI⟩ := hb
          exact (ih m hm).1 M v14_1 x32 (some (.int v14_3)) hJ (zbot _) (ztop _) (by omega) (by omega) hI
  have hb : zHd _ := hbE
  show ZW _ _ _ _ _ _ _ (0, [some (.ref 386), none, none, none], [], M0)
  refine w_ic dX9_allOdds_0 zi_0 ?_
  refine w_lo (ml' := [some (.ref 386), some (.int 0), none, none]) dX9_allOdds_1 rfl rfl rfl rfl ?_
  refine w_ic dX9_allOdds_2 zi_0 ?_
  refine w_lo (ml' := [some (.ref 386), some (.int 0), some (.int 0), none]) dX9_allOdds_3 rfl rfl rfl rfl ?_
  obtain ⟨m, hI⟩ := hb
  exact (main m).1 M0 0 0 none hJ0 (zbot _) (ztop _) (by have := zt_0; omega) (by have := zt_0; omega) hI
set_option maxRecDepth 100000 in
theorem u_2411 {X : List Int32} {d N : Nat} {M0 : zM} (a0 : Int32) (a1 : Int32) (hN : N ≤ 600) (hB0 : zB N M0) {Q : Int → zF → Prop} (hb : b_2411 (zi M0) a0.toInt a1.toInt Q) : ZV X (d + 10) 2411 [.ref 386, .int a0, .int a1] M0 (zRI N [(416, 418, 1000), (434, 436, 1000), (386, 387, 70), (386, 387, 71), (386, 387, 72), (386, 387, 74)] M0 (-2147483648) (2147483647) (fun v M' => Q v.toInt (zi M'))) := by
  have hJ0 : zJ N [(416, 418, 1000), (434, 436, 1000), (386, 387, 70), (386, 387, 71), (386, 387, 72), (386, 387, 74)] M0 M0 := zJ_refl hB0
  refine ZV.of (ini := false) rfl (Nat.le_of_ble_eq_true rfl) (by decide +kernel) ?_
  obtain ⟨I21, I65, hbE, hb21, hb65⟩ := hb
  replace hbE : zHd _ := hbE
  replace hb21 : zHd _ := hb21
  replace hb65 : zHd _ := hb65
  have main : ∀ n : Nat,
      (∀ (M : zM) (v21_1 : Int32) (v21_2 : Int32) (o21_3 : Option Value) (o21_4 : Option Value) (o21_5 : Option Value), zJ N [(416, 418, 1000), (434, 436, 1000), (386, 387, 70), (386, 387, 71), (386, 387, 72), (386, 387, 74)] M0 M → ((0 : Int) ≤ v21_1.toInt) → (v21_1.toInt ≤ 11) → ((-1 : Int) ≤ v21_2.toInt) → (v21_2.toInt ≤ 5) → I21 n (zi M) v21_1.toInt v21_2.toInt → ZW X (d + 9) 9 false (some .int) cX9_pulled (zRI N [(416, 418, 1000), (434, 436, 1000), (386, 387, 70), (386, 387, 71), (386, 387, 72), (386, 387, 74)] M0 (-2147483648) (2147483647) (fun v M' => Q v.toInt (zi M'))) (21, [some (.ref 386), some (.int v21_1), some (.int v21_2), o21_3, o21_4, o21_5], [], M)) ∧
      (∀ (M : zM) (v65_1 : Int32) (u65_2 : Int32) (v65_3 : Int32) (v65_4 : Int32) (v65_5 : Int32), zJ N [(416, 418, 1000), (434, 436, 1000), (386, 387, 70), (386, 387, 71), (386, 387, 72), (386, 387, 74)] M0 M → ((0 : Int) ≤ v65_1.toInt) → (v65_1.toInt ≤ 11) → ((-2147483648 : Int) ≤ v65_3.toInt) → (v65_3.toInt ≤ 2147483647) → ((-2147483648 : Int) ≤ v65_4.toInt) → (v65_4.toInt ≤ 2147483647) → ((0 : Int) ≤ v65_5.toInt) → (v65_5.toInt ≤ 6) → I65 n (zi M) v65_1.toInt v65_3.toInt v65_4.toInt v65_5.toInt → ZW X (d + 9) 9 false (some .int) cX9_pulled (zRI N [(416, 418, 1000), (434, 436, 1000), (386, 387, 70), (386, 387, 71), (386, 387, 72), (386, 387, 74)] M0 (-2147483648) (2147483647) (fun v M' => Q v.toInt (zi M'))) (65, [some (.ref 386), some (.int v65_1), some (.int u65_2), some (.int v65_3), some (.int v65_4), some (.int v65_5)], [], M)) := by
    intro n
    induction n using Nat.strongRecOn with
    | _ n ih =>
      refine ⟨?_, ?_⟩
      · intro M v21_1 v21_2 o21_3 o21_4 o21_5 hJ v21_10 v21_11 v21_20 v21_21 hI
        have hb : zHd _ := hb21 n (zi M) v21_1.toInt v21_2.toInt (zi_fr hJ.2) v21_10 v21_11 v21_20 v21_21 hI
        refine w_lo dX9_pulled_21 rfl rfl rfl rfl ?_
        refine w_gfi dX9_pulled_22 rfl hJ.1 zs_386 (Nat.le_of_ble_eq_true rfl) zo_386_68 ?_
        intro x1 f2 h3 h4
        replace hb : zHd _ := hb x1.toInt (ziE f2) h3 h4
        rcases Int.decEq x1.toInt (0 : Int) with h5 | h5
        · skip
          replace hb : zHd _ := hb.1 h5
          refine w_ine_t dX9_pulled_25 (t := 30) rfl (by omega) ?_
          refine w_lo dX9_pulled_30 rfl rfl rfl rfl ?_
          refine w_iv dX9_pulled_31 rfl rfl (As := []) rfl rfl hJ.1.1 zs_386 (Nat.le_of_ble_eq_true rfl) ?_
          obtain ⟨P8, hp9, hb⟩ := hb
          replace hb : zHd _ := hb
          refine ZV.imp (u_2412 hN hJ.1 hp9) ?_
          rintro _ ⟨x11, M6, rfl, h12, h13, hJ7, hq10⟩
          replace hb : zHd _ := hb x11.toInt  (zi M6) (zi_fr hJ7.2) hq10
          have hJ15 := zJ_trans hJ hJ7 (zSub_cons (fun _ _ h h' hk => zIR_a (by omega) (by omega)) (zSub_cons (fun _ _ h h' hk => zIR_s (zIR_a (by omega) (by omega))) (zSub_cons (fun _ _ h h' hk => zIR_s (zIR_s (zIR_e (by omega) (by omega) hk))) (zSub_cons (fun _ _ h h' hk => zIR_s (zIR_s (zIR_s (zIR_e (by omega) (by omega) hk)))) (zSub_cons (fun _ _ h h' hk => zIR_s (zIR_s (zIR_s (zIR_s (zIR_e (by omega) (by omega) hk))))) (zSub_cons (fun _ _ h h' hk => zIR_s (zIR_s (zIR_s (zIR_s (zIR_s (zIR_e (by omega) (by omega) hk)))))) zSub_nil))))))
          show ZW _ _ _ _ _ _ _ (34, [some (.ref 386), some (.int v21_1), some (.int v21_2), o21_3, o21_4, o21_5], [.int x11], M6)
          refine w_lo (ml' := [some (.ref 386), some (.int v21_1), some (.int v21_2), some (.int x11), o21_4, o21_5]) dX9_pulled_34 rfl rfl rfl rfl ?_
          refine w_lo dX9_pulled_35 rfl rfl rfl rfl ?_
          rcases Int.decEq x11.toInt (0 : Int) with h16 | h16
          · skip
            replace hb : zHd _ := hb.1 h16
            refine w_ine_t dX9_pulled_36 (t := 41) rfl (by omega) ?_
            refine w_lo dX9_pulled_41 rfl rfl rfl rfl ?_
            refine w_ic dX9_pulled_42 zi_m1 ?_
            rcases Int.decEq v21_2.toInt (-1 : Int) with h17 | h17
            · skip
              replace hb : zHd _ := hb.1 h17
              refine w_ceq_f dX9_pulled_43 (t := 59) rfl (by have := zt_m1; omega) ?_
              refine w_si dX9_pulled_46 (c := 1000) (by decide) ?_
              refine w_lo dX9_pulled_49 rfl rfl rfl rfl ?_
              refine w_lo dX9_pulled_50 rfl rfl rfl rfl ?_
              refine w_lo dX9_pulled_51 rfl rfl rfl rfl ?_
              refine w_iv dX9_pulled_52 rfl rfl (As := [.int v21_1, .int v21_2]) rfl rfl hJ15.1.1 zs_386 (Nat.le_of_ble_eq_true rfl) ?_
              obtain ⟨P20, hp21, hb⟩ := hb
              replace hb : zHd _ := hb
              refine ZV.imp (u_2413 v21_1 (by omega) (by omega) v21_2 (by omega) (by omega) hN hJ15.1 hp21) ?_
              rintro _ ⟨x23, M18, rfl, h24, h25, hJ19, hq22⟩
              replace hb : zHd _ := hb x23.toInt  (zi M18) (zi_fr hJ19.2) hq22
              have hJ27 := zJ_trans hJ15 hJ19 (zSub_cons (fun _ _ h h' hk => zIR_a (by omega) (by omega)) (zSub_cons (fun _ _ h h' hk => zIR_s (zIR_a (by omega) (by omega))) (zSub_cons (fun _ _ h h' hk => zIR_s (zIR_s (zIR_e (by omega) (by omega) hk))) (zSub_cons (fun _ _ h h' hk => zIR_s (zIR_s (zIR_s (zIR_e (by omega) (by omega) hk)))) (zSub_cons (fun _ _ h h' hk => zIR_s (zIR_s (zIR_s (zIR_s (zIR_e (by omega) (by omega) hk))))) (zSub_cons (fun _ _ h h' hk => zIR_s (zIR_s (zIR_s (zIR_s (zIR_s (zIR_e (by omega) (by omega) hk)))))) zSub_nil))))))
              show ZW _ _ _ _ _ _ _ (55, [some (.ref 386), some (.int v21_1), some (.int v21_2), some (.int x11), o21_4, o21_5], [.int x23, .int 1000], M18)
              refine w_puI dX9_pulled_55 rfl rfl ?_
              intro x28
              replace hb : zHd _ := hb x28.toInt 
              refine w_lo dX9_pulled_56 rfl rfl rfl rfl ?_
              have h29 := hb.1
              replace hb : zHd _ := hb.2
              refine w_divT dX9_pulled_57 (by omega) ?_
              intro x30
              replace hb : zHd _ := hb x30.toInt 
              refine w_eni dX9_pulled_58 rfl rfl ?_
              exact ⟨_, _, rfl, (zbot _), (ztop _), hJ27, hb⟩
            · skip
              replace hb : zHd _ := hb.2 h17
              refine w_ceq_t dX9_pulled_43 (t := 59) rfl (by have := zt_m1; omega) ?_
              refine w_ic dX9_pulled_59 zi_0 ?_
              refine w_lo (ml' := [some (.ref 386), some (.int v21_1), some (.int v21_2), some (.int x11), some (.int 0), o21_5]) dX9_pulled_60 rfl rfl rfl rfl ?_
              refine w_ic dX9_pulled_62 zi_0 ?_
              refine w_lo (ml' := [some (.ref 386), some (.int v21_1), some (.int v21_2), some (.int x11), some (.int 0), some (.int 0)]) dX9_pulled_63 rfl rfl rfl rfl ?_
              obtain ⟨m, hm, hI⟩ := hb
              exact (ih m hm).2 M6 v21_1 v21_2 x11 0 0 hJ15 (by omega) (by omega) (zbot _) (ztop _) (zbot _) (ztop _) (by have := zt_0; omega) (by have := zt_0; omega) hI
          · skip
            replace hb : zHd _ := hb.2 h16
            refine w_ine_f dX9_pulled_36 (t := 41) rfl (by omega) ?_
            refine w_ic dX9_pulled_39 zi_m1 ?_
            refine w_en dX9_pulled_40 rfl ?_
            exact ⟨_, _, rfl, (zbot _), (ztop _), hJ15, hb⟩
        · skip
          replace hb : zHd _ := hb.2 h5
          refine w_ine_f dX9_pulled_25 (t := 30) rfl (by omega) ?_
          refine w_ic dX9_pulled_28 zi_m1 ?_
          refine w_en dX9_pulled_29 rfl ?_
          exact ⟨_, _, rfl, (zbot _), (ztop _), hJ, hb⟩
      · intro M v65_1 u65_2 v65_3 v65_4 v65_5 hJ v65_10 v65_11 v65_30 v65_31 v65_40 v65_41 v65_50 v65_51 hI
        have hb : zHd _ := hb65 n (zi M) v65_1.toInt v65_3.toInt v65_4.toInt v65_5.toInt (zi_fr hJ.2) v65_10 v65_11 v65_50 v65_51 hI
        refine w_lo dX9_pulled_65 rfl rfl rfl rfl ?_
        refine w_lo dX9_pulled_67 rfl rfl rfl rfl ?_
        refine w_gf dX9_pulled_68 rfl hJ.1.1 zs_386 (zr_386_21 hJ.1) ?_
        refine w_lo dX9_pulled_71 rfl rfl rfl rfl ?_
        refine w_gfi dX9_pulled_72 rfl hJ.1 zs_386 (Nat.le_of_ble_eq_true rfl) zo_386_12 ?_
        intro x31 f32 h33 h34
        replace hb : zHd _ := hb x31.toInt (ziE f32) h33 h34
        refine w_iai dX9_pulled_75 hJ.1 zs_396 (by omega) (by omega) zu_396 ?_
        intro x38 f35 h36 h37
        replace hb : zHd _ := hb x38.toInt (ziEk f35 rfl) h36 h37
        rcases zcut v65_5.toInt x38.toInt with h39 | h39
        · skip
          replace hb : zHd _ := hb.1 h39
          refine w_cge_f dX9_pulled_76 (t := 103) rfl (by omega) ?_
          refine w_lo dX9_pulled_79 rfl rfl rfl rfl ?_
          refine w_si dX9_pulled_81 (c := 1000) (by decide) ?_
          refine w_lo dX9_pulled_84 rfl rfl rfl rfl ?_
          refine w_lo dX9_pulled_85 rfl rfl rfl rfl ?_
          refine w_lo dX9_pulled_86 rfl rfl rfl rfl ?_
          refine w_iv dX9_pulled_88 rfl rfl (As := [.int v65_1, .int v65_5]) rfl rfl hJ.1.1 zs_386 (Nat.le_of_ble_eq_true rfl) ?_
          obtain ⟨P42, hp43, hb⟩ := hb
          replace hb : zHd _ := hb
          refine ZV.imp (u_2413 v65_1 (by omega) (by omega) v65_5 (by omega) (by omega) hN hJ.1 hp43) ?_
          rintro _ ⟨x45, M40, rfl, h46, h47, hJ41, hq44⟩
          replace hb : zHd _ := hb x45.toInt  (zi M40) (zi_fr hJ41.2) hq44
          have hJ49 := zJ_trans hJ hJ41 (zSub_cons (fun _ _ h h' hk => zIR_a (by omega) (by omega)) (zSub_cons (fun _ _ h h' hk => zIR_s (zIR_a (by omega) (by omega))) (zSub_cons (fun _ _ h h' hk => zIR_s (zIR_s (zIR_e (by omega) (by omega) hk))) (zSub_cons (fun _ _ h h' hk => zIR_s (zIR_s (zIR_s (zIR_e (by omega) (by omega) hk)))) (zSub_cons (fun _ _ h h' hk => zIR_s (zIR_s (zIR_s (zIR_s (zIR_e (by omega) (by omega) hk))))) (zSub_cons (fun _ _ h h' hk => zIR_s (zIR_s (zIR_s (zIR_s (zIR_s (zIR_e (by omega) (by omega) hk)))))) zSub_nil))))))
          show ZW _ _ _ _ _ _ _ (91, [some (.ref 386), some (.int v65_1), some (.int u65_2), some (.int v65_3), some (.int v65_4), some (.int v65_5)], [.int x45, .int 1000, .int v65_4], M40)
          refine w_puI dX9_pulled_91 rfl rfl ?_
          intro x50
          replace hb : zHd _ := hb x50.toInt 
          refine w_lo dX9_pulled_92 rfl rfl rfl rfl ?_
          have h51 := hb.1
          replace hb : zHd _ := hb.2
          refine w_divT dX9_pulled_93 (by omega) ?_
          intro x52
          replace hb : zHd _ := hb x52.toInt 
          refine w_puI dX9_pulled_94 rfl rfl ?_
          intro x53
          replace hb : zHd _ := hb x53.toInt 
          refine w_lo (ml' := [some (.ref 386), some (.int v65_1), some (.int u65_2), some (.int v65_3), some (.int x53), some (.int v65_5)]) dX9_pulled_95 rfl rfl rfl rfl ?_
          refine w_inc (kk := 5) dX9_pulled_97 rfl (m := 1) (by decide) (by omega) ?_
          intro x54 h55
          refine ⟨_, rfl, ?_⟩
          replace hb : zHd _ := hb x54.toInt h55
          show ZW _ _ _ _ _ _ _ (100, [some (.ref 386), some (.int v65_1), some (.int u65_2), some (.int v65_3), some (.int x53), some (.int x54)], [], M40)
          refine w_gt dX9_pulled_100 (t := 65) rfl ?_
          obtain ⟨m, hm, hI⟩ := hb
          exact (ih m hm).2 M40 v65_1 u65_2 v65_3 x53 x54 hJ49 (by omega) (by omega) (zbot _) (ztop _) (zbot _) (ztop _) (by omega) (by omega) hI
        · skip
          replace hb : zHd _ := hb.2 h39
          refine w_cge_t dX9_pulled_76 (t := 103) rfl (by omega) ?_
          refine w_lo dX9_pulled_103 rfl rfl rfl rfl ?_
          refine w_eni dX9_pulled_105 rfl rfl ?_
          exact ⟨_, _, rfl, (zbot _), (ztop _), hJ, hb⟩
  have hb : zHd _ := hbE
  show ZW _ _ _ _ _ _ _ (0, [some (.ref 386), some (.int a0), some (.int a1), none, none, none], [], M0)
  refine w_lo dX9_pulled_0 rfl rfl rfl rfl ?_
  refine w_lo dX9_pulled_1 rfl rfl rfl rfl ?_
  refine w_iv dX9_pulled_2 rfl rfl (As := [.int a0]) rfl rfl hJ0.1.1 zs_386 (Nat.le_of_ble_eq_true rfl) ?_
  refine ZV.of (ini := false) rfl (Nat.le_of_ble_eq_true rfl) (by decide +kernel) ?_
  show ZW _ _ _ _ _ _ _ (0, [some (.ref 386), some (.int a0)], [], M0)
  refine w_lo dX9_isBoy_0 rfl rfl rfl rfl ?_
  rcases zcut a0.toInt (0 : Int) with h56 | h56
  · skip
    replace hb : zHd _ := hb.1 h56
    refine w_ilt_t dX9_isBoy_1 (t := 21) rfl (by omega) ?_
    refine w_ic dX9_isBoy_21 zi_0 ?_
    refine w_en dX9_isBoy_22 rfl ?_
    show ZW _ _ _ _ _ _ _ (5, [some (.ref 386), some (.int a0), some (.int a1), none, none, none], [.int 0], M0)
    refine w_ieq_t dX9_pulled_5 (t := 28) rfl (by have := zt_0; omega) ?_
    refine w_ic dX9_pulled_28 zi_m1 ?_
    refine w_en dX9_pulled_29 rfl ?_
    exact ⟨_, _, rfl, (zbot _), (ztop _), hJ0, hb⟩
  · skip
    replace hb : zHd _ := hb.2 h56
    refine w_ilt_f dX9_isBoy_1 (t := 21) rfl (by omega) ?_
    refine w_lo dX9_isBoy_4 rfl rfl rfl rfl ?_
    refine w_lo dX9_isBoy_5 rfl rfl rfl rfl ?_
    refine w_gf dX9_isBoy_6 rfl hJ0.1.1 zs_386 (zr_386_13 hJ0.1) ?_
    refine w_lo dX9_isBoy_9 rfl rfl rfl rfl ?_
    refine w_gfi dX9_isBoy_10 rfl hJ0.1 zs_386 (Nat.le_of_ble_eq_true rfl) zo_386_12 ?_
    intro x57 f58 h59 h60
    replace hb : zHd _ := hb x57.toInt (ziE f58) h59 h60
    refine w_iai dX9_isBoy_13 hJ0.1 zs_388 (by omega) (by omega) zu_388 ?_
    intro x64 f61 h62 h63
    replace hb : zHd _ := hb x64.toInt (ziEk f61 rfl) h62 h63
    rcases zcut a0.toInt x64.toInt with h65 | h65
    · skip
      replace hb : zHd _ := hb.1 h65
      refine w_cge_f dX9_isBoy_14 (t := 21) rfl (by omega) ?_
      refine w_ic dX9_isBoy_17 zi_1 ?_
      refine w_gt dX9_isBoy_18 (t := 22) rfl ?_
      refine w_en dX9_isBoy_22 rfl ?_
      show ZW _ _ _ _ _ _ _ (5, [some (.ref 386), some (.int a0), some (.int a1), none, none, none], [.int 1], M0)
      refine w_ieq_f dX9_pulled_5 (t := 28) rfl (by have := zt_1; omega) ?_
      refine w_lo dX9_pulled_8 rfl rfl rfl rfl ?_
      refine w_ic dX9_pulled_9 zi_m1 ?_
      rcases Int.decEq a1.toInt (-1 : Int) with h66 | h66
      · skip
        replace hb : zHd _ := hb.1 h66
        refine w_ceq_f dX9_pulled_10 (t := 21) rfl (by have := zt_m1; omega) ?_
        refine w_lo dX9_pulled_13 rfl rfl rfl rfl ?_
        refine w_lo dX9_pulled_14 rfl rfl rfl rfl ?_
        refine w_iv dX9_pulled_15 rfl rfl (As := [.int a1]) rfl rfl hJ0.1.1 zs_386 (Nat.le_of_ble_eq_true rfl) ?_
        refine ZV.of (ini := false) rfl (Nat.le_of_ble_eq_true rfl) (by decide +kernel) ?_
        show ZW _ _ _ _ _ _ _ (0, [some (.ref 386), some (.int a1)], [], M0)
        refine w_lo dX9_isDream_0 rfl rfl rfl rfl ?_
        rcases zcut a1.toInt (0 : Int) with h67 | h67
        · skip
          replace hb : zHd _ := hb.1 h67
          refine w_ilt_t dX9_isDream_1 (t := 21) rfl (by omega) ?_
          refine w_ic dX9_isDream_21 zi_0 ?_
          refine w_en dX9_isDream_22 rfl ?_
          show ZW _ _ _ _ _ _ _ (18, [some (.ref 386), some (.int a0), some (.int a1), none, none, none], [.int 0], M0)
          refine w_ieq_t dX9_pulled_18 (t := 28) rfl (by have := zt_0; omega) ?_
          refine w_ic dX9_pulled_28 zi_m1 ?_
          refine w_en dX9_pulled_29 rfl ?_
          exact ⟨_, _, rfl, (zbot _), (ztop _), hJ0, hb⟩
        · skip
          replace hb : zHd _ := hb.2 h67
          refine w_ilt_f dX9_isDream_1 (t := 21) rfl (by omega) ?_
          refine w_lo dX9_isDream_4 rfl rfl rfl rfl ?_
          refine w_lo dX9_isDream_5 rfl rfl rfl rfl ?_
          refine w_gf dX9_isDream_6 rfl hJ0.1.1 zs_386 (zr_386_21 hJ0.1) ?_
          refine w_lo dX9_isDream_9 rfl rfl rfl rfl ?_
          refine w_gf dX9_isDream_10 rfl hJ0.1.1 zs_386 f58 ?_
          refine w_iai dX9_isDream_13 hJ0.1 zs_396 (by omega) (by omega) zu_396 ?_
          intro x71 f68 h69 h70
          replace hb : zHd _ := hb x71.toInt (ziEk f68 rfl) h69 h70
          rcases zcut a1.toInt x71.toInt with h72 | h72
          · skip
            replace hb : zHd _ := hb.1 h72
            refine w_cge_f dX9_isDream_14 (t := 21) rfl (by omega) ?_
            refine w_ic dX9_isDream_17 zi_1 ?_
            refine w_gt dX9_isDream_18 (t := 22) rfl ?_
            refine w_en dX9_isDream_22 rfl ?_
            show ZW _ _ _ _ _ _ _ (18, [some (.ref 386), some (.int a0), some (.int a1), none, none, none], [.int 1], M0)
            refine w_ieq_f dX9_pulled_18 (t := 28) rfl (by have := zt_1; omega) ?_
            obtain ⟨m, hI⟩ := hb
            exact (main m).1 M0 a0 a1 none none none hJ0 (by omega) (by omega) (by omega) (by omega) hI
          · skip
            replace hb : zHd _ := hb.2 h72
            refine w_cge_t dX9_isDream_14 (t := 21) rfl (by omega) ?_
            refine w_ic dX9_isDream_21 zi_0 ?_
            refine w_en dX9_isDream_22 rfl ?_
            show ZW _ _ _ _ _ _ _ (18, [some (.ref 386), some (.int a0), some (.int a1), none, none, none], [.int 0], M0)
            refine w_ieq_t dX9_pulled_18 (t := 28) rfl (by have := zt_0; omega) ?_
            refine w_ic dX9_pulled_28 zi_m1 ?_
            refine w_en dX9_pulled_29 rfl ?_
            exact ⟨_, _, rfl, (zbot _), (ztop _), hJ0, hb⟩
      · skip
        replace hb : zHd _ := hb.2 h66
        refine w_ceq_t dX9_pulled_10 (t := 21) rfl (by have := zt_m1; omega) ?_
        obtain ⟨m, hI⟩ := hb
        exact (main m).1 M0 a0 a1 none none none hJ0 (by omega) (by omega) (by omega) (by omega) hI
    · skip
      replace hb : zHd _ := hb.2 h65
      refine w_cge_t dX9_isBoy_14 (t := 21) rfl (by omega) ?_
      refine w_ic dX9_isBoy_21 zi_0 ?_
      refine w_en dX9_isBoy_22 rfl ?_
      show ZW _ _ _ _ _ _ _ (5, [some (.ref 386), some (.int a0), some (.int a1), none, none, none], [.int 0], M0)
      refine w_ieq_t dX9_pulled_5 (t := 28) rfl (by have := zt_0; omega) ?_
      refine w_ic dX9_pulled_28 zi_m1 ?_
      refine w_en dX9_pulled_29 rfl ?_
      exact ⟨_, _, rfl, (zbot _), (ztop _), hJ0, hb⟩
