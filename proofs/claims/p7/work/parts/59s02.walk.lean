/-! walks by pure conditions (wip/safe/vcp.py) -/
set_option maxRecDepth 100000 in
theorem u_2337 {X : List Int32} {d N : Nat} {M0 : zM} (a0 : Int32) (hN : N ≤ 600) (hB0 : zB N M0) {Q : zF → Prop} (hb : b_2337 (zi M0) a0.toInt Q) : ZV X (d + 2) 2337 [.ref 386, .int a0] M0 (zRV N [(407, 409, 1000), (386, 387, 34), (386, 387, 44)] M0 (fun M' => Q (zi M'))) := by
  have hJ0 : zJ N [(407, 409, 1000), (386, 387, 34), (386, 387, 44)] M0 M0 := zJ_refl hB0
  refine ZV.of (ini := false) rfl (Nat.le_of_ble_eq_true rfl) (by decide +kernel) ?_
  obtain ⟨I0, hbE, hb0⟩ := hb
  replace hbE : zHd _ := hbE
  replace hb0 : zHd _ := hb0
  have main : ∀ n : Nat,
      (∀ (M : zM) (v0_1 : Int32), zJ N [(407, 409, 1000), (386, 387, 34), (386, 387, 44)] M0 M → ((-2147483648 : Int) ≤ v0_1.toInt) → (v0_1.toInt ≤ 2147483647) → I0 n (zi M) v0_1.toInt → ZW X (d + 1) 9 false none cX9_joins (zRV N [(407, 409, 1000), (386, 387, 34), (386, 387, 44)] M0 (fun M' => Q (zi M'))) (0, [some (.ref 386), some (.int v0_1)], [], M)) := by
    intro n
    induction n using Nat.strongRecOn with
    | _ n ih =>
      · intro M v0_1 hJ v0_10 v0_11 hI
        have hb : zHd _ := hb0 n (zi M) v0_1.toInt (zi_fr hJ.2)  hI
        refine w_lo dX9_joins_0 rfl rfl rfl rfl ?_
        refine w_gfi dX9_joins_1 rfl hJ.1 zs_386 (Nat.le_of_ble_eq_true rfl) zo_386_44 ?_
        intro x1 f2 h3 h4
        replace hb : zHd _ := hb x1.toInt (ziE f2) h3 h4
        refine w_lo dX9_joins_4 rfl rfl rfl rfl ?_
        refine w_gf dX9_joins_5 rfl hJ.1.1 zs_386 (zr_386_40 hJ.1) ?_
        refine w_lo dX9_joins_8 rfl rfl rfl rfl ?_
        refine w_gfi dX9_joins_9 rfl hJ.1 zs_386 (Nat.le_of_ble_eq_true rfl) zo_386_41 ?_
        intro x5 f6 h7 h8
        replace hb : zHd _ := hb x5.toInt (ziE f6) h7 h8
        refine w_ic dX9_joins_12 zi_1 ?_
        refine w_sub dX9_joins_13 (by have := zt_1; omega) ?_
        intro x9 h10
        have := zt_1
        replace hb : zHd _ := hb x9.toInt (by have := zt_1; omega)
        have h11 := hb.1
        replace hb : zHd _ := hb.2
        refine w_iai dX9_joins_14 hJ.1 zs_413 (by omega) (by omega) zu_413 ?_
        intro x15 f12 h13 h14
        replace hb : zHd _ := hb x15.toInt (ziEk f12 rfl) h13 h14
        rcases zcut x15.toInt x1.toInt with h16 | h16
        · skip
          replace hb : zHd _ := hb.1 h16
          refine w_cle_f dX9_joins_15 (t := 63) rfl (by omega) ?_
          refine w_lo dX9_joins_18 rfl rfl rfl rfl ?_
          refine w_gf dX9_joins_19 rfl hJ.1.1 zs_386 (zr_386_43 hJ.1) ?_
          refine w_lo dX9_joins_22 rfl rfl rfl rfl ?_
          refine w_gf dX9_joins_23 rfl hJ.1.1 zs_386 f2 ?_
          refine w_ic dX9_joins_26 zi_1 ?_
          refine w_sub dX9_joins_27 (by have := zt_1; omega) ?_
          intro x17 h18
          have := zt_1
          replace hb : zHd _ := hb x17.toInt (by have := zt_1; omega)
          refine w_iai dX9_joins_28 hJ.1 zs_414 (by omega) (by omega) zu_414 ?_
          intro x22 f19 h20 h21
          replace hb : zHd _ := hb x22.toInt (ziEk f19 rfl) h20 h21
          refine w_ss dX9_joins_29 rfl rfl (As := [.int x22]) rfl rfl (Nat.le_of_ble_eq_true rfl) ?_
          obtain ⟨P25, hp26, hb⟩ := hb
          replace hb : zHd _ := hb
          refine ZV.imp (u_2338 x22 hN hJ.1 hp26) ?_
          rintro _ ⟨x28, M23, rfl, h29, h30, hJ24, hq27⟩
          replace hb : zHd _ := hb x28.toInt h29 h30 (zi M23) (zi_fr hJ24.2) hq27
          have hJ32 := zJ_trans hJ hJ24 zSub_nil
          show ZW _ _ _ _ _ _ _ (32, [some (.ref 386), some (.int v0_1)], [.int x28], M23)
          refine w_lo dX9_joins_32 rfl rfl rfl rfl ?_
          rcases zcut x28.toInt v0_1.toInt with h33 | h33
          · skip
            replace hb : zHd _ := hb.1 h33
            refine w_clt_t dX9_joins_33 (t := 63) rfl (by omega) ?_
            refine w_en dX9_joins_63 rfl ?_
            exact ⟨_, rfl, hJ32, hb⟩
          · skip
            replace hb : zHd _ := hb.2 h33
            refine w_clt_f dX9_joins_33 (t := 63) rfl (by omega) ?_
            refine w_lo dX9_joins_36 rfl rfl rfl rfl ?_
            refine w_pu dX9_joins_37 rfl rfl ?_
            have f34 := (hJ24.2 (386) 44 zNI_nil).trans (f2)
            refine w_gf dX9_joins_38 rfl hJ32.1.1 zs_386 f34 ?_
            refine w_ic dX9_joins_41 zi_1 ?_
            refine w_sub dX9_joins_42 (by have := zt_1; omega) ?_
            intro x35 h36
            have := zt_1
            replace hb : zHd _ := hb x35.toInt (by have := zt_1; omega)
            refine w_pfi dX9_joins_43 rfl hJ32 zs_386 (Nat.le_of_ble_eq_true rfl) zo_386_44 (by omega) (by omega) (zIR_s (zIR_s (zIR_k (by omega) (by omega)))) rfl rfl rfl ?_
            intro M37 hJ38 f39 hn40
            replace hb : zHd _ := hb (zi M37) (zi_zup hn40 f39 rfl rfl)
            refine w_lo dX9_joins_46 rfl rfl rfl rfl ?_
            refine w_lo dX9_joins_47 rfl rfl rfl rfl ?_
            refine w_gf dX9_joins_48 rfl hJ38.1.1 zs_386 (zr_386_43 hJ38.1) ?_
            refine w_lo dX9_joins_51 rfl rfl rfl rfl ?_
            refine w_gf dX9_joins_52 rfl hJ38.1.1 zs_386 f39 ?_
            refine w_iai dX9_joins_55 hJ38.1 zs_414 (by omega) (by omega) zu_414 ?_
            intro x45 f42 h43 h44
            replace hb : zHd _ := hb x45.toInt (ziEk f42 rfl) h43 h44
            refine w_ic dX9_joins_56 zi_0 ?_
            refine w_iv dX9_joins_57 rfl rfl (As := [.int x45, .int 0]) rfl rfl hJ38.1.1 zs_386 (Nat.le_of_ble_eq_true rfl) ?_
            obtain ⟨P48, hp49, hb⟩ := hb
            replace hb : zHd _ := hb
            have hp49c : b_2335 (zi M37) x45.toInt (0 : Int32).toInt P48 := by rw [zt_0]; exact hp49
            refine ZV.imp (u_2335 x45 0 hN hJ38.1 hp49c) ?_
            rintro _ ⟨M46, rfl, hJ47, hq50⟩
            replace hb : zHd _ := hb  (zi M46) (zi_fr hJ47.2) hq50
            have hJ52 := zJ_trans hJ38 hJ47 (zSub_cons (fun _ _ h h' hk => zIR_a (by omega) (by omega)) (zSub_cons (fun _ _ h h' hk => zIR_s (zIR_e (by omega) (by omega) hk)) zSub_nil))
            show ZW _ _ _ _ _ _ _ (60, [some (.ref 386), some (.int v0_1)], [], M46)
            refine w_gt dX9_joins_60 (t := 0) rfl ?_
            obtain ⟨m, hm, hI⟩ := hb
            exact (ih m hm) M46 v0_1 hJ52 (zbot _) (ztop _) hI
        · skip
          replace hb : zHd _ := hb.2 h16
          refine w_cle_t dX9_joins_15 (t := 63) rfl (by omega) ?_
          refine w_en dX9_joins_63 rfl ?_
          exact ⟨_, rfl, hJ, hb⟩
  have hb : zHd _ := hbE
  show ZW _ _ _ _ _ _ _ (0, [some (.ref 386), some (.int a0)], [], M0)
  obtain ⟨m, hI⟩ := hb
  exact (main m) M0 a0 hJ0 (zbot _) (ztop _) hI
set_option maxRecDepth 100000 in
theorem u_2336 {X : List Int32} {d N : Nat} {M0 : zM}  (hN : N ≤ 600) (hB0 : zB N M0) {Q : Int → zF → Prop} (hb : b_2336 (zi M0) Q) : ZV X (d + 3) 2336 [.ref 386] M0 (zRI N [(407, 412, 1000), (414, 415, 1000), (386, 387, 3), (386, 387, 34), (386, 387, 4), (386, 387, 41), (386, 387, 42), (386, 387, 44), (386, 387, 45), (386, 387, 5), (386, 387, 6), (386, 387, 7), (386, 387, 8), (386, 387, 9)] M0 (0) (1) (fun v M' => Q v.toInt (zi M'))) := by
  have hJ0 : zJ N [(407, 412, 1000), (414, 415, 1000), (386, 387, 3), (386, 387, 34), (386, 387, 4), (386, 387, 41), (386, 387, 42), (386, 387, 44), (386, 387, 45), (386, 387, 5), (386, 387, 6), (386, 387, 7), (386, 387, 8), (386, 387, 9)] M0 M0 := zJ_refl hB0
  refine ZV.of (ini := false) rfl (Nat.le_of_ble_eq_true rfl) (by decide +kernel) ?_
  obtain ⟨I19, I175, I272, I387, I409, hbE, hb19, hb175, hb272, hb387, hb409⟩ := hb
  replace hbE : zHd _ := hbE
  replace hb19 : zHd _ := hb19
  replace hb175 : zHd _ := hb175
  replace hb272 : zHd _ := hb272
  replace hb387 : zHd _ := hb387
  replace hb409 : zHd _ := hb409
  have main : ∀ n : Nat,
      (∀ (M : zM) (v19_1 : Int32) (v19_2 : Int32) (v19_3 : Int32) (o19_4 : Option Value), zJ N [(407, 412, 1000), (414, 415, 1000), (386, 387, 3), (386, 387, 34), (386, 387, 4), (386, 387, 41), (386, 387, 42), (386, 387, 44), (386, 387, 45), (386, 387, 5), (386, 387, 6), (386, 387, 7), (386, 387, 8), (386, 387, 9)] M0 M → ((0 : Int) ≤ v19_1.toInt) → (v19_1.toInt ≤ 19) → ((0 : Int) ≤ v19_2.toInt) → (v19_2.toInt ≤ 5) → ((0 : Int) ≤ v19_3.toInt) → (v19_3.toInt ≤ 1) → I19 n (zi M) v19_1.toInt v19_2.toInt v19_3.toInt → ZW X (d + 2) 9 false (some .boolean) cX9_goesOn (zRI N [(407, 412, 1000), (414, 415, 1000), (386, 387, 3), (386, 387, 34), (386, 387, 4), (386, 387, 41), (386, 387, 42), (386, 387, 44), (386, 387, 45), (386, 387, 5), (386, 387, 6), (386, 387, 7), (386, 387, 8), (386, 387, 9)] M0 (0) (1) (fun v M' => Q v.toInt (zi M'))) (19, [some (.ref 386), some (.int v19_1), some (.int v19_2), some (.int v19_3), o19_4], [], M)) ∧
      (∀ (M : zM) (v175_1 : Int32) (v175_2 : Int32) (v175_3 : Int32) (o175_4 : Option Value), zJ N [(407, 412, 1000), (414, 415, 1000), (386, 387, 3), (386, 387, 34), (386, 387, 4), (386, 387, 41), (386, 387, 42), (386, 387, 44), (386, 387, 45), (386, 387, 5), (386, 387, 6), (386, 387, 7), (386, 387, 8), (386, 387, 9)] M0 M → ((0 : Int) ≤ v175_1.toInt) → (v175_1.toInt ≤ 19) → ((0 : Int) ≤ v175_2.toInt) → (v175_2.toInt ≤ 5) → ((0 : Int) ≤ v175_3.toInt) → (v175_3.toInt ≤ 1) → I175 n (zi M) v175_1.toInt v175_2.toInt v175_3.toInt → ZW X (d + 2) 9 false (some .boolean) cX9_goesOn (zRI N [(407, 412, 1000), (414, 415, 1000), (386, 387, 3), (386, 387, 34), (386, 387, 4), (386, 387, 41), (386, 387, 42), (386, 387, 44), (386, 387, 45), (386, 387, 5), (386, 387, 6), (386, 387, 7), (386, 387, 8), (386, 387, 9)] M0 (0) (1) (fun v M' => Q v.toInt (zi M'))) (175, [some (.ref 386), some (.int v175_1), some (.int v175_2), some (.int v175_3), o175_4], [], M)) ∧
      (∀ (M : zM) (v272_1 : Int32) (v272_2 : Int32) (v272_3 : Int32) (o272_4 : Option Value), zJ N [(407, 412, 1000), (414, 415, 1000), (386, 387, 3), (386, 387, 34), (386, 387, 4), (386, 387, 41), (386, 387, 42), (386, 387, 44), (386, 387, 45), (386, 387, 5), (386, 387, 6), (386, 387, 7), (386, 387, 8), (386, 387, 9)] M0 M → ((0 : Int) ≤ v272_1.toInt) → (v272_1.toInt ≤ 19) → ((0 : Int) ≤ v272_2.toInt) → (v272_2.toInt ≤ 5) → ((0 : Int) ≤ v272_3.toInt) → (v272_3.toInt ≤ 1) → I272 n (zi M) v272_1.toInt v272_2.toInt v272_3.toInt → ZW X (d + 2) 9 false (some .boolean) cX9_goesOn (zRI N [(407, 412, 1000), (414, 415, 1000), (386, 387, 3), (386, 387, 34), (386, 387, 4), (386, 387, 41), (386, 387, 42), (386, 387, 44), (386, 387, 45), (386, 387, 5), (386, 387, 6), (386, 387, 7), (386, 387, 8), (386, 387, 9)] M0 (0) (1) (fun v M' => Q v.toInt (zi M'))) (272, [some (.ref 386), some (.int v272_1), some (.int v272_2), some (.int v272_3), o272_4], [], M)) ∧
      (∀ (M : zM) (v387_1 : Int32) (v387_2 : Int32) (v387_3 : Int32) (o387_4 : Option Value), zJ N [(407, 412, 1000), (414, 415, 1000), (386, 387, 3), (386, 387, 34), (386, 387, 4), (386, 387, 41), (386, 387, 42), (386, 387, 44), (386, 387, 45), (386, 387, 5), (386, 387, 6), (386, 387, 7), (386, 387, 8), (386, 387, 9)] M0 M → ((0 : Int) ≤ v387_1.toInt) → (v387_1.toInt ≤ 19) → ((0 : Int) ≤ v387_2.toInt) → (v387_2.toInt ≤ 5) → ((0 : Int) ≤ v387_3.toInt) → (v387_3.toInt ≤ 1) → I387 n (zi M) v387_1.toInt v387_2.toInt v387_3.toInt → ZW X (d + 2) 9 false (some .boolean) cX9_goesOn (zRI N [(407, 412, 1000), (414, 415, 1000), (386, 387, 3), (386, 387, 34), (386, 387, 4), (386, 387, 41), (386, 387, 42), (386, 387, 44), (386, 387, 45), (386, 387, 5), (386, 387, 6), (386, 387, 7), (386, 387, 8), (386, 387, 9)] M0 (0) (1) (fun v M' => Q v.toInt (zi M'))) (387, [some (.ref 386), some (.int v387_1), some (.int v387_2), some (.int v387_3), o387_4], [], M)) ∧
      (∀ (M : zM) (v409_1 : Int32) (v409_2 : Int32) (u409_3 : Int32) (o409_4 : Option Value), zJ N [(407, 412, 1000), (414, 415, 1000), (386, 387, 3), (386, 387, 34), (386, 387, 4), (386, 387, 41), (386, 387, 42), (386, 387, 44), (386, 387, 45), (386, 387, 5), (386, 387, 6), (386, 387, 7), (386, 387, 8), (386, 387, 9)] M0 M → ((0 : Int) ≤ v409_1.toInt) → (v409_1.toInt ≤ 19) → ((0 : Int) ≤ v409_2.toInt) → (v409_2.toInt ≤ 5) → I409 n (zi M) v409_1.toInt v409_2.toInt → ZW X (d + 2) 9 false (some .boolean) cX9_goesOn (zRI N [(407, 412, 1000), (414, 415, 1000), (386, 387, 3), (386, 387, 34), (386, 387, 4), (386, 387, 41), (386, 387, 42), (386, 387, 44), (386, 387, 45), (386, 387, 5), (386, 387, 6), (386, 387, 7), (386, 387, 8), (386, 387, 9)] M0 (0) (1) (fun v M' => Q v.toInt (zi M'))) (409, [some (.ref 386), some (.int v409_1), some (.int v409_2), some (.int u409_3), o409_4], [], M)) := by
    intro n
    induction n using Nat.strongRecOn with
    | _ n ih =>
      refine ⟨?_, ?_, ?_, ?_, ?_⟩
      · intro M v19_1 v19_2 v19_3 o19_4 hJ v19_10 v19_11 v19_20 v19_21 v19_30 v19_31 hI
        have hb : zHd _ := hb19 n (zi M) v19_1.toInt v19_2.toInt v19_3.toInt (zi_fr hJ.2) v19_10 v19_11 v19_20 v19_21 v19_30 v19_31 hI
        refine w_lo dX9_goesOn_19 rfl rfl rfl rfl ?_
        refine w_gf dX9_goesOn_20 rfl hJ.1.1 zs_386 (zr_386_37 hJ.1) ?_
        refine w_lo dX9_goesOn_23 rfl rfl rfl rfl ?_
        refine w_iai dX9_goesOn_24 hJ.1 zs_410 (by omega) (by omega) zu_410 ?_
        intro x4 f1 h2 h3
        replace hb : zHd _ := hb x4.toInt (ziEk f1 rfl) h2 h3
        refine w_ic dX9_goesOn_25 zi_2 ?_
        rcases zcut x4.toInt (2 : Int) with h5 | h5
        · skip
          replace hb : zHd _ := hb.1 h5
          refine w_cge_f dX9_goesOn_26 (t := 175) rfl (by have := zt_2; omega) ?_
          refine w_lo dX9_goesOn_29 rfl rfl rfl rfl ?_
          refine w_bi dX9_goesOn_30 (c := 43) (by decide) ?_
          refine w_iv dX9_goesOn_32 rfl rfl (As := [.int 43]) rfl rfl hJ.1.1 zs_386 (Nat.le_of_ble_eq_true rfl) ?_
          refine ZV.of (ini := false) rfl (Nat.le_of_ble_eq_true rfl) (by decide +kernel) ?_
          show ZW _ _ _ _ _ _ _ (0, [some (.ref 386), some (.int 43)], [], M)
          refine w_lo dX9_isSign_0 rfl rfl rfl rfl ?_
          refine w_gfi dX9_isSign_1 rfl hJ.1 zs_386 (Nat.le_of_ble_eq_true rfl) zo_386_3 ?_
          intro x6 f7 h8 h9
          replace hb : zHd _ := hb x6.toInt (ziE f7) h8 h9
          refine w_ic dX9_isSign_4 zi_3 ?_
          rcases Int.decEq x6.toInt (3 : Int) with h10 | h10
          · skip
            replace hb : zHd _ := hb.1 h10
            refine w_cne_t dX9_isSign_5 (t := 20) rfl (by have := zt_3; omega) ?_
            refine w_ic dX9_isSign_20 zi_0 ?_
            refine w_en dX9_isSign_21 rfl ?_
            show ZW _ _ _ _ _ _ _ (35, [some (.ref 386), some (.int v19_1), some (.int v19_2), some (.int v19_3), o19_4], [.int 0], M)
            refine w_ine_f dX9_goesOn_35 (t := 74) rfl (by have := zt_0; omega) ?_
            refine w_lo dX9_goesOn_38 rfl rfl rfl rfl ?_
            refine w_bi dX9_goesOn_39 (c := 45) (by decide) ?_
            refine w_iv dX9_goesOn_41 rfl rfl (As := [.int 45]) rfl rfl hJ.1.1 zs_386 (Nat.le_of_ble_eq_true rfl) ?_
            refine ZV.of (ini := false) rfl (Nat.le_of_ble_eq_true rfl) (by decide +kernel) ?_
            show ZW _ _ _ _ _ _ _ (0, [some (.ref 386), some (.int 45)], [], M)
            refine w_lo dX9_isSign_0 rfl rfl rfl rfl ?_
            refine w_gf dX9_isSign_1 rfl hJ.1.1 zs_386 f7 ?_
            refine w_ic dX9_isSign_4 zi_3 ?_
            refine w_cne_t dX9_isSign_5 (t := 20) rfl (by have := zt_3; omega) ?_
            refine w_ic dX9_isSign_20 zi_0 ?_
            refine w_en dX9_isSign_21 rfl ?_
            show ZW _ _ _ _ _ _ _ (44, [some (.ref 386), some (.int v19_1), some (.int v19_2), some (.int v19_3), o19_4], [.int 0], M)
            refine w_ine_f dX9_goesOn_44 (t := 74) rfl (by have := zt_0; omega) ?_
            refine w_lo dX9_goesOn_47 rfl rfl rfl rfl ?_
            refine w_bi dX9_goesOn_48 (c := 42) (by decide) ?_
            refine w_iv dX9_goesOn_50 rfl rfl (As := [.int 42]) rfl rfl hJ.1.1 zs_386 (Nat.le_of_ble_eq_true rfl) ?_
            refine ZV.of (ini := false) rfl (Nat.le_of_ble_eq_true rfl) (by decide +kernel) ?_
            show ZW _ _ _ _ _ _ _ (0, [some (.ref 386), some (.int 42)], [], M)
            refine w_lo dX9_isSign_0 rfl rfl rfl rfl ?_
            refine w_gf dX9_isSign_1 rfl hJ.1.1 zs_386 f7 ?_
            refine w_ic dX9_isSign_4 zi_3 ?_
            refine w_cne_t dX9_isSign_5 (t := 20) rfl (by have := zt_3; omega) ?_
            refine w_ic dX9_isSign_20 zi_0 ?_
            refine w_en dX9_isSign_21 rfl ?_
            show ZW _ _ _ _ _ _ _ (53, [some (.ref 386), some (.int v19_1), some (.int v19_2), some (.int v19_3), o19_4], [.int 0], M)
            refine w_ine_f dX9_goesOn_53 (t := 74) rfl (by have := zt_0; omega) ?_
            refine w_lo dX9_goesOn_56 rfl rfl rfl rfl ?_
            refine w_bi dX9_goesOn_57 (c := 47) (by decide) ?_
            refine w_iv dX9_goesOn_59 rfl rfl (As := [.int 47]) rfl rfl hJ.1.1 zs_386 (Nat.le_of_ble_eq_true rfl) ?_
            refine ZV.of (ini := false) rfl (Nat.le_of_ble_eq_true rfl) (by decide +kernel) ?_
            show ZW _ _ _ _ _ _ _ (0, [some (.ref 386), some (.int 47)], [], M)
            refine w_lo dX9_isSign_0 rfl rfl rfl rfl ?_
            refine w_gf dX9_isSign_1 rfl hJ.1.1 zs_386 f7 ?_
            refine w_ic dX9_isSign_4 zi_3 ?_
            refine w_cne_t dX9_isSign_5 (t := 20) rfl (by have := zt_3; omega) ?_
            refine w_ic dX9_isSign_20 zi_0 ?_
            refine w_en dX9_isSign_21 rfl ?_
            show ZW _ _ _ _ _ _ _ (62, [some (.ref 386), some (.int v19_1), some (.int v19_2), some (.int v19_3), o19_4], [.int 0], M)
            refine w_ine_f dX9_goesOn_62 (t := 74) rfl (by have := zt_0; omega) ?_
            refine w_lo dX9_goesOn_65 rfl rfl rfl rfl ?_
            refine w_bi dX9_goesOn_66 (c := 37) (by decide) ?_
            refine w_iv dX9_goesOn_68 rfl rfl (As := [.int 37]) rfl rfl hJ.1.1 zs_386 (Nat.le_of_ble_eq_true rfl) ?_
            refine ZV.of (ini := false) rfl (Nat.le_of_ble_eq_true rfl) (by decide +kernel) ?_
            show ZW _ _ _ _ _ _ _ (0, [some (.ref 386), some (.int 37)], [], M)
            refine w_lo dX9_isSign_0 rfl rfl rfl rfl ?_
            refine w_gf dX9_isSign_1 rfl hJ.1.1 zs_386 f7 ?_
            refine w_ic dX9_isSign_4 zi_3 ?_
            refine w_cne_t dX9_isSign_5 (t := 20) rfl (by have := zt_3; omega) ?_
            refine w_ic dX9_isSign_20 zi_0 ?_
            refine w_en dX9_isSign_21 rfl ?_
            show ZW _ _ _ _ _ _ _ (71, [some (.ref 386), some (.int v19_1), some (.int v19_2), some (.int v19_3), o19_4], [.int 0], M)
            refine w_ieq_t dX9_goesOn_71 (t := 175) rfl (by have := zt_0; omega) ?_
            obtain ⟨m, hm, hI⟩ := hb
            exact (ih m hm).2.1 M v19_1 v19_2 v19_3 o19_4 hJ (by omega) (by omega) (by omega) (by omega) (by omega) (by omega) hI
          · skip
            replace hb : zHd _ := hb.2 h10
            refine w_cne_f dX9_isSign_5 (t := 20) rfl (by have := zt_3; omega) ?_
            refine w_lo dX9_isSign_8 rfl rfl rfl rfl ?_
            refine w_gfi dX9_isSign_9 rfl hJ.1 zs_386 (Nat.le_of_ble_eq_true rfl) zo_386_6 ?_
            intro x11 f12 h13 h14
            replace hb : zHd _ := hb x11.toInt (ziE f12)
            refine w_lo dX9_isSign_12 rfl rfl rfl rfl ?_
            rcases Int.decEq x11.toInt (43 : Int) with h15 | h15
            · skip
              replace hb : zHd _ := hb.1 h15
              refine w_cne_t dX9_isSign_13 (t := 20) rfl (by have := zt_43; omega) ?_
              refine w_ic dX9_isSign_20 zi_0 ?_
              refine w_en dX9_isSign_21 rfl ?_
              show ZW _ _ _ _ _ _ _ (35, [some (.ref 386), some (.int v19_1), some (.int v19_2), some (.int v19_3), o19_4], [.int 0], M)
              refine w_ine_f dX9_goesOn_35 (t := 74) rfl (by have := zt_0; omega) ?_
              refine w_lo dX9_goesOn_38 rfl rfl rfl rfl ?_
              refine w_bi dX9_goesOn_39 (c := 45) (by decide) ?_
              refine w_iv dX9_goesOn_41 rfl rfl (As := [.int 45]) rfl rfl hJ.1.1 zs_386 (Nat.le_of_ble_eq_true rfl) ?_
              refine ZV.of (ini := false) rfl (Nat.le_of_ble_eq_true rfl) (by decide +kernel) ?_
              show ZW _ _ _ _ _ _ _ (0, [some (.ref 386), some (.int 45)], [], M)
              refine w_lo dX9_isSign_0 rfl rfl rfl rfl ?_
              refine w_gf dX9_isSign_1 rfl hJ.1.1 zs_386 f7 ?_
              refine w_ic dX9_isSign_4 zi_3 ?_
              refine w_cne_f dX9_isSign_5 (t := 20) rfl (by have := zt_3; omega) ?_
              refine w_lo dX9_isSign_8 rfl rfl rfl rfl ?_
              refine w_gf dX9_isSign_9 rfl hJ.1.1 zs_386 f12 ?_
              refine w_lo dX9_isSign_12 rfl rfl rfl rfl ?_
              rcases Int.decEq x11.toInt (45 : Int) with h16 | h16
              · skip
                replace hb : zHd _ := hb.1 h16
                refine w_cne_t dX9_isSign_13 (t := 20) rfl (by have := zt_45; omega) ?_
                refine w_ic dX9_isSign_20 zi_0 ?_
                refine w_en dX9_isSign_21 rfl ?_
                show ZW _ _ _ _ _ _ _ (44, [some (.ref 386), some (.int v19_1), some (.int v19_2), some (.int v19_3), o19_4], [.int 0], M)
                refine w_ine_f dX9_goesOn_44 (t := 74) rfl (by have := zt_0; omega) ?_
                refine w_lo dX9_goesOn_47 rfl rfl rfl rfl ?_
                refine w_bi dX9_goesOn_48 (c := 42) (by decide) ?_
                refine w_iv dX9_goesOn_50 rfl rfl (As := [.int 42]) rfl rfl hJ.1.1 zs_386 (Nat.le_of_ble_eq_true rfl) ?_
                refine ZV.of (ini := false) rfl (Nat.le_of_ble_eq_true rfl) (by decide +kernel) ?_
                show ZW _ _ _ _ _ _ _ (0, [some (.ref 386), some (.int 42)], [], M)
                refine w_lo dX9_isSign_0 rfl rfl rfl rfl ?_
                refine w_gf dX9_isSign_1 rfl hJ.1.1 zs_386 f7 ?_
                refine w_ic dX9_isSign_4 zi_3 ?_
                refine w_cne_f dX9_isSign_5 (t := 20) rfl (by have := zt_3; omega) ?_
                refine w_lo dX9_isSign_8 rfl rfl rfl rfl ?_
                refine w_gf dX9_isSign_9 rfl hJ.1.1 zs_386 f12 ?_
                refine w_lo dX9_isSign_12 rfl rfl rfl rfl ?_
                rcases Int.decEq x11.toInt (42 : Int) with h17 | h17
                · skip
                  replace hb : zHd _ := hb.1 h17
                  refine w_cne_t dX9_isSign_13 (t := 20) rfl (by have := zt_42; omega) ?_
                  refine w_ic dX9_isSign_20 zi_0 ?_
                  refine w_en dX9_isSign_21 rfl ?_
                  show ZW _ _ _ _ _ _ _ (53, [some (.ref 386), some (.int v19_1), some (.int v19_2), some (.int v19_3), o19_4], [.int 0], M)
                  refine w_ine_f dX9_goesOn_53 (t := 74) rfl (by have := zt_0; omega) ?_
                  refine w_lo dX9_goesOn_56 rfl rfl rfl rfl ?_
                  refine w_bi dX9_goesOn_57 (c := 47) (by decide) ?_
                  refine w_iv dX9_goesOn_59 rfl rfl (As := [.int 47]) rfl rfl hJ.1.1 zs_386 (Nat.le_of_ble_eq_true rfl) ?_
                  refine ZV.of (ini := false) rfl (Nat.le_of_ble_eq_true rfl) (by decide +kernel) ?_
                  show ZW _ _ _ _ _ _ _ (0, [some (.ref 386), some (.int 47)], [], M)
                  refine w_lo dX9_isSign_0 rfl rfl rfl rfl ?_
                  refine w_gf dX9_isSign_1 rfl hJ.1.1 zs_386 f7 ?_
                  refine w_ic dX9_isSign_4 zi_3 ?_
                  refine w_cne_f dX9_isSign_5 (t := 20) rfl (by have := zt_3; omega) ?_
                  refine w_lo dX9_isSign_8 rfl rfl rfl rfl ?_
                  refine w_gf dX9_isSign_9 rfl hJ.1.1 zs_386 f12 ?_
                  refine w_lo dX9_isSign_12 rfl rfl rfl rfl ?_
                  rcases Int.decEq x11.toInt (47 : Int) with h18 | h18
                  · skip
                    replace hb : zHd _ := hb.1 h18
                    refine w_cne_t dX9_isSign_13 (t := 20) rfl (by have := zt_47; omega) ?_
                    refine w_ic dX9_isSign_20 zi_0 ?_
                    refine w_en dX9_isSign_21 rfl ?_
                    show ZW _ _ _ _ _ _ _ (62, [some (.ref 386), some (.int v19_1), some (.int v19_2), some (.int v19_3), o19_4], [.int 0], M)
                    refine w_ine_f dX9_goesOn_62 (t := 74) rfl (by have := zt_0; omega) ?_
                    refine w_lo dX9_goesOn_65 rfl rfl rfl rfl ?_
                    refine w_bi dX9_goesOn_66 (c := 37) (by decide) ?_
                    refine w_iv dX9_goesOn_68 rfl rfl (As := [.int 37]) rfl rfl hJ.1.1 zs_386 (Nat.le_of_ble_eq_true rfl) ?_
                    refine ZV.of (ini := false) rfl (Nat.le_of_ble_eq_true rfl) (by decide +kernel) ?_
                    show ZW _ _ _ _ _ _ _ (0, [some (.ref 386), some (.int 37)], [], M)
                    refine w_lo dX9_isSign_0 rfl rfl rfl rfl ?_
                    refine w_gf dX9_isSign_1 rfl hJ.1.1 zs_386 f7 ?_
                    refine w_ic dX9_isSign_4 zi_3 ?_
                    refine w_cne_f dX9_isSign_5 (t := 20) rfl (by have := zt_3; omega) ?_
                    refine w_lo dX9_isSign_8 rfl rfl rfl rfl ?_
                    refine w_gf dX9_isSign_9 rfl hJ.1.1 zs_386 f12 ?_
                    refine w_lo dX9_isSign_12 rfl rfl rfl rfl ?_
                    rcases Int.decEq x11.toInt (37 : Int) with h19 | h19
                    · skip
                      replace hb : zHd _ := hb.1 h19
                      refine w_cne_t dX9_isSign_13 (t := 20) rfl (by have := zt_37; omega) ?_
                      refine w_ic dX9_isSign_20 zi_0 ?_
                      refine w_en dX9_isSign_21 rfl ?_
                      show ZW _ _ _ _ _ _ _ (71, [some (.ref 386), some (.int v19_1), some (.int v19_2), some (.int v19_3), o19_4], [.int 0], M)
                      refine w_ieq_t dX9_goesOn_71 (t := 175) rfl (by have := zt_0; omega) ?_
                      obtain ⟨m, hm, hI⟩ := hb
                      exact (ih m hm).2.1 M v19_1 v19_2 v19_3 o19_4 hJ (by omega) (by omega) (by omega) (by omega) (by omega) (by omega) hI
                    · skip
                      replace hb : zHd _ := hb.2 h19
                      refine w_cne_f dX9_isSign_13 (t := 20) rfl (by have := zt_37; omega) ?_
                      refine w_ic dX9_isSign_16 zi_1 ?_
                      refine w_gt dX9_isSign_17 (t := 21) rfl ?_
                      refine w_en dX9_isSign_21 rfl ?_
                      show ZW _ _ _ _ _ _ _ (71, [some (.ref 386), some (.int v19_1), some (.int v19_2), some (.int v19_3), o19_4], [.int 1], M)
                      refine w_ieq_f dX9_goesOn_71 (t := 175) rfl (by have := zt_1; omega) ?_
                      refine w_lo dX9_goesOn_74 rfl rfl rfl rfl ?_
                      refine w_lo dX9_goesOn_75 rfl rfl rfl rfl ?_
                      refine w_bi dX9_goesOn_76 (c := 43) (by decide) ?_
                      refine w_iv dX9_goesOn_78 rfl rfl (As := [.int 43]) rfl rfl hJ.1.1 zs_386 (Nat.le_of_ble_eq_true rfl) ?_
                      refine ZV.of (ini := false) rfl (Nat.le_of_ble_eq_true rfl) (by decide +kernel) ?_
                      show ZW _ _ _ _ _ _ _ (0, [some (.ref 386), some (.int 43)], [], M)
                      refine w_lo dX9_isSign_0 rfl rfl rfl rfl ?_
                      refine w_gf dX9_isSign_1 rfl hJ.1.1 zs_386 f7 ?_
                      refine w_ic dX9_isSign_4 zi_3 ?_
                      refine w_cne_f dX9_isSign_5 (t := 20) rfl (by have := zt_3; omega) ?_
                      refine w_lo dX9_isSign_8 rfl rfl rfl rfl ?_
                      refine w_gf dX9_isSign_9 rfl hJ.1.1 zs_386 f12 ?_
                      refine w_lo dX9_isSign_12 rfl rfl rfl rfl ?_
                      refine w_cne_t dX9_isSign_13 (t := 20) rfl (by have := zt_43; omega) ?_
                      refine w_ic dX9_isSign_20 zi_0 ?_
                      refine w_en dX9_isSign_21 rfl ?_
                      show ZW _ _ _ _ _ _ _ (81, [some (.ref 386), some (.int v19_1), some (.int v19_2), some (.int v19_3), o19_4], [.int 0, .ref 386], M)
                      refine w_ine_f dX9_goesOn_81 (t := 93) rfl (by have := zt_0; omega) ?_
                      refine w_lo dX9_goesOn_84 rfl rfl rfl rfl ?_
                      refine w_bi dX9_goesOn_85 (c := 45) (by decide) ?_
                      refine w_iv dX9_goesOn_87 rfl rfl (As := [.int 45]) rfl rfl hJ.1.1 zs_386 (Nat.le_of_ble_eq_true rfl) ?_
                      refine ZV.of (ini := false) rfl (Nat.le_of_ble_eq_true rfl) (by decide +kernel) ?_
                      show ZW _ _ _ _ _ _ _ (0, [some (.ref 386), some (.int 45)], [], M)
                      refine w_lo dX9_isSign_0 rfl rfl rfl rfl ?_
                      refine w_gf dX9_isSign_1 rfl hJ.1.1 zs_386 f7 ?_
                      refine w_ic dX9_isSign_4 zi_3 ?_
                      refine w_cne_f dX9_isSign_5 (t := 20) rfl (by have := zt_3; omega) ?_
                      refine w_lo dX9_isSign_8 rfl rfl rfl rfl ?_
                      refine w_gf dX9_isSign_9 rfl hJ.1.1 zs_386 f12 ?_
                      refine w_lo dX9_isSign_12 rfl rfl rfl rfl ?_
                      refine w_cne_t dX9_isSign_13 (t := 20) rfl (by have := zt_45; omega) ?_
                      refine w_ic dX9_isSign_20 zi_0 ?_
                      refine w_en dX9_isSign_21 rfl ?_
                      show ZW _ _ _ _ _ _ _ (90, [some (.ref 386), some (.int v19_1), some (.int v19_2), some (.int v19_3), o19_4], [.int 0, .ref 386], M)
                      refine w_ieq_t dX9_goesOn_90 (t := 97) rfl (by have := zt_0; omega) ?_
                      refine w_bi dX9_goesOn_97 (c := 6) (by decide) ?_
                      refine w_iv dX9_goesOn_99 rfl rfl (As := [.int 6]) rfl rfl hJ.1.1 zs_386 (Nat.le_of_ble_eq_true rfl) ?_
                      obtain ⟨P22, hp23, hb⟩ := hb
                      replace hb : zHd _ := hb
                      have hp23c : b_2337 (zi M) (6 : Int32).toInt P22 := by rw [zt_6]; exact hp23
                      refine ZV.imp (u_2337 6 hN hJ.1 hp23c) ?_
                      rintro _ ⟨M20, rfl, hJ21, hq24⟩
                      replace hb : zHd _ := hb  (zi M20) (zi_fr hJ21.2) hq24
                      have hJ26 := zJ_trans hJ hJ21 (zSub_cons (fun _ _ h h' hk => zIR_a (by omega) (by omega)) (zSub_cons (fun _ _ h h' hk => zIR_s (zIR_s (zIR_s (zIR_e (by omega) (by omega) hk)))) (zSub_cons (fun _ _ h h' hk => zIR_s (zIR_s (zIR_s (zIR_s (zIR_s (zIR_s (zIR_s (zIR_e (by omega) (by omega) hk)))))))) zSub_nil)))
                      show ZW _ _ _ _ _ _ _ (102, [some (.ref 386), some (.int v19_1), some (.int v19_2), some (.int v19_3), o19_4], [], M20)
                      refine w_lo dX9_goesOn_102 rfl rfl rfl rfl ?_
                      refine w_lo dX9_goesOn_103 rfl rfl rfl rfl ?_
                      refine w_bi dX9_goesOn_104 (c := 43) (by decide) ?_
                      refine w_iv dX9_goesOn_106 rfl rfl (As := [.int 43]) rfl rfl hJ26.1.1 zs_386 (Nat.le_of_ble_eq_true rfl) ?_
                      refine ZV.of (ini := false) rfl (Nat.le_of_ble_eq_true rfl) (by decide +kernel) ?_
                      show ZW _ _ _ _ _ _ _ (0, [some (.ref 386), some (.int 43)], [], M20)
                      refine w_lo dX9_isSign_0 rfl rfl rfl rfl ?_
                      have f27 := (hJ21.2 (386) 3 (zNI (by omega) (zNI_k (by decide) (by decide) (zNI_k (by decide) (by decide) zNI_nil)))).trans (f7)
                      refine w_gf dX9_isSign_1 rfl hJ26.1.1 zs_386 f27 ?_
                      refine w_ic dX9_isSign_4 zi_3 ?_
                      refine w_cne_f dX9_isSign_5 (t := 20) rfl (by have := zt_3; omega) ?_
                      refine w_lo dX9_isSign_8 rfl rfl rfl rfl ?_
                      have f28 := (hJ21.2 (386) 6 (zNI (by omega) (zNI_k (by decide) (by decide) (zNI_k (by decide) (by decide) zNI_nil)))).trans (f12)
                      refine w_gf dX9_isSign_9 rfl hJ26.1.1 zs_386 f28 ?_
                      refine w_lo dX9_isSign_12 rfl rfl rfl rfl ?_
                      refine w_cne_t dX9_isSign_13 (t := 20) rfl (by have := zt_43; omega) ?_
                      refine w_ic dX9_isSign_20 zi_0 ?_
                      refine w_en dX9_isSign_21 rfl ?_
                      show ZW _ _ _ _ _ _ _ (109, [some (.ref 386), some (.int v19_1), some (.int v19_2), some (.int v19_3), o19_4], [.int 0, .ref 386], M20)
                      refine w_ieq_t dX9_goesOn_109 (t := 117) rfl (by have := zt_0; omega) ?_
                      refine w_lo dX9_goesOn_117 rfl rfl rfl rfl ?_
                      refine w_bi dX9_goesOn_118 (c := 45) (by decide) ?_
                      refine w_iv dX9_goesOn_120 rfl rfl (As := [.int 45]) rfl rfl hJ26.1.1 zs_386 (Nat.le_of_ble_eq_true rfl) ?_
                      refine ZV.of (ini := false) rfl (Nat.le_of_ble_eq_true rfl) (by decide +kernel) ?_
                      show ZW _ _ _ _ _ _ _ (0, [some (.ref 386), some (.int 45)], [], M20)
                      refine w_lo dX9_isSign_0 rfl rfl rfl rfl ?_
                      refine w_gf dX9_isSign_1 rfl hJ26.1.1 zs_386 f27 ?_
                      refine w_ic dX9_isSign_4 zi_3 ?_
                      refine w_cne_f dX9_isSign_5 (t := 20) rfl (by have := zt_3; omega) ?_
                      refine w_lo dX9_isSign_8 rfl rfl rfl rfl ?_
                      refine w_gf dX9_isSign_9 rfl hJ26.1.1 zs_386 f28 ?_
                      refine w_lo dX9_isSign_12 rfl rfl rfl rfl ?_
                      refine w_cne_t dX9_isSign_13 (t := 20) rfl (by have := zt_45; omega) ?_
                      refine w_ic dX9_isSign_20 zi_0 ?_
                      refine w_en dX9_isSign_21 rfl ?_
                      show ZW _ _ _ _ _ _ _ (123, [some (.ref 386), some (.int v19_1), some (.int v19_2), some (.int v19_3), o19_4], [.int 0, .ref 386], M20)
                      refine w_ieq_t dX9_goesOn_123 (t := 131) rfl (by have := zt_0; omega) ?_
                      refine w_lo dX9_goesOn_131 rfl rfl rfl rfl ?_
                      refine w_bi dX9_goesOn_132 (c := 42) (by decide) ?_
                      refine w_iv dX9_goesOn_134 rfl rfl (As := [.int 42]) rfl rfl hJ26.1.1 zs_386 (Nat.le_of_ble_eq_true rfl) ?_
                      refine ZV.of (ini := false) rfl (Nat.le_of_ble_eq_true rfl) (by decide +kernel) ?_
                      show ZW _ _ _ _ _ _ _ (0, [some (.ref 386), some (.int 42)], [], M20)
                      refine w_lo dX9_isSign_0 rfl rfl rfl rfl ?_
                      refine w_gf dX9_isSign_1 rfl hJ26.1.1 zs_386 f27 ?_
                      refine w_ic dX9_isSign_4 zi_3 ?_
                      refine w_cne_f dX9_isSign_5 (t := 20) rfl (by have := zt_3; omega) ?_
                      refine w_lo dX9_isSign_8 rfl rfl rfl rfl ?_
                      refine w_gf dX9_isSign_9 rfl hJ26.1.1 zs_386 f28 ?_
                      refine w_lo dX9_isSign_12 rfl rfl rfl rfl ?_
                      refine w_cne_t dX9_isSign_13 (t := 20) rfl (by have := zt_42; omega) ?_
                      refine w_ic dX9_isSign_20 zi_0 ?_
                      refine w_en dX9_isSign_21 rfl ?_
                      show ZW _ _ _ _ _ _ _ (137, [some (.ref 386), some (.int v19_1), some (.int v19_2), some (.int v19_3), o19_4], [.int 0, .ref 386], M20)
                      refine w_ieq_t dX9_goesOn_137 (t := 145) rfl (by have := zt_0; omega) ?_
                      refine w_lo dX9_goesOn_145 rfl rfl rfl rfl ?_
                      refine w_bi dX9_goesOn_146 (c := 47) (by decide) ?_
                      refine w_iv dX9_goesOn_148 rfl rfl (As := [.int 47]) rfl rfl hJ26.1.1 zs_386 (Nat.le_of_ble_eq_true rfl) ?_
                      refine ZV.of (ini := false) rfl (Nat.le_of_ble_eq_true rfl) (by decide +kernel) ?_
                      show ZW _ _ _ _ _ _ _ (0, [some (.ref 386), some (.int 47)], [], M20)
                      refine w_lo dX9_isSign_0 rfl rfl rfl rfl ?_
                      refine w_gf dX9_isSign_1 rfl hJ26.1.1 zs_386 f27 ?_
                      refine w_ic dX9_isSign_4 zi_3 ?_
                      refine w_cne_f dX9_isSign_5 (t := 20) rfl (by have := zt_3; omega) ?_
                      refine w_lo dX9_isSign_8 rfl rfl rfl rfl ?_
                      refine w_gf dX9_isSign_9 rfl hJ26.1.1 zs_386 f28 ?_
                      refine w_lo dX9_isSign_12 rfl rfl rfl rfl ?_
                      refine w_cne_t dX9_isSign_13 (t := 20) rfl (by have := zt_47; omega) ?_
                      refine w_ic dX9_isSign_20 zi_0 ?_
                      refine w_en dX9_isSign_21 rfl ?_
                      show ZW _ _ _ _ _ _ _ (151, [some (.ref 386), some (.int v19_1), some (.int v19_2), some (.int v19_3), o19_4], [.int 0, .ref 386], M20)
                      refine w_ieq_t dX9_goesOn_151 (t := 159) rfl (by have := zt_0; omega) ?_
                      refine w_bi dX9_goesOn_159 (c := 14) (by decide) ?_
                      refine w_iv dX9_goesOn_161 rfl rfl (As := [.int 14]) rfl rfl hJ26.1.1 zs_386 (Nat.le_of_ble_eq_true rfl) ?_
                      obtain ⟨P31, hp32, hb⟩ := hb
                      replace hb : zHd _ := hb
                      have hp32c : b_2332 (zi M20) (14 : Int32).toInt P31 := by rw [zt_14]; exact hp32
                      refine ZV.imp (u_2332 14 hN hJ26.1 hp32c) ?_
                      rintro _ ⟨M29, rfl, hJ30, hq33⟩
                      replace hb : zHd _ := hb  (zi M29) (zi_fr hJ30.2) hq33
                      have hJ35 := zJ_trans hJ26 hJ30 (zSub_cons (fun _ _ h h' hk => zIR_s (zIR_a (by omega) (by omega))) (zSub_cons (fun _ _ h h' hk => zIR_s (zIR_s (zIR_s (zIR_s (zIR_s (zIR_s (zIR_s (zIR_e (by omega) (by omega) hk)))))))) zSub_nil))
                      show ZW _ _ _ _ _ _ _ (164, [some (.ref 386), some (.int v19_1), some (.int v19_2), some (.int v19_3), o19_4], [], M29)
                      refine w_lo dX9_goesOn_164 rfl rfl rfl rfl ?_
                      refine w_iv dX9_goesOn_165 rfl rfl (As := []) rfl rfl hJ35.1.1 zs_386 (Nat.le_of_ble_eq_true rfl) ?_
                      obtain ⟨P38, hp39, hb⟩ := hb
                      replace hb : zHd _ := hb
                      refine ZV.imp (u_2310 hN hJ35.1 hp39) ?_
                      rintro _ ⟨M36, rfl, hJ37, hq40⟩
                      replace hb : zHd _ := hb  (zi M36) (zi_fr hJ37.2) hq40
                      have hJ42 := zJ_trans hJ35 hJ37 (zSub_cons (fun _ _ h h' hk => zIR_s (zIR_s (zIR_e (by omega) (by omega) hk))) (zSub_cons (fun _ _ h h' hk => zIR_s (zIR_s (zIR_s (zIR_s (zIR_e (by omega) (by omega) hk))))) (zSub_cons (fun _ _ h h' hk => zIR_s (zIR_s (zIR_s (zIR_s (zIR_s (zIR_s (zIR_s (zIR_s (zIR_s (zIR_e (by omega) (by omega) hk)))))))))) (zSub_cons (fun _ _ h h' hk => zIR_s (zIR_s (zIR_s (zIR_s (zIR_s (zIR_s (zIR_s (zIR_s (zIR_s (zIR_s (zIR_e (by omega) (by omega) hk))))))))))) (zSub_cons (fun _ _ h h' hk => zIR_s (zIR_s (zIR_s (zIR_s (zIR_s (zIR_s (zIR_s (zIR_s (zIR_s (zIR_s (zIR_s (zIR_e (by omega) (by omega) hk)))))))))))) (zSub_cons (fun _ _ h h' hk => zIR_s (zIR_s (zIR_s (zIR_s (zIR_s (zIR_s (zIR_s (zIR_s (zIR_s (zIR_s (zIR_s (zIR_s (zIR_e (by omega) (by omega) hk))))))))))))) (zSub_cons (fun _ _ h h' hk => zIR_s (zIR_s (zIR_s (zIR_s (zIR_s (zIR_s (zIR_s (zIR_s (zIR_s (zIR_s (zIR_s (zIR_s (zIR_s (zIR_e (by omega) (by omega) hk)))))))))))))) zSub_nil)))))))
                      show ZW _ _ _ _ _ _ _ (168, [some (.ref 386), some (.int v19_1), some (.int v19_2), some (.int v19_3), o19_4], [], M36)
                      refine w_lo dX9_goesOn_168 rfl rfl rfl rfl ?_
                      refine w_ic dX9_goesOn_169 zi_0 ?_
                      refine w_pfi dX9_goesOn_170 rfl hJ42 zs_386 (Nat.le_of_ble_eq_true rfl) zo_386_45 (by have := zt_0; omega) (by have := zt_0; omega) (zIR_s (zIR_s (zIR_s (zIR_s (zIR_s (zIR_s (zIR_s (zIR_s (zIR_k (by omega) (by omega)))))))))) rfl rfl rfl ?_
                      intro M43 hJ44 f45 hn46
                      replace hb : zHd _ := hb (zi M43) (zi_zup hn46 f45 rfl zt_0)
                      refine w_ic dX9_goesOn_173 zi_1 ?_
                      refine w_en dX9_goesOn_174 rfl ?_
                      exact ⟨_, _, rfl, (by have := zt_1; omega), (by have := zt_1; omega), hJ44, hb⟩
                  · skip
                    replace hb : zHd _ := hb.2 h18
                    refine w_cne_f dX9_isSign_13 (t := 20) rfl (by have := zt_47; omega) ?_
                    refine w_ic dX9_isSign_16 zi_1 ?_
                    refine w_gt dX9_isSign_17 (t := 21) rfl ?_
                    refine w_en dX9_isSign_21 rfl ?_
                    show ZW _ _ _ _ _ _ _ (62, [some (.ref 386), some (.int v19_1), some (.int v19_2), some (.int v19_3), o19_4], [.int 1], M)
                    refine w_ine_t dX9_goesOn_62 (t := 74) rfl (by have := zt_1; omega) ?_
                    refine w_lo dX9_goesOn_74 rfl rfl rfl rfl ?_
                    refine w_lo dX9_goesOn_75 rfl rfl rfl rfl ?_
                    refine w_bi dX9_goesOn_76 (c := 43) (by decide) ?_
                    refine w_iv dX9_goesOn_78 rfl rfl (As := [.int 43]) rfl rfl hJ.1.1 zs_386 (Nat.le_of_ble_eq_true rfl) ?_
                    refine ZV.of (ini := false) rfl (Nat.le_of_ble_eq_true rfl) (by decide +kernel) ?_
                    show ZW _ _ _ _ _ _ _ (0, [some (.ref 386), some (.int 43)], [], M)
                    refine w_lo dX9_isSign_0 rfl rfl rfl rfl ?_
                    refine w_gf dX9_isSign_1 rfl hJ.1.1 zs_386 f7 ?_
                    refine w_ic dX9_isSign_4 zi_3 ?_
                    refine w_cne_f dX9_isSign_5 (t := 20) rfl (by have := zt_3; omega) ?_
                    refine w_lo dX9_isSign_8 rfl rfl rfl rfl ?_
                    refine w_gf dX9_isSign_9 rfl hJ.1.1 zs_386 f12 ?_
                    refine w_lo dX9_isSign_12 rfl rfl rfl rfl ?_
                    refine w_cne_t dX9_isSign_13 (t := 20) rfl (by have := zt_43; omega) ?_
                    refine w_ic dX9_isSign_20 zi_0 ?_
                    refine w_en dX9_isSign_21 rfl ?_
                    show ZW _ _ _ _ _ _ _ (81, [some (.ref 386), some (.int v19_1), some (.int v19_2), some (.int v19_3), o19_4], [.int 0, .ref 386], M)
                    refine w_ine_f dX9_goesOn_81 (t := 93) rfl (by have := zt_0; omega) ?_
                    refine w_lo dX9_goesOn_84 rfl rfl rfl rfl ?_
                    refine w_bi dX9_goesOn_85 (c := 45) (by decide) ?_
                    refine w_iv dX9_goesOn_87 rfl rfl (As := [.int 45]) rfl rfl hJ.1.1 zs_386 (Nat.le_of_ble_eq_true rfl) ?_
                    refine ZV.of (ini := false) rfl (Nat.le_of_ble_eq_true rfl) (by decide +kernel) ?_
                    show ZW _ _ _ _ _ _ _ (0, [some (.ref 386), some (.int 45)], [], M)
                    refine w_lo dX9_isSign_0 rfl rfl rfl rfl ?_
                    refine w_gf dX9_isSign_1 rfl hJ.1.1 zs_386 f7 ?_
                    refine w_ic dX9_isSign_4 zi_3 ?_
                    refine w_cne_f dX9_isSign_5 (t := 20) rfl (by have := zt_3; omega) ?_
                    refine w_lo dX9_isSign_8 rfl rfl rfl rfl ?_
                    refine w_gf dX9_isSign_9 rfl hJ.1.1 zs_386 f12 ?_
                    refine w_lo dX9_isSign_12 rfl rfl rfl rfl ?_
                    refine w_cne_t dX9_isSign_13 (t := 20) rfl (by have := zt_45; omega) ?_
                    refine w_ic dX9_isSign_20 zi_0 ?_
                    refine w_en dX9_isSign_21 rfl ?_
                    show ZW _ _ _ _ _ _ _ (90, [some (.ref 386), some (.int v19_1), some (.int v19_2), some (.int v19_3), o19_4], [.int 0, .ref 386], M)
                    refine w_ieq_t dX9_goesOn_90 (t := 97) rfl (by have := zt_0; omega) ?_
                    refine w_bi dX9_goesOn_97 (c := 6) (by decide) ?_
                    refine w_iv dX9_goesOn_99 rfl rfl (As := [.int 6]) rfl rfl hJ.1.1 zs_386 (Nat.le_of_ble_eq_true rfl) ?_
                    obtain ⟨P50, hp51, hb⟩ := hb
                    replace hb : zHd _ := hb
                    have hp51c : b_2337 (zi M) (6 : Int32).toInt P50 := by rw [zt_6]; exact hp51
                    refine ZV.imp (u_2337 6 hN hJ.1 hp51c) ?_
                    rintro _ ⟨M48, rfl, hJ49, hq52⟩
                    replace hb : zHd _ := hb  (zi M48) (zi_fr hJ49.2) hq52
                    have hJ54 := zJ_trans hJ hJ49 (zSub_cons (fun _ _ h h' hk => zIR_a (by omega) (by omega)) (zSub_cons (fun _ _ h h' hk => zIR_s (zIR_s (zIR_s (zIR_e (by omega) (by omega) hk)))) (zSub_cons (fun _ _ h h' hk => zIR_s (zIR_s (zIR_s (zIR_s (zIR_s (zIR_s (zIR_s (zIR_e (by omega) (by omega) hk)))))))) zSub_nil)))
                    show ZW _ _ _ _ _ _ _ (102, [some (.ref 386), some (.int v19_1), some (.int v19_2), some (.int v19_3), o19_4], [], M48)
                    refine w_lo dX9_goesOn_102 rfl rfl rfl rfl ?_
                    refine w_lo dX9_goesOn_103 rfl rfl rfl rfl ?_
                    refine w_bi dX9_goesOn_104 (c := 43) (by decide) ?_
                    refine w_iv dX9_goesOn_106 rfl rfl (As := [.int 43]) rfl rfl hJ54.1.1 zs_386 (Nat.le_of_ble_eq_true rfl) ?_
                    refine ZV.of (ini := false) rfl (Nat.le_of_ble_eq_true rfl) (by decide +kernel) ?_
                    show ZW _ _ _ _ _ _ _ (0, [some (.ref 386), some (.int 43)], [], M48)
                    refine w_lo dX9_isSign_0 rfl rfl rfl rfl ?_
                    have f55 := (hJ49.2 (386) 3 (zNI (by omega) (zNI_k (by decide) (by decide) (zNI_k (by decide) (by decide) zNI_nil)))).trans (f7)
                    refine w_gf dX9_isSign_1 rfl hJ54.1.1 zs_386 f55 ?_
                    refine w_ic dX9_isSign_4 zi_3 ?_
                    refine w_cne_f dX9_isSign_5 (t := 20) rfl (by have := zt_3; omega) ?_
                    refine w_lo dX9_isSign_8 rfl rfl rfl rfl ?_
                    have f56 := (hJ49.2 (386) 6 (zNI (by omega) (zNI_k (by decide) (by decide) (zNI_k (by decide) (by decide) zNI_nil)))).trans (f12)
                    refine w_gf dX9_isSign_9 rfl hJ54.1.1 zs_386 f56 ?_
                    refine w_lo dX9_isSign_12 rfl rfl rfl rfl ?_
                    refine w_cne_t dX9_isSign_13 (t := 20) rfl (by have := zt_43; omega) ?_
                    refine w_ic dX9_isSign_20 zi_0 ?_
                    refine w_en dX9_isSign_21 rfl ?_
                    show ZW _ _ _ _ _ _ _ (109, [some (.ref 386), some (.int v19_1), some (.int v19_2), some (.int v19_3), o19_4], [.int 0, .ref 386], M48)
                    refine w_ieq_t dX9_goesOn_109 (t := 117) rfl (by have := zt_0; omega) ?_
                    refine w_lo dX9_goesOn_117 rfl rfl rfl rfl ?_
                    refine w_bi dX9_goesOn_118 (c := 45) (by decide) ?_
                    refine w_iv dX9_goesOn_120 rfl rfl (As := [.int 45]) rfl rfl hJ54.1.1 zs_386 (Nat.le_of_ble_eq_true rfl) ?_
                    refine ZV.of (ini := false) rfl (Nat.le_of_ble_eq_true rfl) (by decide +kernel) ?_
                    show ZW _ _ _ _ _ _ _ (0, [some (.ref 386), some (.int 45)], [], M48)
                    refine w_lo dX9_isSign_0 rfl rfl rfl rfl ?_
                    refine w_gf dX9_isSign_1 rfl hJ54.1.1 zs_386 f55 ?_
                    refine w_ic dX9_isSign_4 zi_3 ?_
                    refine w_cne_f dX9_isSign_5 (t := 20) rfl (by have := zt_3; omega) ?_
                    refine w_lo dX9_isSign_8 rfl rfl rfl rfl ?_
                    refine w_gf dX9_isSign_9 rfl hJ54.1.1 zs_386 f56 ?_
                    refine w_lo dX9_isSign_12 rfl rfl rfl rfl ?_
                    refine w_cne_t dX9_isSign_13 (t := 20) rfl (by have := zt_45; omega) ?_
                    refine w_ic dX9_isSign_20 zi_0 ?_
                    refine w_en dX9_isSign_21 rfl ?_
                    show ZW _ _ _ _ _ _ _ (123, [some (.ref 386), some (.int v19_1), some (.int v19_2), some (.int v19_3), o19_4], [.int 0, .ref 386], M48)
                    refine w_ieq_t dX9_goesOn_123 (t := 131) rfl (by have := zt_0; omega) ?_
                    refine w_lo dX9_goesOn_131 rfl rfl rfl rfl ?_
                    refine w_bi dX9_goesOn_132 (c := 42) (by decide) ?_
                    refine w_iv dX9_goesOn_134 rfl rfl (As := [.int 42]) rfl rfl hJ54.1.1 zs_386 (Nat.le_of_ble_eq_true rfl) ?_
                    refine ZV.of (ini := false) rfl (Nat.le_of_ble_eq_true rfl) (by decide +kernel) ?_
                    show ZW _ _ _ _ _ _ _ (0, [some (.ref 386), some (.int 42)], [], M48)
                    refine w_lo dX9_isSign_0 rfl rfl rfl rfl ?_
                    refine w_gf dX9_isSign_1 rfl hJ54.1.1 zs_386 f55 ?_
                    refine w_ic dX9_isSign_4 zi_3 ?_
                    refine w_cne_f dX9_isSign_5 (t := 20) rfl (by have := zt_3; omega) ?_
                    refine w_lo dX9_isSign_8 rfl rfl rfl rfl ?_
                    refine w_gf dX9_isSign_9 rfl hJ54.1.1 zs_386 f56 ?_
                    refine w_lo dX9_isSign_12 rfl rfl rfl rfl ?_
                    refine w_cne_t dX9_isSign_13 (t := 20) rfl (by have := zt_42; omega) ?_
                    refine w_ic dX9_isSign_20 zi_0 ?_
                    refine w_en dX9_isSign_21 rfl ?_
                    show ZW _ _ _ _ _ _ _ (137, [some (.ref 386), some (.int v19_1), some (.int v19_2), some (.int v19_3), o19_4], [.int 0, .ref 386], M48)
                    refine w_ieq_t dX9_goesOn_137 (t := 145) rfl (by have := zt_0; omega) ?_
                    refine w_lo dX9_goesOn_145 rfl rfl rfl rfl ?_
                    refine w_bi dX9_goesOn_146 (c := 47) (by decide) ?_
                    refine w_iv dX9_goesOn_148 rfl rfl (As := [.int 47]) rfl rfl hJ54.1.1 zs_386 (Nat.le_of_ble_eq_true rfl) ?_
                    refine ZV.of (ini := false) rfl (Nat.le_of_ble_eq_true rfl) (by decide +kernel) ?_
                    show ZW _ _ _ _ _ _ _ (0, [some (.ref 386), some (.int 47)], [], M48)
                    refine w_lo dX9_isSign_0 rfl rfl rfl rfl ?_
                    refine w_gf dX9_isSign_1 rfl hJ54.1.1 zs_386 f55 ?_
                    refine w_ic dX9_isSign_4 zi_3 ?_
                    refine w_cne_f dX9_isSign_5 (t := 20) rfl (by have := zt_3; omega) ?_
                    refine w_lo dX9_isSign_8 rfl rfl rfl rfl ?_
                    refine w_gf dX9_isSign_9 rfl hJ54.1.1 zs_386 f56 ?_
                    refine w_lo dX9_isSign_12 rfl rfl rfl rfl ?_
                    refine w_cne_f dX9_isSign_13 (t := 20) rfl (by have := zt_47; omega) ?_
                    refine w_ic dX9_isSign_16 zi_1 ?_
                    refine w_gt dX9_isSign_17 (t := 21) rfl ?_
                    refine w_en dX9_isSign_21 rfl ?_
                    show ZW _ _ _ _ _ _ _ (151, [some (.ref 386), some (.int v19_1), some (.int v19_2), some (.int v19_3), o19_4], [.int 1, .ref 386], M48)
                    refine w_ieq_f dX9_goesOn_151 (t := 159) rfl (by have := zt_1; omega) ?_
                    refine w_bi dX9_goesOn_154 (c := 13) (by decide) ?_
                    refine w_gt dX9_goesOn_156 (t := 161) rfl ?_
                    refine w_iv dX9_goesOn_161 rfl rfl (As := [.int 13]) rfl rfl hJ54.1.1 zs_386 (Nat.le_of_ble_eq_true rfl) ?_
                    obtain ⟨P59, hp60, hb⟩ := hb
                    replace hb : zHd _ := hb
                    have hp60c : b_2332 (zi M48) (13 : Int32).toInt P59 := by rw [zt_13]; exact hp60
                    refine ZV.imp (u_2332 13 hN hJ54.1 hp60c) ?_
                    rintro _ ⟨M57, rfl, hJ58, hq61⟩
                    replace hb : zHd _ := hb  (zi M57) (zi_fr hJ58.2) hq61
                    have hJ63 := zJ_trans hJ54 hJ58 (zSub_cons (fun _ _ h h' hk => zIR_s (zIR_a (by omega) (by omega))) (zSub_cons (fun _ _ h h' hk => zIR_s (zIR_s (zIR_s (zIR_s (zIR_s (zIR_s (zIR_s (zIR_e (by omega) (by omega) hk)))))))) zSub_nil))
                    show ZW _ _ _ _ _ _ _ (164, [some (.ref 386), some (.int v19_1), some (.int v19_2), some (.int v19_3), o19_4], [], M57)
                    refine w_lo dX9_goesOn_164 rfl rfl rfl rfl ?_
                    refine w_iv dX9_goesOn_165 rfl rfl (As := []) rfl rfl hJ63.1.1 zs_386 (Nat.le_of_ble_eq_true rfl) ?_
                    obtain ⟨P66, hp67, hb⟩ := hb
                    replace hb : zHd _ := hb
                    refine ZV.imp (u_2310 hN hJ63.1 hp67) ?_
                    rintro _ ⟨M64, rfl, hJ65, hq68⟩
                    replace hb : zHd _ := hb  (zi M64) (zi_fr hJ65.2) hq68
                    have hJ70 := zJ_trans hJ63 hJ65 (zSub_cons (fun _ _ h h' hk => zIR_s (zIR_s (zIR_e (by omega) (by omega) hk))) (zSub_cons (fun _ _ h h' hk => zIR_s (zIR_s (zIR_s (zIR_s (zIR_e (by omega) (by omega) hk))))) (zSub_cons (fun _ _ h h' hk => zIR_s (zIR_s (zIR_s (zIR_s (zIR_s (zIR_s (zIR_s (zIR_s (zIR_s (zIR_e (by omega) (by omega) hk)))))))))) (zSub_cons (fun _ _ h h' hk => zIR_s (zIR_s (zIR_s (zIR_s (zIR_s (zIR_s (zIR_s (zIR_s (zIR_s (zIR_s (zIR_e (by omega) (by omega) hk))))))))))) (zSub_cons (fun _ _ h h' hk => zIR_s (zIR_s (zIR_s (zIR_s (zIR_s (zIR_s (zIR_s (zIR_s (zIR_s (zIR_s (zIR_s (zIR_e (by omega) (by omega) hk)))))))))))) (zSub_cons (fun _ _ h h' hk => zIR_s (zIR_s (zIR_s (zIR_s (zIR_s (zIR_s (zIR_s (zIR_s (zIR_s (zIR_s (zIR_s (zIR_s (zIR_e (by omega) (by omega) hk))))))))))))) (zSub_cons (fun _ _ h h' hk => zIR_s (zIR_s (zIR_s (zIR_s (zIR_s (zIR_s (zIR_s (zIR_s (zIR_s (zIR_s (zIR_s (zIR_s (zIR_s (zIR_e (by omega) (by omega) hk)))))))))))))) zSub_nil)))))))
                    show ZW _ _ _ _ _ _ _ (168, [some (.ref 386), some (.int v19_1), some (.int v19_2), some (.int v19_3), o19_4], [], M64)
                    refine w_lo dX9_goesOn_168 rfl rfl rfl rfl ?_
                    refine w_ic dX9_goesOn_169 zi_0 ?_
                    refine w_pfi dX9_goesOn_170 rfl hJ70 zs_386 (Nat.le_of_ble_eq_true rfl) zo_386_45 (by have := zt_0; omega) (by have := zt_0; omega) (zIR_s (zIR_s (zIR_s (zIR_s (zIR_s (zIR_s (zIR_s (zIR_s (zIR_k (by omega) (by omega)))))))))) rfl rfl rfl ?_
                    intro M71 hJ72 f73 hn74
                    replace hb : zHd _ := hb (zi M71) (zi_zup hn74 f73 rfl zt_0)
                    refine w_ic dX9_goesOn_173 zi_1 ?_
                    refine w_en dX9_goesOn_174 rfl ?_
                    exact ⟨_, _, rfl, (by have := zt_1; omega), (by have := zt_1; omega), hJ72, hb⟩
                · skip
                  replace hb : zHd _ := hb.2 h17
                  refine w_cne_f dX9_isSign_13 (t := 20) rfl (by have := zt_42; omega) ?_
                  refine w_ic dX9_isSign_16 zi_1 ?_
                  refine w_gt dX9_isSign_17 (t := 21) rfl ?_
                  refine w_en dX9_isSign_21 rfl ?_
                  show ZW _ _ _ _ _ _ _ (53, [some (.ref 386), some (.int v19_1), some (.int v19_2), some (.int v19_3), o19_4], [.int 1], M)
                  refine w_ine_t dX9_goesOn_53 (t := 74) rfl (by have := zt_1; omega) ?_
                  refine w_lo dX9_goesOn_74 rfl rfl rfl rfl ?_
                  refine w_lo dX9_goesOn_75 rfl rfl rfl rfl ?_
                  refine w_bi dX9_goesOn_76 (c := 43) (by decide) ?_
                  refine w_iv dX9_goesOn_78 rfl rfl (As := [.int 43]) rfl rfl hJ.1.1 zs_386 (Nat.le_of_ble_eq_true rfl) ?_
                  refine ZV.of (ini := false) rfl (Nat.le_of_ble_eq_true rfl) (by decide +kernel) ?_
                  show ZW _ _ _ _ _ _ _ (0, [some (.ref 386), some (.int 43)], [], M)
                  refine w_lo dX9_isSign_0 rfl rfl rfl rfl ?_
                  refine w_gf dX9_isSign_1 rfl hJ.1.1 zs_386 f7 ?_
                  refine w_ic dX9_isSign_4 zi_3 ?_
                  refine w_cne_f dX9_isSign_5 (t := 20) rfl (by have := zt_3; omega) ?_
                  refine w_lo dX9_isSign_8 rfl rfl rfl rfl ?_
                  refine w_gf dX9_isSign_9 rfl hJ.1.1 zs_386 f12 ?_
                  refine w_lo dX9_isSign_12 rfl rfl rfl rfl ?_
                  refine w_cne_t dX9_isSign_13 (t := 20) rfl (by have := zt_43; omega) ?_
                  refine w_ic dX9_isSign_20 zi_0 ?_
                  refine w_en dX9_isSign_21 rfl ?_
                  show ZW _ _ _ _ _ _ _ (81, [some (.ref 386), some (.int v19_1), some (.int v19_2), some (.int v19_3), o19_4], [.int 0, .ref 386], M)
                  refine w_ine_f dX9_goesOn_81 (t := 93) rfl (by have := zt_0; omega) ?_
                  refine w_lo dX9_goesOn_84 rfl rfl rfl rfl ?_
                  refine w_bi dX9_goesOn_85 (c := 45) (by decide) ?_
                  refine w_iv dX9_goesOn_87 rfl rfl (As := [.int 45]) rfl rfl hJ.1.1 zs_386 (Nat.le_of_ble_eq_true rfl) ?_
                  refine ZV.of (ini := false) rfl (Nat.le_of_ble_eq_true rfl) (by decide +kernel) ?_
                  show ZW _ _ _ _ _ _ _ (0, [some (.ref 386), some (.int 45)], [], M)
                  refine w_lo dX9_isSign_0 rfl rfl rfl rfl ?_
                  refine w_gf dX9_isSign_1 rfl hJ.1.1 zs_386 f7 ?_
                  refine w_ic dX9_isSign_4 zi_3 ?_
                  refine w_cne_f dX9_isSign_5 (t := 20) rfl (by have := zt_3; omega) ?_
                  refine w_lo dX9_isSign_8 rfl rfl rfl rfl ?_
                  refine w_gf dX9_isSign_9 rfl hJ.1.1 zs_386 f12 ?_
                  refine w_lo dX9_isSign_12 rfl rfl rfl rfl ?_
                  refine w_cne_t dX9_isSign_13 (t := 20) rfl (by have := zt_45; omega) ?_
                  refine w_ic dX9_isSign_20 zi_0 ?_
                  refine w_en dX9_isSign_21 rfl ?_
                  show ZW _ _ _ _ _ _ _ (90, [some (.ref 386), some (.int v19_1), some (.int v19_2), some (.int v19_3), o19_4], [.int 0, .ref 386], M)
                  refine w_ieq_t dX9_goesOn_90 (t := 97) rfl (by have := zt_0; omega) ?_
                  refine w_bi dX9_goesOn_97 (c := 6) (by decide) ?_
                  refine w_iv dX9_goesOn_99 rfl rfl (As := [.int 6]) rfl rfl hJ.1.1 zs_386 (Nat.le_of_ble_eq_true rfl) ?_
                  obtain ⟨P78, hp79, hb⟩ := hb
                  replace hb : zHd _ := hb
                  have hp79c : b_2337 (zi M) (6 : Int32).toInt P78 := by rw [zt_6]; exact hp79
                  refine ZV.imp (u_2337 6 hN hJ.1 hp79c) ?_
                  rintro _ ⟨M76, rfl, hJ77, hq80⟩
                  replace hb : zHd _ := hb  (zi M76) (zi_fr hJ77.2) hq80
                  have hJ82 := zJ_trans hJ hJ77 (zSub_cons (fun _ _ h h' hk => zIR_a (by omega) (by omega)) (zSub_cons (fun _ _ h h' hk => zIR_s (zIR_s (zIR_s (zIR_e (by omega) (by omega) hk)))) (zSub_cons (fun _ _ h h' hk => zIR_s (zIR_s (zIR_s (zIR_s (zIR_s (zIR_s (zIR_s (zIR_e (by omega) (by omega) hk)))))))) zSub_nil)))
                  show ZW _ _ _ _ _ _ _ (102, [some (.ref 386), some (.int v19_1), some (.int v19_2), some (.int v19_3), o19_4], [], M76)
                  refine w_lo dX9_goesOn_102 rfl rfl rfl rfl ?_
                  refine w_lo dX9_goesOn_103 rfl rfl rfl rfl ?_
                  refine w_bi dX9_goesOn_104 (c := 43) (by decide) ?_
                  refine w_iv dX9_goesOn_106 rfl rfl (As := [.int 43]) rfl rfl hJ82.1.1 zs_386 (Nat.le_of_ble_eq_true rfl) ?_
                  refine ZV.of (ini := false) rfl (Nat.le_of_ble_eq_true rfl) (by decide +kernel) ?_
                  show ZW _ _ _ _ _ _ _ (0, [some (.ref 386), some (.int 43)], [], M76)
                  refine w_lo dX9_isSign_0 rfl rfl rfl rfl ?_
                  have f83 := (hJ77.2 (386) 3 (zNI (by omega) (zNI_k (by decide) (by decide) (zNI_k (by decide) (by decide) zNI_nil)))).trans (f7)
                  refine w_gf dX9_isSign_1 rfl hJ82.1.1 zs_386 f83 ?_
                  refine w_ic dX9_isSign_4 zi_3 ?_
                  refine w_cne_f dX9_isSign_5 (t := 20) rfl (by have := zt_3; omega) ?_
                  refine w_lo dX9_isSign_8 rfl rfl rfl rfl ?_
                  have f84 := (hJ77.2 (386) 6 (zNI (by omega) (zNI_k (by decide) (by decide) (zNI_k (by decide) (by decide) zNI_nil)))).trans (f12)
                  refine w_gf dX9_isSign_9 rfl hJ82.1.1 zs_386 f84 ?_
                  refine w_lo dX9_isSign_12 rfl rfl rfl rfl ?_
                  refine w_cne_t dX9_isSign_13 (t := 20) rfl (by have := zt_43; omega) ?_
                  refine w_ic dX9_isSign_20 zi_0 ?_
                  refine w_en dX9_isSign_21 rfl ?_
                  show ZW _ _ _ _ _ _ _ (109, [some (.ref 386), some (.int v19_1), some (.int v19_2), some (.int v19_3), o19_4], [.int 0, .ref 386], M76)
                  refine w_ieq_t dX9_goesOn_109 (t := 117) rfl (by have := zt_0; omega) ?_
                  refine w_lo dX9_goesOn_117 rfl rfl rfl rfl ?_
                  refine w_bi dX9_goesOn_118 (c := 45) (by decide) ?_
                  refine w_iv dX9_goesOn_120 rfl rfl (As := [.int 45]) rfl rfl hJ82.1.1 zs_386 (Nat.le_of_ble_eq_true rfl) ?_
                  refine ZV.of (ini := false) rfl (Nat.le_of_ble_eq_true rfl) (by decide +kernel) ?_
                  show ZW _ _ _ _ _ _ _ (0, [some (.ref 386), some (.int 45)], [], M76)
                  refine w_lo dX9_isSign_0 rfl rfl rfl rfl ?_
                  refine w_gf dX9_isSign_1 rfl hJ82.1.1 zs_386 f83 ?_
                  refine w_ic dX9_isSign_4 zi_3 ?_
                  refine w_cne_f dX9_isSign_5 (t := 20) rfl (by have := zt_3; omega) ?_
                  refine w_lo dX9_isSign_8 rfl rfl rfl rfl ?_
                  refine w_gf dX9_isSign_9 rfl hJ82.1.1 zs_386 f84 ?_
                  refine w_lo dX9_isSign_12 rfl rfl rfl rfl ?_
                  refine w_cne_t dX9_isSign_13 (t := 20) rfl (by have := zt_45; omega) ?_
                  refine w_ic dX9_isSign_20 zi_0 ?_
                  refine w_en dX9_isSign_21 rfl ?_
                  show ZW _ _ _ _ _ _ _ (123, [some (.ref 386), some (.int v19_1), some (.int v19_2), some (.int v19_3), o19_4], [.int 0, .ref 386], M76)
                  refine w_ieq_t dX9_goesOn_123 (t := 131) rfl (by have := zt_0; omega) ?_
                  refine w_lo dX9_goesOn_131 rfl rfl rfl rfl ?_
                  refine w_bi dX9_goesOn_132 (c := 42) (by decide) ?_
                  refine w_iv dX9_goesOn_134 rfl rfl (As := [.int 42]) rfl rfl hJ82.1.1 zs_386 (Nat.le_of_ble_eq_true rfl) ?_
                  refine ZV.of (ini := false) rfl (Nat.le_of_ble_eq_true rfl) (by decide +kernel) ?_
                  show ZW _ _ _ _ _ _ _ (0, [some (.ref 386), some (.int 42)], [], M76)
                  refine w_lo dX9_isSign_0 rfl rfl rfl rfl ?_
                  refine w_gf dX9_isSign_1 rfl hJ82.1.1 zs_386 f83 ?_
                  refine w_ic dX9_isSign_4 zi_3 ?_
                  refine w_cne_f dX9_isSign_5 (t := 20) rfl (by have := zt_3; omega) ?_
                  refine w_lo dX9_isSign_8 rfl rfl rfl rfl ?_
                  refine w_gf dX9_isSign_9 rfl hJ82.1.1 zs_386 f84 ?_
                  refine w_lo dX9_isSign_12 rfl rfl rfl rfl ?_
                  refine w_cne_f dX9_isSign_13 (t := 20) rfl (by have := zt_42; omega) ?_
                  refine w_ic dX9_isSign_16 zi_1 ?_
                  refine w_gt dX9_isSign_17 (t := 21) rfl ?_
                  refine w_en dX9_isSign_21 rfl ?_
                  show ZW _ _ _ _ _ _ _ (137, [some (.ref 386), some (.int v19_1), some (.int v19_2), some (.int v19_3), o19_4], [.int 1, .ref 386], M76)
                  refine w_ieq_f dX9_goesOn_137 (t := 145) rfl (by have := zt_1; omega) ?_
                  refine w_bi dX9_goesOn_140 (c := 12) (by decide) ?_
                  refine w_gt dX9_goesOn_142 (t := 161) rfl ?_
                  refine w_iv dX9_goesOn_161 rfl rfl (As := [.int 12]) rfl rfl hJ82.1.1 zs_386 (Nat.le_of_ble_eq_true rfl) ?_
                  obtain ⟨P87, hp88, hb⟩ := hb
                  replace hb : zHd _ := hb
                  have hp88c : b_2332 (zi M76) (12 : Int32).toInt P87 := by rw [zt_12]; exact hp88
                  refine ZV.imp (u_2332 12 hN hJ82.1 hp88c) ?_
                  rintro _ ⟨M85, rfl, hJ86, hq89⟩
                  replace hb : zHd _ := hb  (zi M85) (zi_fr hJ86.2) hq89
                  have hJ91 := zJ_trans hJ82 hJ86 (zSub_cons (fun _ _ h h' hk => zIR_s (zIR_a (by omega) (by omega))) (zSub_cons (fun _ _ h h' hk => zIR_s (zIR_s (zIR_s (zIR_s (zIR_s (zIR_s (zIR_s (zIR_e (by omega) (by omega) hk)))))))) zSub_nil))
                  show ZW _ _ _ _ _ _ _ (164, [some (.ref 386), some (.int v19_1), some (.int v19_2), some (.int v19_3), o19_4], [], M85)
                  refine w_lo dX9_goesOn_164 rfl rfl rfl rfl ?_
                  refine w_iv dX9_goesOn_165 rfl rfl (As := []) rfl rfl hJ91.1.1 zs_386 (Nat.le_of_ble_eq_true rfl) ?_
                  obtain ⟨P94, hp95, hb⟩ := hb
                  replace hb : zHd _ := hb
                  refine ZV.imp (u_2310 hN hJ91.1 hp95) ?_
                  rintro _ ⟨M92, rfl, hJ93, hq96⟩
                  replace hb : zHd _ := hb  (zi M92) (zi_fr hJ93.2) hq96
                  have hJ98 := zJ_trans hJ91 hJ93 (zSub_cons (fun _ _ h h' hk => zIR_s (zIR_s (zIR_e (by omega) (by omega) hk))) (zSub_cons (fun _ _ h h' hk => zIR_s (zIR_s (zIR_s (zIR_s (zIR_e (by omega) (by omega) hk))))) (zSub_cons (fun _ _ h h' hk => zIR_s (zIR_s (zIR_s (zIR_s (zIR_s (zIR_s (zIR_s (zIR_s (zIR_s (zIR_e (by omega) (by omega) hk)))))))))) (zSub_cons (fun _ _ h h' hk => zIR_s (zIR_s (zIR_s (zIR_s (zIR_s (zIR_s (zIR_s (zIR_s (zIR_s (zIR_s (zIR_e (by omega) (by omega) hk))))))))))) (zSub_cons (fun _ _ h h' hk => zIR_s (zIR_s (zIR_s (zIR_s (zIR_s (zIR_s (zIR_s (zIR_s (zIR_s (zIR_s (zIR_s (zIR_e (by omega) (by omega) hk)))))))))))) (zSub_cons (fun _ _ h h' hk => zIR_s (zIR_s (zIR_s (zIR_s (zIR_s (zIR_s (zIR_s (zIR_s (zIR_s (zIR_s (zIR_s (zIR_s (zIR_e (by omega) (by omega) hk))))))))))))) (zSub_cons (fun _ _ h h' hk => zIR_s (zIR_s (zIR_s (zIR_s (zIR_s (zIR_s (zIR_s (zIR_s (zIR_s (zIR_s (zIR_s (zIR_s (zIR_s (zIR_e (by omega) (by omega) hk)))))))))))))) zSub_nil)))))))
                  show ZW _ _ _ _ _ _ _ (168, [some (.ref 386), some (.int v19_1), some (.int v19_2), some (.int v19_3), o19_4], [], M92)
                  refine w_lo dX9_goesOn_168 rfl rfl rfl rfl ?_
                  refine w_ic dX9_goesOn_169 zi_0 ?_
                  refine w_pfi dX9_goesOn_170 rfl hJ98 zs_386 (Nat.le_of_ble_eq_true rfl) zo_386_45 (by have := zt_0; omega) (by have := zt_0; omega) (zIR_s (zIR_s (zIR_s (zIR_s (zIR_s (zIR_s (zIR_s (zIR_s (zIR_k (by omega) (by omega)))))))))) rfl rfl rfl ?_
                  intro M99 hJ100 f101 hn102
                  replace hb : zHd _ := hb (zi M99) (zi_zup hn102 f101 rfl zt_0)
                  refine w_ic dX9_goesOn_173 zi_1 ?_
                  refine w_en dX9_goesOn_174 rfl ?_
                  exact ⟨_, _, rfl, (by have := zt_1; omega), (by have := zt_1; omega), hJ100, hb⟩
              · skip
                replace hb : zHd _ := hb.2 h16
                refine w_cne_f dX9_isSign_13 (t := 20) rfl (by have := zt_45; omega) ?_
                refine w_ic dX9_isSign_16 zi_1 ?_
                refine w_gt dX9_isSign_17 (t := 21) rfl ?_
                refine w_en dX9_isSign_21 rfl ?_
                show ZW _ _ _ _ _ _ _ (44, [some (.ref 386), some (.int v19_1), some (.int v19_2), some (.int v19_3), o19_4], [.int 1], M)
                refine w_ine_t dX9_goesOn_44 (t := 74) rfl (by have := zt_1; omega) ?_
                refine w_lo dX9_goesOn_74 rfl rfl rfl rfl ?_
                refine w_lo dX9_goesOn_75 rfl rfl rfl rfl ?_
                refine w_bi dX9_goesOn_76 (c := 43) (by decide) ?_
                refine w_iv dX9_goesOn_78 rfl rfl (As := [.int 43]) rfl rfl hJ.1.1 zs_386 (Nat.le_of_ble_eq_true rfl) ?_
                refine ZV.of (ini := false) rfl (Nat.le_of_ble_eq_true rfl) (by decide +kernel) ?_
                show ZW _ _ _ _ _ _ _ (0, [some (.ref 386), some (.int 43)], [], M)
                refine w_lo dX9_isSign_0 rfl rfl rfl rfl ?_
                refine w_gf dX9_isSign_1 rfl hJ.1.1 zs_386 f7 ?_
                refine w_ic dX9_isSign_4 zi_3 ?_
                refine w_cne_f dX9_isSign_5 (t := 20) rfl (by have := zt_3; omega) ?_
                refine w_lo dX9_isSign_8 rfl rfl rfl rfl ?_
                refine w_gf dX9_isSign_9 rfl hJ.1.1 zs_386 f12 ?_
                refine w_lo dX9_isSign_12 rfl rfl rfl rfl ?_
                refine w_cne_t dX9_isSign_13 (t := 20) rfl (by have := zt_43; omega) ?_
                refine w_ic dX9_isSign_20 zi_0 ?_
                refine w_en dX9_isSign_21 rfl ?_
                show ZW _ _ _ _ _ _ _ (81, [some (.ref 386), some (.int v19_1), some (.int v19_2), some (.int v19_3), o19_4], [.int 0, .ref 386], M)
                refine w_ine_f dX9_goesOn_81 (t := 93) rfl (by have := zt_0; omega) ?_
                refine w_lo dX9_goesOn_84 rfl rfl rfl rfl ?_
                refine w_bi dX9_goesOn_85 (c := 45) (by decide) ?_
                refine w_iv dX9_goesOn_87 rfl rfl (As := [.int 45]) rfl rfl hJ.1.1 zs_386 (Nat.le_of_ble_eq_true rfl) ?_
                refine ZV.of (ini := false) rfl (Nat.le_of_ble_eq_true rfl) (by decide +kernel) ?_
                show ZW _ _ _ _ _ _ _ (0, [some (.ref 386), some (.int 45)], [], M)
                refine w_lo dX9_isSign_0 rfl rfl rfl rfl ?_
                refine w_gf dX9_isSign_1 rfl hJ.1.1 zs_386 f7 ?_
                refine w_ic dX9_isSign_4 zi_3 ?_
                refine w_cne_f dX9_isSign_5 (t := 20) rfl (by have := zt_3; omega) ?_
                refine w_lo dX9_isSign_8 rfl rfl rfl rfl ?_
                refine w_gf dX9_isSign_9 rfl hJ.1.1 zs_386 f12 ?_
                refine w_lo dX9_isSign_12 rfl rfl rfl rfl ?_
                refine w_cne_f dX9_isSign_13 (t := 20) rfl (by have := zt_45; omega) ?_
                refine w_ic dX9_isSign_16 zi_1 ?_
                refine w_gt dX9_isSign_17 (t := 21) rfl ?_
                refine w_en dX9_isSign_21 rfl ?_
                show ZW _ _ _ _ _ _ _ (90, [some (.ref 386), some (.int v19_1), some (.int v19_2), some (.int v19_3), o19_4], [.int 1, .ref 386], M)
                refine w_ieq_f dX9_goesOn_90 (t := 97) rfl (by have := zt_1; omega) ?_
                refine w_ic dX9_goesOn_93 zi_5 ?_
                refine w_gt dX9_goesOn_94 (t := 99) rfl ?_
                refine w_iv dX9_goesOn_99 rfl rfl (As := [.int 5]) rfl rfl hJ.1.1 zs_386 (Nat.le_of_ble_eq_true rfl) ?_
                obtain ⟨P106, hp107, hb⟩ := hb
                replace hb : zHd _ := hb
                have hp107c : b_2337 (zi M) (5 : Int32).toInt P106 := by rw [zt_5]; exact hp107
                refine ZV.imp (u_2337 5 hN hJ.1 hp107c) ?_
                rintro _ ⟨M104, rfl, hJ105, hq108⟩
                replace hb : zHd _ := hb  (zi M104) (zi_fr hJ105.2) hq108
                have hJ110 := zJ_trans hJ hJ105 (zSub_cons (fun _ _ h h' hk => zIR_a (by omega) (by omega)) (zSub_cons (fun _ _ h h' hk => zIR_s (zIR_s (zIR_s (zIR_e (by omega) (by omega) hk)))) (zSub_cons (fun _ _ h h' hk => zIR_s (zIR_s (zIR_s (zIR_s (zIR_s (zIR_s (zIR_s (zIR_e (by omega) (by omega) hk)))))))) zSub_nil)))
                show ZW _ _ _ _ _ _ _ (102, [some (.ref 386), some (.int v19_1), some (.int v19_2), some (.int v19_3), o19_4], [], M104)
                refine w_lo dX9_goesOn_102 rfl rfl rfl rfl ?_
                refine w_lo dX9_goesOn_103 rfl rfl rfl rfl ?_
                refine w_bi dX9_goesOn_104 (c := 43) (by decide) ?_
                refine w_iv dX9_goesOn_106 rfl rfl (As := [.int 43]) rfl rfl hJ110.1.1 zs_386 (Nat.le_of_ble_eq_true rfl) ?_
                refine ZV.of (ini := false) rfl (Nat.le_of_ble_eq_true rfl) (by decide +kernel) ?_
                show ZW _ _ _ _ _ _ _ (0, [some (.ref 386), some (.int 43)], [], M104)
                refine w_lo dX9_isSign_0 rfl rfl rfl rfl ?_
                have f111 := (hJ105.2 (386) 3 (zNI (by omega) (zNI_k (by decide) (by decide) (zNI_k (by decide) (by decide) zNI_nil)))).trans (f7)
                refine w_gf dX9_isSign_1 rfl hJ110.1.1 zs_386 f111 ?_
                refine w_ic dX9_isSign_4 zi_3 ?_
                refine w_cne_f dX9_isSign_5 (t := 20) rfl (by have := zt_3; omega) ?_
                refine w_lo dX9_isSign_8 rfl rfl rfl rfl ?_
                have f112 := (hJ105.2 (386) 6 (zNI (by omega) (zNI_k (by decide) (by decide) (zNI_k (by decide) (by decide) zNI_nil)))).trans (f12)
                refine w_gf dX9_isSign_9 rfl hJ110.1.1 zs_386 f112 ?_
                refine w_lo dX9_isSign_12 rfl rfl rfl rfl ?_
                refine w_cne_t dX9_isSign_13 (t := 20) rfl (by have := zt_43; omega) ?_
                refine w_ic dX9_isSign_20 zi_0 ?_
                refine w_en dX9_isSign_21 rfl ?_
                show ZW _ _ _ _ _ _ _ (109, [some (.ref 386), some (.int v19_1), some (.int v19_2), some (.int v19_3), o19_4], [.int 0, .ref 386], M104)
                refine w_ieq_t dX9_goesOn_109 (t := 117) rfl (by have := zt_0; omega) ?_
                refine w_lo dX9_goesOn_117 rfl rfl rfl rfl ?_
                refine w_bi dX9_goesOn_118 (c := 45) (by decide) ?_
                refine w_iv dX9_goesOn_120 rfl rfl (As := [.int 45]) rfl rfl hJ110.1.1 zs_386 (Nat.le_of_ble_eq_true rfl) ?_
                refine ZV.of (ini := false) rfl (Nat.le_of_ble_eq_true rfl) (by decide +kernel) ?_
                show ZW _ _ _ _ _ _ _ (0, [some (.ref 386), some (.int 45)], [], M104)
                refine w_lo dX9_isSign_0 rfl rfl rfl rfl ?_
                refine w_gf dX9_isSign_1 rfl hJ110.1.1 zs_386 f111 ?_
                refine w_ic dX9_isSign_4 zi_3 ?_
                refine w_cne_f dX9_isSign_5 (t := 20) rfl (by have := zt_3; omega) ?_
                refine w_lo dX9_isSign_8 rfl rfl rfl rfl ?_
                refine w_gf dX9_isSign_9 rfl hJ110.1.1 zs_386 f112 ?_
                refine w_lo dX9_isSign_12 rfl rfl rfl rfl ?_
                refine w_cne_f dX9_isSign_13 (t := 20) rfl (by have := zt_45; omega) ?_
                refine w_ic dX9_isSign_16 zi_1 ?_
                refine w_gt dX9_isSign_17 (t := 21) rfl ?_
                refine w_en dX9_isSign_21 rfl ?_
                show ZW _ _ _ _ _ _ _ (123, [some (.ref 386), some (.int v19_1), some (.int v19_2), some (.int v19_3), o19_4], [.int 1, .ref 386], M104)
                refine w_ieq_f dX9_goesOn_123 (t := 131) rfl (by have := zt_1; omega) ?_
                refine w_bi dX9_goesOn_126 (c := 11) (by decide) ?_
                refine w_gt dX9_goesOn_128 (t := 161) rfl ?_
                refine w_iv dX9_goesOn_161 rfl rfl (As := [.int 11]) rfl rfl hJ110.1.1 zs_386 (Nat.le_of_ble_eq_true rfl) ?_
                obtain ⟨P115, hp116, hb⟩ := hb
                replace hb : zHd _ := hb
                have hp116c : b_2332 (zi M104) (11 : Int32).toInt P115 := by rw [zt_11]; exact hp116
                refine ZV.imp (u_2332 11 hN hJ110.1 hp116c) ?_
                rintro _ ⟨M113, rfl, hJ114, hq117⟩
                replace hb : zHd _ := hb  (zi M113) (zi_fr hJ114.2) hq117
                have hJ119 := zJ_trans hJ110 hJ114 (zSub_cons (fun _ _ h h' hk => zIR_s (zIR_a (by omega) (by omega))) (zSub_cons (fun _ _ h h' hk => zIR_s (zIR_s (zIR_s (zIR_s (zIR_s (zIR_s (zIR_s (zIR_e (by omega) (by omega) hk)))))))) zSub_nil))
                show ZW _ _ _ _ _ _ _ (164, [some (.ref 386), some (.int v19_1), some (.int v19_2), some (.int v19_3), o19_4], [], M113)
                refine w_lo dX9_goesOn_164 rfl rfl rfl rfl ?_
                refine w_iv dX9_goesOn_165 rfl rfl (As := []) rfl rfl hJ119.1.1 zs_386 (Nat.le_of_ble_eq_true rfl) ?_
                obtain ⟨P122, hp123, hb⟩ := hb
                replace hb : zHd _ := hb
                refine ZV.imp (u_2310 hN hJ119.1 hp123) ?_
                rintro _ ⟨M120, rfl, hJ121, hq124⟩
                replace hb : zHd _ := hb  (zi M120) (zi_fr hJ121.2) hq124
                have hJ126 := zJ_trans hJ119 hJ121 (zSub_cons (fun _ _ h h' hk => zIR_s (zIR_s (zIR_e (by omega) (by omega) hk))) (zSub_cons (fun _ _ h h' hk => zIR_s (zIR_s (zIR_s (zIR_s (zIR_e (by omega) (by omega) hk))))) (zSub_cons (fun _ _ h h' hk => zIR_s (zIR_s (zIR_s (zIR_s (zIR_s (zIR_s (zIR_s (zIR_s (zIR_s (zIR_e (by omega) (by omega) hk)))))))))) (zSub_cons (fun _ _ h h' hk => zIR_s (zIR_s (zIR_s (zIR_s (zIR_s (zIR_s (zIR_s (zIR_s (zIR_s (zIR_s (zIR_e (by omega) (by omega) hk))))))))))) (zSub_cons (fun _ _ h h' hk => zIR_s (zIR_s (zIR_s (zIR_s (zIR_s (zIR_s (zIR_s (zIR_s (zIR_s (zIR_s (zIR_s (zIR_e (by omega) (by omega) hk)))))))))))) (zSub_cons (fun _ _ h h' hk => zIR_s (zIR_s (zIR_s (zIR_s (zIR_s (zIR_s (zIR_s (zIR_s (zIR_s (zIR_s (zIR_s (zIR_s (zIR_e (by omega) (by omega) hk))))))))))))) (zSub_cons (fun _ _ h h' hk => zIR_s (zIR_s (zIR_s (zIR_s (zIR_s (zIR_s (zIR_s (zIR_s (zIR_s (zIR_s (zIR_s (zIR_s (zIR_s (zIR_e (by omega) (by omega) hk)))))))))))))) zSub_nil)))))))
                show ZW _ _ _ _ _ _ _ (168, [some (.ref 386), some (.int v19_1), some (.int v19_2), some (.int v19_3), o19_4], [], M120)
                refine w_lo dX9_goesOn_168 rfl rfl rfl rfl ?_
                refine w_ic dX9_goesOn_169 zi_0 ?_
                refine w_pfi dX9_goesOn_170 rfl hJ126 zs_386 (Nat.le_of_ble_eq_true rfl) zo_386_45 (by have := zt_0; omega) (by have := zt_0; omega) (zIR_s (zIR_s (zIR_s (zIR_s (zIR_s (zIR_s (zIR_s (zIR_s (zIR_k (by omega) (by omega)))))))))) rfl rfl rfl ?_
                intro M127 hJ128 f129 hn130
                replace hb : zHd _ := hb (zi M127) (zi_zup hn130 f129 rfl zt_0)
                refine w_ic dX9_goesOn_173 zi_1 ?_
                refine w_en dX9_goesOn_174 rfl ?_
                exact ⟨_, _, rfl, (by have := zt_1; omega), (by have := zt_1; omega), hJ128, hb⟩
            · skip
              replace hb : zHd _ := hb.2 h15
              refine w_cne_f dX9_isSign_13 (t := 20) rfl (by have := zt_43; omega) ?_
              refine w_ic dX9_isSign_16 zi_1 ?_
              refine w_gt dX9_isSign_17 (t := 21) rfl ?_
              refine w_en dX9_isSign_21 rfl ?_
              show ZW _ _ _ _ _ _ _ (35, [some (.ref 386), some (.int v19_1), some (.int v19_2), some (.int v19_3), o19_4], [.int 1], M)
              refine w_ine_t dX9_goesOn_35 (t := 74) rfl (by have := zt_1; omega) ?_
              refine w_lo dX9_goesOn_74 rfl rfl rfl rfl ?_
              refine w_lo dX9_goesOn_75 rfl rfl rfl rfl ?_
              refine w_bi dX9_goesOn_76 (c := 43) (by decide) ?_
              refine w_iv dX9_goesOn_78 rfl rfl (As := [.int 43]) rfl rfl hJ.1.1 zs_386 (Nat.le_of_ble_eq_true rfl) ?_
              refine ZV.of (ini := false) rfl (Nat.le_of_ble_eq_true rfl) (by decide +kernel) ?_
              show ZW _ _ _ _ _ _ _ (0, [some (.ref 386), some (.int 43)], [], M)
              refine w_lo dX9_isSign_0 rfl rfl rfl rfl ?_
              refine w_gf dX9_isSign_1 rfl hJ.1.1 zs_386 f7 ?_
              refine w_ic dX9_isSign_4 zi_3 ?_
              refine w_cne_f dX9_isSign_5 (t := 20) rfl (by have := zt_3; omega) ?_
              refine w_lo dX9_isSign_8 rfl rfl rfl rfl ?_
              refine w_gf dX9_isSign_9 rfl hJ.1.1 zs_386 f12 ?_
              refine w_lo dX9_isSign_12 rfl rfl rfl rfl ?_
              refine w_cne_f dX9_isSign_13 (t := 20) rfl (by have := zt_43; omega) ?_
              refine w_ic dX9_isSign_16 zi_1 ?_
              refine w_gt dX9_isSign_17 (t := 21) rfl ?_
              refine w_en dX9_isSign_21 rfl ?_
              show ZW _ _ _ _ _ _ _ (81, [some (.ref 386), some (.int v19_1), some (.int v19_2), some (.int v19_3), o19_4], [.int 1, .ref 386], M)
              refine w_ine_t dX9_goesOn_81 (t := 93) rfl (by have := zt_1; omega) ?_
              refine w_ic dX9_goesOn_93 zi_5 ?_
              refine w_gt dX9_goesOn_94 (t := 99) rfl ?_
              refine w_iv dX9_goesOn_99 rfl rfl (As := [.int 5]) rfl rfl hJ.1.1 zs_386 (Nat.le_of_ble_eq_true rfl) ?_
              obtain ⟨P134, hp135, hb⟩ := hb
              replace hb : zHd _ := hb
              have hp135c : b_2337 (zi M) (5 : Int32).toInt P134 := by rw [zt_5]; exact hp135
              refine ZV.imp (u_2337 5 hN hJ.1 hp135c) ?_
              rintro _ ⟨M132, rfl, hJ133, hq136⟩
              replace hb : zHd _ := hb  (zi M132) (zi_fr hJ133.2) hq136
              have hJ138 := zJ_trans hJ hJ133 (zSub_cons (fun _ _ h h' hk => zIR_a (by omega) (by omega)) (zSub_cons (fun _ _ h h' hk => zIR_s (zIR_s (zIR_s (zIR_e (by omega) (by omega) hk)))) (zSub_cons (fun _ _ h h' hk => zIR_s (zIR_s (zIR_s (zIR_s (zIR_s (zIR_s (zIR_s (zIR_e (by omega) (by omega) hk)))))))) zSub_nil)))
              show ZW _ _ _ _ _ _ _ (102, [some (.ref 386), some (.int v19_1), some (.int v19_2), some (.int v19_3), o19_4], [], M132)
              refine w_lo dX9_goesOn_102 rfl rfl rfl rfl ?_
              refine w_lo dX9_goesOn_103 rfl rfl rfl rfl ?_
              refine w_bi dX9_goesOn_104 (c := 43) (by decide) ?_
              refine w_iv dX9_goesOn_106 rfl rfl (As := [.int 43]) rfl rfl hJ138.1.1 zs_386 (Nat.le_of_ble_eq_true rfl) ?_
              refine ZV.of (ini := false) rfl (Nat.le_of_ble_eq_true rfl) (by decide +kernel) ?_
              show ZW _ _ _ _ _ _ _ (0, [some (.ref 386), some (.int 43)], [], M132)
              refine w_lo dX9_isSign_0 rfl rfl rfl rfl ?_
              have f139 := (hJ133.2 (386) 3 (zNI (by omega) (zNI_k (by decide) (by decide) (zNI_k (by decide) (by decide) zNI_nil)))).trans (f7)
              refine w_gf dX9_isSign_1 rfl hJ138.1.1 zs_386 f139 ?_
              refine w_ic dX9_isSign_4 zi_3 ?_
              refine w_cne_f dX9_isSign_5 (t := 20) rfl (by have := zt_3; omega) ?_
              refine w_lo dX9_isSign_8 rfl rfl rfl rfl ?_
              have f140 := (hJ133.2 (386) 6 (zNI (by omega) (zNI_k (by decide) (by decide) (zNI_k (by decide) (by decide) zNI_nil)))).trans (f12)
              refine w_gf dX9_isSign_9 rfl hJ138.1.1 zs_386 f140 ?_
              refine w_lo dX9_isSign_12 rfl rfl rfl rfl ?_
              refine w_cne_f dX9_isSign_13 (t := 20) rfl (by have := zt_43; omega) ?_
              refine w_ic dX9_isSign_16 zi_1 ?_
              refine w_gt dX9_isSign_17 (t := 21) rfl ?_
              refine w_en dX9_isSign_21 rfl ?_
              show ZW _ _ _ _ _ _ _ (109, [some (.ref 386), some (.int v19_1), some (.int v19_2), some (.int v19_3), o19_4], [.int 1, .ref 386], M132)
              refine w_ieq_f dX9_goesOn_109 (t := 117) rfl (by have := zt_1; omega) ?_
              refine w_bi dX9_goesOn_112 (c := 10) (by decide) ?_
              refine w_gt dX9_goesOn_114 (t := 161) rfl ?_
              refine w_iv dX9_goesOn_161 rfl rfl (As := [.int 10]) rfl rfl hJ138.1.1 zs_386 (Nat.le_of_ble_eq_true rfl) ?_
              obtain ⟨P143, hp144, hb⟩ := hb
              replace hb : zHd _ := hb
              have hp144c : b_2332 (zi M132) (10 : Int32).toInt P143 := by rw [zt_10]; exact hp144
              refine ZV.imp (u_2332 10 hN hJ138.1 hp144c) ?_
              rintro _ ⟨M141, rfl, hJ142, hq145⟩
              replace hb : zHd _ := hb  (zi M141) (zi_fr hJ142.2) hq145
              have hJ147 := zJ_trans hJ138 hJ142 (zSub_cons (fun _ _ h h' hk => zIR_s (zIR_a (by omega) (by omega))) (zSub_cons (fun _ _ h h' hk => zIR_s (zIR_s (zIR_s (zIR_s (zIR_s (zIR_s (zIR_s (zIR_e (by omega) (by omega) hk)))))))) zSub_nil))
              show ZW _ _ _ _ _ _ _ (164, [some (.ref 386), some (.int v19_1), some (.int v19_2), some (.int v19_3), o19_4], [], M141)
              refine w_lo dX9_goesOn_164 rfl rfl rfl rfl ?_
              refine w_iv dX9_goesOn_165 rfl rfl (As := []) rfl rfl hJ147.1.1 zs_386 (Nat.le_of_ble_eq_true rfl) ?_
              obtain ⟨P150, hp151, hb⟩ := hb
              replace hb : zHd _ := hb
              refine ZV.imp (u_2310 hN hJ147.1 hp151) ?_
              rintro _ ⟨M148, rfl, hJ149, hq152⟩
              replace hb : zHd _ := hb  (zi M148) (zi_fr hJ149.2) hq152
              have hJ154 := zJ_trans hJ147 hJ149 (zSub_cons (fun _ _ h h' hk => zIR_s (zIR_s (zIR_e (by omega) (by omega) hk))) (zSub_cons (fun _ _ h h' hk => zIR_s (zIR_s (zIR_s (zIR_s (zIR_e (by omega) (by omega) hk))))) (zSub_cons (fun _ _ h h' hk => zIR_s (zIR_s (zIR_s (zIR_s (zIR_s (zIR_s (zIR_s (zIR_s (zIR_s (zIR_e (by omega) (by omega) hk)))))))))) (zSub_cons (fun _ _ h h' hk => zIR_s (zIR_s (zIR_s (zIR_s (zIR_s (zIR_s (zIR_s (zIR_s (zIR_s (zIR_s (zIR_e (by omega) (by omega) hk))))))))))) (zSub_cons (fun _ _ h h' hk => zIR_s (zIR_s (zIR_s (zIR_s (zIR_s (zIR_s (zIR_s (zIR_s (zIR_s (zIR_s (zIR_s (zIR_e (by omega) (by omega) hk)))))))))))) (zSub_cons (fun _ _ h h' hk => zIR_s (zIR_s (zIR_s (zIR_s (zIR_s (zIR_s (zIR_s (zIR_s (zIR_s (zIR_s (zIR_s (zIR_s (zIR_e (by omega) (by omega) hk))))))))))))) (zSub_cons (fun _ _ h h' hk => zIR_s (zIR_s (zIR_s (zIR_s (zIR_s (zIR_s (zIR_s (zIR_s (zIR_s (zIR_s (zIR_s (zIR_s (zIR_s (zIR_e (by omega) (by omega) hk)))))))))))))) zSub_nil)))))))
              show ZW _ _ _ _ _ _ _ (168, [some (.ref 386), some (.int v19_1), some (.int v19_2), some (.int v19_3), o19_4], [], M148)
              refine w_lo dX9_goesOn_168 rfl rfl rfl rfl ?_
              refine w_ic dX9_goesOn_169 zi_0 ?_
              refine w_pfi dX9_goesOn_170 rfl hJ154 zs_386 (Nat.le_of_ble_eq_true rfl) zo_386_45 (by have := zt_0; omega) (by have := zt_0; omega) (zIR_s (zIR_s (zIR_s (zIR_s (zIR_s (zIR_s (zIR_s (zIR_s (zIR_k (by omega) (by omega)))))))))) rfl rfl rfl ?_
              intro M155 hJ156 f157 hn158
              replace hb : zHd _ := hb (zi M155) (zi_zup hn158 f157 rfl zt_0)
              refine w_ic dX9_goesOn_173 zi_1 ?_
              refine w_en dX9_goesOn_174 rfl ?_
              exact ⟨_, _, rfl, (by have := zt_1; omega), (by have := zt_1; omega), hJ156, hb⟩
        · skip
          replace hb : zHd _ := hb.2 h5
          refine w_cge_t dX9_goesOn_26 (t := 175) rfl (by have := zt_2; omega) ?_
          obtain ⟨m, hm, hI⟩ := hb
          exact (ih m hm).2.1 M v19_1 v19_2 v19_3 o19_4 hJ (by omega) (by omega) (by omega) (by omega) (by omega) (by omega) hI
      · intro M v175_1 v175_2 v175_3 o175_4 hJ v175_10 v175_11 v175_20 v175_21 v175_30 v175_31 hI
        have hb : zHd _ := hb175 n (zi M) v175_1.toInt v175_2.toInt v175_3.toInt (zi_fr hJ.2) v175_10 v175_11 v175_20 v175_21 v175_30 v175_31 hI
        refine w_lo dX9_goesOn_175 rfl rfl rfl rfl ?_
        rcases Int.decEq v175_3.toInt (0 : Int) with h160 | h160
        · skip
          replace hb : zHd _ := hb.1 h160
          refine w_ieq_f dX9_goesOn_176 (t := 272) rfl (by omega) ?_
          refine w_lo dX9_goesOn_179 rfl rfl rfl rfl ?_
          refine w_gf dX9_goesOn_180 rfl hJ.1.1 zs_386 (zr_386_37 hJ.1) ?_
          refine w_lo dX9_goesOn_183 rfl rfl rfl rfl ?_
          refine w_iai dX9_goesOn_184 hJ.1 zs_410 (by omega) (by omega) zu_410 ?_
          intro x164 f161 h162 h163
          replace hb : zHd _ := hb x164.toInt (ziEk f161 rfl) h162 h163
          rcases Int.decEq x164.toInt (0 : Int) with h165 | h165
          · skip
            replace hb : zHd _ := hb.1 h165
            refine w_ine_t dX9_goesOn_185 (t := 272) rfl (by omega) ?_
            obtain ⟨m, hm, hI⟩ := hb
            exact (ih m hm).2.2.1 M v175_1 v175_2 v175_3 o175_4 hJ (by omega) (by omega) (by omega) (by omega) (by omega) (by omega) hI
          · skip
            replace hb : zHd _ := hb.2 h165
            refine w_ine_f dX9_goesOn_185 (t := 272) rfl (by omega) ?_
            refine w_lo dX9_goesOn_188 rfl rfl rfl rfl ?_
            refine w_bi dX9_goesOn_189 (c := 60) (by decide) ?_
            refine w_iv dX9_goesOn_191 rfl rfl (As := [.int 60]) rfl rfl hJ.1.1 zs_386 (Nat.le_of_ble_eq_true rfl) ?_
            refine ZV.of (ini := false) rfl (Nat.le_of_ble_eq_true rfl) (by decide +kernel) ?_
            show ZW _ _ _ _ _ _ _ (0, [some (.ref 386), some (.int 60)], [], M)
            refine w_lo dX9_isSign_0 rfl rfl rfl rfl ?_
            refine w_gfi dX9_isSign_1 rfl hJ.1 zs_386 (Nat.le_of_ble_eq_true rfl) zo_386_3 ?_
            intro x166 f167 h168 h169
            replace hb : zHd _ := hb x166.toInt (ziE f167) h168 h169
            refine w_ic dX9_isSign_4 zi_3 ?_
            rcases Int.decEq x166.toInt (3 : Int) with h170 | h170
            · skip
              replace hb : zHd _ := hb.1 h170
              refine w_cne_t dX9_isSign_5 (t := 20) rfl (by have := zt_3; omega) ?_
              refine w_ic dX9_isSign_20 zi_0 ?_
              refine w_en dX9_isSign_21 rfl ?_
              show ZW _ _ _ _ _ _ _ (194, [some (.ref 386), some (.int v175_1), some (.int v175_2), some (.int v175_3), o175_4], [.int 0], M)
              refine w_ine_f dX9_goesOn_194 (t := 215) rfl (by have := zt_0; omega) ?_
              refine w_lo dX9_goesOn_197 rfl rfl rfl rfl ?_
              refine w_bi dX9_goesOn_198 (c := 62) (by decide) ?_
              refine w_iv dX9_goesOn_200 rfl rfl (As := [.int 62]) rfl rfl hJ.1.1 zs_386 (Nat.le_of_ble_eq_true rfl) ?_
              refine ZV.of (ini := false) rfl (Nat.le_of_ble_eq_true rfl) (by decide +kernel) ?_
              show ZW _ _ _ _ _ _ _ (0, [some (.ref 386), some (.int 62)], [], M)
              refine w_lo dX9_isSign_0 rfl rfl rfl rfl ?_
              refine w_gf dX9_isSign_1 rfl hJ.1.1 zs_386 f167 ?_
              refine w_ic dX9_isSign_4 zi_3 ?_
              refine w_cne_t dX9_isSign_5 (t := 20) rfl (by have := zt_3; omega) ?_
              refine w_ic dX9_isSign_20 zi_0 ?_
              refine w_en dX9_isSign_21 rfl ?_
              show ZW _ _ _ _ _ _ _ (203, [some (.ref 386), some (.int v175_1), some (.int v175_2), some (.int v175_3), o175_4], [.int 0], M)
              refine w_ine_f dX9_goesOn_203 (t := 215) rfl (by have := zt_0; omega) ?_
              refine w_lo dX9_goesOn_206 rfl rfl rfl rfl ?_
              refine w_bi dX9_goesOn_207 (c := 61) (by decide) ?_
              refine w_iv dX9_goesOn_209 rfl rfl (As := [.int 61]) rfl rfl hJ.1.1 zs_386 (Nat.le_of_ble_eq_true rfl) ?_
              refine ZV.of (ini := false) rfl (Nat.le_of_ble_eq_true rfl) (by decide +kernel) ?_
              show ZW _ _ _ _ _ _ _ (0, [some (.ref 386), some (.int 61)], [], M)
              refine w_lo dX9_isSign_0 rfl rfl rfl rfl ?_
              refine w_gf dX9_isSign_1 rfl hJ.1.1 zs_386 f167 ?_
              refine w_ic dX9_isSign_4 zi_3 ?_
              refine w_cne_t dX9_isSign_5 (t := 20) rfl (by have := zt_3; omega) ?_
              refine w_ic dX9_isSign_20 zi_0 ?_
              refine w_en dX9_isSign_21 rfl ?_
              show ZW _ _ _ _ _ _ _ (212, [some (.ref 386), some (.int v175_1), some (.int v175_2), some (.int v175_3), o175_4], [.int 0], M)
              refine w_ieq_t dX9_goesOn_212 (t := 272) rfl (by have := zt_0; omega) ?_
              obtain ⟨m, hm, hI⟩ := hb
              exact (ih m hm).2.2.1 M v175_1 v175_2 v175_3 o175_4 hJ (by omega) (by omega) (by omega) (by omega) (by omega) (by omega) hI
            · skip
              replace hb : zHd _ := hb.2 h170
              refine w_cne_f dX9_isSign_5 (t := 20) rfl (by have := zt_3; omega) ?_
              refine w_lo dX9_isSign_8 rfl rfl rfl rfl ?_
              refine w_gfi dX9_isSign_9 rfl hJ.1 zs_386 (Nat.le_of_ble_eq_true rfl) zo_386_6 ?_
              intro x171 f172 h173 h174
              replace hb : zHd _ := hb x171.toInt (ziE f172)
              refine w_lo dX9_isSign_12 rfl rfl rfl rfl ?_
              rcases Int.decEq x171.toInt (60 : Int) with h175 | h175
              · skip
                replace hb : zHd _ := hb.1 h175
                refine w_cne_t dX9_isSign_13 (t := 20) rfl (by have := zt_60; omega) ?_
                refine w_ic dX9_isSign_20 zi_0 ?_
                refine w_en dX9_isSign_21 rfl ?_
                show ZW _ _ _ _ _ _ _ (194, [some (.ref 386), some (.int v175_1), some (.int v175_2), some (.int v175_3), o175_4], [.int 0], M)
                refine w_ine_f dX9_goesOn_194 (t := 215) rfl (by have := zt_0; omega) ?_
                refine w_lo dX9_goesOn_197 rfl rfl rfl rfl ?_
                refine w_bi dX9_goesOn_198 (c := 62) (by decide) ?_
                refine w_iv dX9_goesOn_200 rfl rfl (As := [.int 62]) rfl rfl hJ.1.1 zs_386 (Nat.le_of_ble_eq_true rfl) ?_
                refine ZV.of (ini := false) rfl (Nat.le_of_ble_eq_true rfl) (by decide +kernel) ?_
                show ZW _ _ _ _ _ _ _ (0, [some (.ref 386), some (.int 62)], [], M)
                refine w_lo dX9_isSign_0 rfl rfl rfl rfl ?_
                refine w_gf dX9_isSign_1 rfl hJ.1.1 zs_386 f167 ?_
                refine w_ic dX9_isSign_4 zi_3 ?_
                refine w_cne_f dX9_isSign_5 (t := 20) rfl (by have := zt_3; omega) ?_
                refine w_lo dX9_isSign_8 rfl rfl rfl rfl ?_
                refine w_gf dX9_isSign_9 rfl hJ.1.1 zs_386 f172 ?_
                refine w_lo dX9_isSign_12 rfl rfl rfl rfl ?_
                rcases Int.decEq x171.toInt (62 : Int) with h176 | h176
                · skip
                  replace hb : zHd _ := hb.1 h176
                  refine w_cne_t dX9_isSign_13 (t := 20) rfl (by have := zt_62; omega) ?_
                  refine w_ic dX9_isSign_20 zi_0 ?_
                  refine w_en dX9_isSign_21 rfl ?_
                  show ZW _ _ _ _ _ _ _ (203, [some (.ref 386), some (.int v175_1), some (.int v175_2), some (.int v175_3), o175_4], [.int 0], M)
                  refine w_ine_f dX9_goesOn_203 (t := 215) rfl (by have := zt_0; omega) ?_
                  refine w_lo dX9_goesOn_206 rfl rfl rfl rfl ?_
                  refine w_bi dX9_goesOn_207 (c := 61) (by decide) ?_
                  refine w_iv dX9_goesOn_209 rfl rfl (As := [.int 61]) rfl rfl hJ.1.1 zs_386 (Nat.le_of_ble_eq_true rfl) ?_
                  refine ZV.of (ini := false) rfl (Nat.le_of_ble_eq_true rfl) (by decide +kernel) ?_
                  show ZW _ _ _ _ _ _ _ (0, [some (.ref 386), some (.int 61)], [], M)
                  refine w_lo dX9_isSign_0 rfl rfl rfl rfl ?_
                  refine w_gf dX9_isSign_1 rfl hJ.1.1 zs_386 f167 ?_
                  refine w_ic dX9_isSign_4 zi_3 ?_
                  refine w_cne_f dX9_isSign_5 (t := 20) rfl (by have := zt_3; omega) ?_
                  refine w_lo dX9_isSign_8 rfl rfl rfl rfl ?_
                  refine w_gf dX9_isSign_9 rfl hJ.1.1 zs_386 f172 ?_
                  refine w_lo dX9_isSign_12 rfl rfl rfl rfl ?_
                  rcases Int.decEq x171.toInt (61 : Int) with h177 | h177
                  · skip
                    replace hb : zHd _ := hb.1 h177
                    refine w_cne_t dX9_isSign_13 (t := 20) rfl (by have := zt_61; omega) ?_
                    refine w_ic dX9_isSign_20 zi_0 ?_
                    refine w_en dX9_isSign_21 rfl ?_
                    show ZW _ _ _ _ _ _ _ (212, [some (.ref 386), some (.int v175_1), some (.int v175_2), some (.int v175_3), o175_4], [.int 0], M)
                    refine w_ieq_t dX9_goesOn_212 (t := 272) rfl (by have := zt_0; omega) ?_
                    obtain ⟨m, hm, hI⟩ := hb
                    exact (ih m hm).2.2.1 M v175_1 v175_2 v175_3 o175_4 hJ (by omega) (by omega) (by omega) (by omega) (by omega) (by omega) hI
                  · skip
                    replace hb : zHd _ := hb.2 h177
                    refine w_cne_f dX9_isSign_13 (t := 20) rfl (by have := zt_61; omega) ?_
                    refine w_ic dX9_isSign_16 zi_1 ?_
                    refine w_gt dX9_isSign_17 (t := 21) rfl ?_
                    refine w_en dX9_isSign_21 rfl ?_
                    show ZW _ _ _ _ _ _ _ (212, [some (.ref 386), some (.int v175_1), some (.int v175_2), some (.int v175_3), o175_4], [.int 1], M)
                    refine w_ieq_f dX9_goesOn_212 (t := 272) rfl (by have := zt_1; omega) ?_
                    refine w_lo dX9_goesOn_215 rfl rfl rfl rfl ?_
                    refine w_ic dX9_goesOn_216 zi_5 ?_
                    refine w_iv dX9_goesOn_217 rfl rfl (As := [.int 5]) rfl rfl hJ.1.1 zs_386 (Nat.le_of_ble_eq_true rfl) ?_
                    obtain ⟨P180, hp181, hb⟩ := hb
                    replace hb : zHd _ := hb
                    have hp181c : b_2337 (zi M) (5 : Int32).toInt P180 := by rw [zt_5]; exact hp181
                    refine ZV.imp (u_2337 5 hN hJ.1 hp181c) ?_
                    rintro _ ⟨M178, rfl, hJ179, hq182⟩
                    replace hb : zHd _ := hb  (zi M178) (zi_fr hJ179.2) hq182
                    have hJ184 := zJ_trans hJ hJ179 (zSub_cons (fun _ _ h h' hk => zIR_a (by omega) (by omega)) (zSub_cons (fun _ _ h h' hk => zIR_s (zIR_s (zIR_s (zIR_e (by omega) (by omega) hk)))) (zSub_cons (fun _ _ h h' hk => zIR_s (zIR_s (zIR_s (zIR_s (zIR_s (zIR_s (zIR_s (zIR_e (by omega) (by omega) hk)))))))) zSub_nil)))
                    show ZW _ _ _ _ _ _ _ (220, [some (.ref 386), some (.int v175_1), some (.int v175_2), some (.int v175_3), o175_4], [], M178)
                    refine w_lo dX9_goesOn_220 rfl rfl rfl rfl ?_
                    refine w_lo dX9_goesOn_221 rfl rfl rfl rfl ?_
                    refine w_bi dX9_goesOn_222 (c := 60) (by decide) ?_
                    refine w_iv dX9_goesOn_224 rfl rfl (As := [.int 60]) rfl rfl hJ184.1.1 zs_386 (Nat.le_of_ble_eq_true rfl) ?_
                    refine ZV.of (ini := false) rfl (Nat.le_of_ble_eq_true rfl) (by decide +kernel) ?_
                    show ZW _ _ _ _ _ _ _ (0, [some (.ref 386), some (.int 60)], [], M178)
                    refine w_lo dX9_isSign_0 rfl rfl rfl rfl ?_
                    have f185 := (hJ179.2 (386) 3 (zNI (by omega) (zNI_k (by decide) (by decide) (zNI_k (by decide) (by decide) zNI_nil)))).trans (f167)
                    refine w_gf dX9_isSign_1 rfl hJ184.1.1 zs_386 f185 ?_
                    refine w_ic dX9_isSign_4 zi_3 ?_
                    refine w_cne_f dX9_isSign_5 (t := 20) rfl (by have := zt_3; omega) ?_
                    refine w_lo dX9_isSign_8 rfl rfl rfl rfl ?_
                    have f186 := (hJ179.2 (386) 6 (zNI (by omega) (zNI_k (by decide) (by decide) (zNI_k (by decide) (by decide) zNI_nil)))).trans (f172)
                    refine w_gf dX9_isSign_9 rfl hJ184.1.1 zs_386 f186 ?_
                    refine w_lo dX9_isSign_12 rfl rfl rfl rfl ?_
                    refine w_cne_t dX9_isSign_13 (t := 20) rfl (by have := zt_60; omega) ?_
                    refine w_ic dX9_isSign_20 zi_0 ?_
                    refine w_en dX9_isSign_21 rfl ?_
                    show ZW _ _ _ _ _ _ _ (227, [some (.ref 386), some (.int v175_1), some (.int v175_2), some (.int v175_3), o175_4], [.int 0, .ref 386], M178)
                    refine w_ieq_t dX9_goesOn_227 (t := 235) rfl (by have := zt_0; omega) ?_
                    refine w_lo dX9_goesOn_235 rfl rfl rfl rfl ?_
                    refine w_bi dX9_goesOn_236 (c := 62) (by decide) ?_
                    refine w_iv dX9_goesOn_238 rfl rfl (As := [.int 62]) rfl rfl hJ184.1.1 zs_386 (Nat.le_of_ble_eq_true rfl) ?_
                    refine ZV.of (ini := false) rfl (Nat.le_of_ble_eq_true rfl) (by decide +kernel) ?_
                    show ZW _ _ _ _ _ _ _ (0, [some (.ref 386), some (.int 62)], [], M178)
                    refine w_lo dX9_isSign_0 rfl rfl rfl rfl ?_
                    refine w_gf dX9_isSign_1 rfl hJ184.1.1 zs_386 f185 ?_
                    refine w_ic dX9_isSign_4 zi_3 ?_
                    refine w_cne_f dX9_isSign_5 (t := 20) rfl (by have := zt_3; omega) ?_
                    refine w_lo dX9_isSign_8 rfl rfl rfl rfl ?_
                    refine w_gf dX9_isSign_9 rfl hJ184.1.1 zs_386 f186 ?_
                    refine w_lo dX9_isSign_12 rfl rfl rfl rfl ?_
                    refine w_cne_t dX9_isSign_13 (t := 20) rfl (by have := zt_62; omega) ?_
                    refine w_ic dX9_isSign_20 zi_0 ?_
                    refine w_en dX9_isSign_21 rfl ?_
                    show ZW _ _ _ _ _ _ _ (241, [some (.ref 386), some (.int v175_1), some (.int v175_2), some (.int v175_3), o175_4], [.int 0, .ref 386], M178)
                    refine w_ieq_t dX9_goesOn_241 (t := 249) rfl (by have := zt_0; omega) ?_
                    refine w_bi dX9_goesOn_249 (c := 19) (by decide) ?_
                    refine w_iv dX9_goesOn_251 rfl rfl (As := [.int 19]) rfl rfl hJ184.1.1 zs_386 (Nat.le_of_ble_eq_true rfl) ?_
                    obtain ⟨P189, hp190, hb⟩ := hb
                    replace hb : zHd _ := hb
                    have hp190c : b_2332 (zi M178) (19 : Int32).toInt P189 := by rw [zt_19]; exact hp190
                    refine ZV.imp (u_2332 19 hN hJ184.1 hp190c) ?_
                    rintro _ ⟨M187, rfl, hJ188, hq191⟩
                    replace hb : zHd _ := hb  (zi M187) (zi_fr hJ188.2) hq191
                    have hJ193 := zJ_trans hJ184 hJ188 (zSub_cons (fun _ _ h h' hk => zIR_s (zIR_a (by omega) (by omega))) (zSub_cons (fun _ _ h h' hk => zIR_s (zIR_s (zIR_s (zIR_s (zIR_s (zIR_s (zIR_s (zIR_e (by omega) (by omega) hk)))))))) zSub_nil))
                    show ZW _ _ _ _ _ _ _ (254, [some (.ref 386), some (.int v175_1), some (.int v175_2), some (.int v175_3), o175_4], [], M187)
                    refine w_lo dX9_goesOn_254 rfl rfl rfl rfl ?_
                    refine w_gf dX9_goesOn_255 rfl hJ193.1.1 zs_386 (zr_386_37 hJ193.1) ?_
                    refine w_lo dX9_goesOn_258 rfl rfl rfl rfl ?_
                    refine w_ic dX9_goesOn_259 zi_1 ?_
                    refine w_isi dX9_goesOn_260 hJ193 zs_410 (by omega) (by omega) zu_410 (by have := zt_1; omega) (by have := zt_1; omega) (zIR_a (by omega) (by omega)) ?_
                    intro M194 hJ195 f196 hn197
                    replace hb : zHd _ := hb (zi M194) (zi_zup hn197 f196 rfl zt_1)
                    refine w_lo dX9_goesOn_261 rfl rfl rfl rfl ?_
                    refine w_iv dX9_goesOn_262 rfl rfl (As := []) rfl rfl hJ195.1.1 zs_386 (Nat.le_of_ble_eq_true rfl) ?_
                    obtain ⟨P201, hp202, hb⟩ := hb
                    replace hb : zHd _ := hb
                    refine ZV.imp (u_2310 hN hJ195.1 hp202) ?_
                    rintro _ ⟨M199, rfl, hJ200, hq203⟩
                    replace hb : zHd _ := hb  (zi M199) (zi_fr hJ200.2) hq203
                    have hJ205 := zJ_trans hJ195 hJ200 (zSub_cons (fun _ _ h h' hk => zIR_s (zIR_s (zIR_e (by omega) (by omega) hk))) (zSub_cons (fun _ _ h h' hk => zIR_s (zIR_s (zIR_s (zIR_s (zIR_e (by omega) (by omega) hk))))) (zSub_cons (fun _ _ h h' hk => zIR_s (zIR_s (zIR_s (zIR_s (zIR_s (zIR_s (zIR_s (zIR_s (zIR_s (zIR_e (by omega) (by omega) hk)))))))))) (zSub_cons (fun _ _ h h' hk => zIR_s (zIR_s (zIR_s (zIR_s (zIR_s (zIR_s (zIR_s (zIR_s (zIR_s (zIR_s (zIR_e (by omega) (by omega) hk))))))))))) (zSub_cons (fun _ _ h h' hk => zIR_s (zIR_s (zIR_s (zIR_s (zIR_s (zIR_s (zIR_s (zIR_s (zIR_s (zIR_s (zIR_s (zIR_e (by omega) (by omega) hk)))))))))))) (zSub_cons (fun _ _ h h' hk => zIR_s (zIR_s (zIR_s (zIR_s (zIR_s (zIR_s (zIR_s (zIR_s (zIR_s (zIR_s (zIR_s (zIR_s (zIR_e (by omega) (by omega) hk))))))))))))) (zSub_cons (fun _ _ h h' hk => zIR_s (zIR_s (zIR_s (zIR_s (zIR_s (zIR_s (zIR_s (zIR_s (zIR_s (zIR_s (zIR_s (zIR_s (zIR_s (zIR_e (by omega) (by omega) hk)))))))))))))) zSub_nil)))))))
                    show ZW _ _ _ _ _ _ _ (265, [some (.ref 386), some (.int v175_1), some (.int v175_2), some (.int v175_3), o175_4], [], M199)
                    refine w_lo dX9_goesOn_265 rfl rfl rfl rfl ?_
                    refine w_ic dX9_goesOn_266 zi_0 ?_
                    refine w_pfi dX9_goesOn_267 rfl hJ205 zs_386 (Nat.le_of_ble_eq_true rfl) zo_386_45 (by have := zt_0; omega) (by have := zt_0; omega) (zIR_s (zIR_s (zIR_s (zIR_s (zIR_s (zIR_s (zIR_s (zIR_s (zIR_k (by omega) (by omega)))))))))) rfl rfl rfl ?_
                    intro M206 hJ207 f208 hn209
                    replace hb : zHd _ := hb (zi M206) (zi_zup hn209 f208 rfl zt_0)
                    refine w_ic dX9_goesOn_270 zi_1 ?_
                    refine w_en dX9_goesOn_271 rfl ?_
                    exact ⟨_, _, rfl, (by have := zt_1; omega), (by have := zt_1; omega), hJ207, hb⟩
                · skip
                  replace hb : zHd _ := hb.2 h176
                  refine w_cne_f dX9_isSign_13 (t := 20) rfl (by have := zt_62; omega) ?_
                  refine w_ic dX9_isSign_16 zi_1 ?_
                  refine w_gt dX9_isSign_17 (t := 21) rfl ?_
                  refine w_en dX9_isSign_21 rfl ?_
                  show ZW _ _ _ _ _ _ _ (203, [some (.ref 386), some (.int v175_1), some (.int v175_2), some (.int v175_3), o175_4], [.int 1], M)
                  refine w_ine_t dX9_goesOn_203 (t := 215) rfl (by have := zt_1; omega) ?_
                  refine w_lo dX9_goesOn_215 rfl rfl rfl rfl ?_
                  refine w_ic dX9_goesOn_216 zi_5 ?_
                  refine w_iv dX9_goesOn_217 rfl rfl (As := [.int 5]) rfl rfl hJ.1.1 zs_386 (Nat.le_of_ble_eq_true rfl) ?_
                  obtain ⟨P213, hp214, hb⟩ := hb
                  replace hb : zHd _ := hb
                  have hp214c : b_2337 (zi M) (5 : Int32).toInt P213 := by rw [zt_5]; exact hp214
                  refine ZV.imp (u_2337 5 hN hJ.1 hp214c) ?_
                  rintro _ ⟨M211, rfl, hJ212, hq215⟩
                  replace hb : zHd _ := hb  (zi M211) (zi_fr hJ212.2) hq215
                  have hJ217 := zJ_trans hJ hJ212 (zSub_cons (fun _ _ h h' hk => zIR_a (by omega) (by omega)) (zSub_cons (fun _ _ h h' hk => zIR_s (zIR_s (zIR_s (zIR_e (by omega) (by omega) hk)))) (zSub_cons (fun _ _ h h' hk => zIR_s (zIR_s (zIR_s (zIR_s (zIR_s (zIR_s (zIR_s (zIR_e (by omega) (by omega) hk)))))))) zSub_nil)))
                  show ZW _ _ _ _ _ _ _ (220, [some (.ref 386), some (.int v175_1), some (.int v175_2), some (.int v175_3), o175_4], [], M211)
                  refine w_lo dX9_goesOn_220 rfl rfl rfl rfl ?_
                  refine w_lo dX9_goesOn_221 rfl rfl rfl rfl ?_
                  refine w_bi dX9_goesOn_222 (c := 60) (by decide) ?_
                  refine w_iv dX9_goesOn_224 rfl rfl (As := [.int 60]) rfl rfl hJ217.1.1 zs_386 (Nat.le_of_ble_eq_true rfl) ?_
                  refine ZV.of (ini := false) rfl (Nat.le_of_ble_eq_true rfl) (by decide +kernel) ?_
                  show ZW _ _ _ _ _ _ _ (0, [some (.ref 386), some (.int 60)], [], M211)
                  refine w_lo dX9_isSign_0 rfl rfl rfl rfl ?_
                  have f218 := (hJ212.2 (386) 3 (zNI (by omega) (zNI_k (by decide) (by decide) (zNI_k (by decide) (by decide) zNI_nil)))).trans (f167)
                  refine w_gf dX9_isSign_1 rfl hJ217.1.1 zs_386 f218 ?_
                  refine w_ic dX9_isSign_4 zi_3 ?_
                  refine w_cne_f dX9_isSign_5 (t := 20) rfl (by have := zt_3; omega) ?_
                  refine w_lo dX9_isSign_8 rfl rfl rfl rfl ?_
                  have f219 := (hJ212.2 (386) 6 (zNI (by omega) (zNI_k (by decide) (by decide) (zNI_k (by decide) (by decide) zNI_nil)))).trans (f172)
                  refine w_gf dX9_isSign_9 rfl hJ217.1.1 zs_386 f219 ?_
                  refine w_lo dX9_isSign_12 rfl rfl rfl rfl ?_
                  refine w_cne_t dX9_isSign_13 (t := 20) rfl (by have := zt_60; omega) ?_
                  refine w_ic dX9_isSign_20 zi_0 ?_
                  refine w_en dX9_isSign_21 rfl ?_
                  show ZW _ _ _ _ _ _ _ (227, [some (.ref 386), some (.int v175_1), some (.int v175_2), some (.int v175_3), o175_4], [.int 0, .ref 386], M211)
                  refine w_ieq_t dX9_goesOn_227 (t := 235) rfl (by have := zt_0; omega) ?_
                  refine w_lo dX9_goesOn_235 rfl rfl rfl rfl ?_
                  refine w_bi dX9_goesOn_236 (c := 62) (by decide) ?_
                  refine w_iv dX9_goesOn_238 rfl rfl (As := [.int 62]) rfl rfl hJ217.1.1 zs_386 (Nat.le_of_ble_eq_true rfl) ?_
                  refine ZV.of (ini := false) rfl (Nat.le_of_ble_eq_true rfl) (by decide +kernel) ?_
                  show ZW _ _ _ _ _ _ _ (0, [some (.ref 386), some (.int 62)], [], M211)
                  refine w_lo dX9_isSign_0 rfl rfl rfl rfl ?_
                  refine w_gf dX9_isSign_1 rfl hJ217.1.1 zs_386 f218 ?_
                  refine w_ic dX9_isSign_4 zi_3 ?_
                  refine w_cne_f dX9_isSign_5 (t := 20) rfl (by have := zt_3; omega) ?_
                  refine w_lo dX9_isSign_8 rfl rfl rfl rfl ?_
                  refine w_gf dX9_isSign_9 rfl hJ217.1.1 zs_386 f219 ?_
                  refine w_lo dX9_isSign_12 rfl rfl rfl rfl ?_
                  refine w_cne_f dX9_isSign_13 (t := 20) rfl (by have := zt_62; omega) ?_
                  refine w_ic dX9_isSign_16 zi_1 ?_
                  refine w_gt dX9_isSign_17 (t := 21) rfl ?_
                  refine w_en dX9_isSign_21 rfl ?_
                  show ZW _ _ _ _ _ _ _ (241, [some (.ref 386), some (.int v175_1), some (.int v175_2), some (.int v175_3), o175_4], [.int 1, .ref 386], M211)
                  refine w_ieq_f dX9_goesOn_241 (t := 249) rfl (by have := zt_1; omega) ?_
                  refine w_bi dX9_goesOn_244 (c := 18) (by decide) ?_
                  refine w_gt dX9_goesOn_246 (t := 251) rfl ?_
                  refine w_iv dX9_goesOn_251 rfl rfl (As := [.int 18]) rfl rfl hJ217.1.1 zs_386 (Nat.le_of_ble_eq_true rfl) ?_
                  obtain ⟨P222, hp223, hb⟩ := hb
                  replace hb : zHd _ := hb
                  have hp223c : b_2332 (zi M211) (18 : Int32).toInt P222 := by rw [zt_18]; exact hp223
                  refine ZV.imp (u_2332 18 hN hJ217.1 hp223c) ?_
                  rintro _ ⟨M220, rfl, hJ221, hq224⟩
                  replace hb : zHd _ := hb  (zi M220) (zi_fr hJ221.2) hq224
                  have hJ226 := zJ_trans hJ217 hJ221 (zSub_cons (fun _ _ h h' hk => zIR_s (zIR_a (by omega) (by omega))) (zSub_cons (fun _ _ h h' hk => zIR_s (zIR_s (zIR_s (zIR_s (zIR_s (zIR_s (zIR_s (zIR_e (by omega) (by omega) hk)))))))) zSub_nil))
                  show ZW _ _ _ _ _ _ _ (254, [some (.ref 386), some (.int v175_1), some (.int v175_2), some (.int v175_3), o175_4], [], M220)
                  refine w_lo dX9_goesOn_254 rfl rfl rfl rfl ?_
                  refine w_gf dX9_goesOn_255 rfl hJ226.1.1 zs_386 (zr_386_37 hJ226.1) ?_
                  refine w_lo dX9_goesOn_258 rfl rfl rfl rfl ?_
                  refine w_ic dX9_goesOn_259 zi_1 ?_
                  refine w_isi dX9_goesOn_260 hJ226 zs_410 (by omega) (by omega) zu_410 (by have := zt_1; omega) (by have := zt_1; omega) (zIR_a (by omega) (by omega)) ?_
                  intro M227 hJ228 f229 hn230
                  replace hb : zHd _ := hb (zi M227) (zi_zup hn230 f229 rfl zt_1)
                  refine w_lo dX9_goesOn_261 rfl rfl rfl rfl ?_
                  refine w_iv dX9_goesOn_262 rfl rfl (As := []) rfl rfl hJ228.1.1 zs_386 (Nat.le_of_ble_eq_true rfl) ?_
                  obtain ⟨P234, hp235, hb⟩ := hb
                  replace hb : zHd _ := hb
                  refine ZV.imp (u_2310 hN hJ228.1 hp235) ?_
                  rintro _ ⟨M232, rfl, hJ233, hq236⟩
                  replace hb : zHd _ := hb  (zi M232) (zi_fr hJ233.2) hq236
                  have hJ238 := zJ_trans hJ228 hJ233 (zSub_cons (fun _ _ h h' hk => zIR_s (zIR_s (zIR_e (by omega) (by omega) hk))) (zSub_cons (fun _ _ h h' hk => zIR_s (zIR_s (zIR_s (zIR_s (zIR_e (by omega) (by omega) hk))))) (zSub_cons (fun _ _ h h' hk => zIR_s (zIR_s (zIR_s (zIR_s (zIR_s (zIR_s (zIR_s (zIR_s (zIR_s (zIR_e (by omega) (by omega) hk)))))))))) (zSub_cons (fun _ _ h h' hk => zIR_s (zIR_s (zIR_s (zIR_s (zIR_s (zIR_s (zIR_s (zIR_s (zIR_s (zIR_s (zIR_e (by omega) (by omega) hk))))))))))) (zSub_cons (fun _ _ h h' hk => zIR_s (zIR_s (zIR_s (zIR_s (zIR_s (zIR_s (zIR_s (zIR_s (zIR_s (zIR_s (zIR_s (zIR_e (by omega) (by omega) hk)))))))))))) (zSub_cons (fun _ _ h h' hk => zIR_s (zIR_s (zIR_s (zIR_s (zIR_s (zIR_s (zIR_s (zIR_s (zIR_s (zIR_s (zIR_s (zIR_s (zIR_e (by omega) (by omega) hk))))))))))))) (zSub_cons (fun _ _ h h' hk => zIR_s (zIR_s (zIR_s (zIR_s (zIR_s (zIR_s (zIR_s (zIR_s (zIR_s (zIR_s (zIR_s (zIR_s (zIR_s (zIR_e (by omega) (by omega) hk)))))))))))))) zSub_nil)))))))
                  show ZW _ _ _ _ _ _ _ (265, [some (.ref 386), some (.int v175_1), some (.int v175_2), some (.int v175_3), o175_4], [], M232)
                  refine w_lo dX9_goesOn_265 rfl rfl rfl rfl ?_
                  refine w_ic dX9_goesOn_266 zi_0 ?_
                  refine w_pfi dX9_goesOn_267 rfl hJ238 zs_386 (Nat.le_of_ble_eq_true rfl) zo_386_45 (by have := zt_0; omega) (by have := zt_0; omega) (zIR_s (zIR_s (zIR_s (zIR_s (zIR_s (zIR_s (zIR_s (zIR_s (zIR_k (by omega) (by omega)))))))))) rfl rfl rfl ?_
                  intro M239 hJ240 f241 hn242
                  replace hb : zHd _ := hb (zi M239) (zi_zup hn242 f241 rfl zt_0)
                  refine w_ic dX9_goesOn_270 zi_1 ?_
                  refine w_en dX9_goesOn_271 rfl ?_
                  exact ⟨_, _, rfl, (by have := zt_1; omega), (by have := zt_1; omega), hJ240, hb⟩
              · skip
                replace hb : zHd _ := hb.2 h175
                refine w_cne_f dX9_isSign_13 (t := 20) rfl (by have := zt_60; omega) ?_
                refine w_ic dX9_isSign_16 zi_1 ?_
                refine w_gt dX9_isSign_17 (t := 21) rfl ?_
                refine w_en dX9_isSign_21 rfl ?_
                show ZW _ _ _ _ _ _ _ (194, [some (.ref 386), some (.int v175_1), some (.int v175_2), some (.int v175_3), o175_4], [.int 1], M)
                refine w_ine_t dX9_goesOn_194 (t := 215) rfl (by have := zt_1; omega) ?_
                refine w_lo dX9_goesOn_215 rfl rfl rfl rfl ?_
                refine w_ic dX9_goesOn_216 zi_5 ?_
                refine w_iv dX9_goesOn_217 rfl rfl (As := [.int 5]) rfl rfl hJ.1.1 zs_386 (Nat.le_of_ble_eq_true rfl) ?_
                obtain ⟨P246, hp247, hb⟩ := hb
                replace hb : zHd _ := hb
                have hp247c : b_2337 (zi M) (5 : Int32).toInt P246 := by rw [zt_5]; exact hp247
                refine ZV.imp (u_2337 5 hN hJ.1 hp247c) ?_
                rintro _ ⟨M244, rfl, hJ245, hq248⟩
                replace hb : zHd _ := hb  (zi M244) (zi_fr hJ245.2) hq248
                have hJ250 := zJ_trans hJ hJ245 (zSub_cons (fun _ _ h h' hk => zIR_a (by omega) (by omega)) (zSub_cons (fun _ _ h h' hk => zIR_s (zIR_s (zIR_s (zIR_e (by omega) (by omega) hk)))) (zSub_cons (fun _ _ h h' hk => zIR_s (zIR_s (zIR_s (zIR_s (zIR_s (zIR_s (zIR_s (zIR_e (by omega) (by omega) hk)))))))) zSub_nil)))
                show ZW _ _ _ _ _ _ _ (220, [some (.ref 386), some (.int v175_1), some (.int v175_2), some (.int v175_3), o175_4], [], M244)
                refine w_lo dX9_goesOn_220 rfl rfl rfl rfl ?_
                refine w_lo dX9_goesOn_221 rfl rfl rfl rfl ?_
                refine w_bi dX9_goesOn_222 (c := 60) (by decide) ?_
                refine w_iv dX9_goesOn_224 rfl rfl (As := [.int 60]) rfl rfl hJ250.1.1 zs_386 (Nat.le_of_ble_eq_true rfl) ?_
                refine ZV.of (ini := false) rfl (Nat.le_of_ble_eq_true rfl) (by decide +kernel) ?_
                show ZW _ _ _ _ _ _ _ (0, [some (.ref 386), some (.int 60)], [], M244)
                refine w_lo dX9_isSign_0 rfl rfl rfl rfl ?_
                have f251 := (hJ245.2 (386) 3 (zNI (by omega) (zNI_k (by decide) (by decide) (zNI_k (by decide) (by decide) zNI_nil)))).trans (f167)
                refine w_gf dX9_isSign_1 rfl hJ250.1.1 zs_386 f251 ?_
                refine w_ic dX9_isSign_4 zi_3 ?_
                refine w_cne_f dX9_isSign_5 (t := 20) rfl (by have := zt_3; omega) ?_
                refine w_lo dX9_isSign_8 rfl rfl rfl rfl ?_
                have f252 := (hJ245.2 (386) 6 (zNI (by omega) (zNI_k (by decide) (by decide) (zNI_k (by decide) (by decide) zNI_nil)))).trans (f172)
                refine w_gf dX9_isSign_9 rfl hJ250.1.1 zs_386 f252 ?_
                refine w_lo dX9_isSign_12 rfl rfl rfl rfl ?_
                refine w_cne_f dX9_isSign_13 (t := 20) rfl (by have := zt_60; omega) ?_
                refine w_ic dX9_isSign_16 zi_1 ?_
                refine w_gt dX9_isSign_17 (t := 21) rfl ?_
                refine w_en dX9_isSign_21 rfl ?_
                show ZW _ _ _ _ _ _ _ (227, [some (.ref 386), some (.int v175_1), some (.int v175_2), some (.int v175_3), o175_4], [.int 1, .ref 386], M244)
                refine w_ieq_f dX9_goesOn_227 (t := 235) rfl (by have := zt_1; omega) ?_
                refine w_bi dX9_goesOn_230 (c := 17) (by decide) ?_
                refine w_gt dX9_goesOn_232 (t := 251) rfl ?_
                refine w_iv dX9_goesOn_251 rfl rfl (As := [.int 17]) rfl rfl hJ250.1.1 zs_386 (Nat.le_of_ble_eq_true rfl) ?_
                obtain ⟨P255, hp256, hb⟩ := hb
                replace hb : zHd _ := hb
                have hp256c : b_2332 (zi M244) (17 : Int32).toInt P255 := by rw [zt_17]; exact hp256
                refine ZV.imp (u_2332 17 hN hJ250.1 hp256c) ?_
                rintro _ ⟨M253, rfl, hJ254, hq257⟩
                replace hb : zHd _ := hb  (zi M253) (zi_fr hJ254.2) hq257
                have hJ259 := zJ_trans hJ250 hJ254 (zSub_cons (fun _ _ h h' hk => zIR_s (zIR_a (by omega) (by omega))) (zSub_cons (fun _ _ h h' hk => zIR_s (zIR_s (zIR_s (zIR_s (zIR_s (zIR_s (zIR_s (zIR_e (by omega) (by omega) hk)))))))) zSub_nil))
                show ZW _ _ _ _ _ _ _ (254, [some (.ref 386), some (.int v175_1), some (.int v175_2), some (.int v175_3), o175_4], [], M253)
                refine w_lo dX9_goesOn_254 rfl rfl rfl rfl ?_
                refine w_gf dX9_goesOn_255 rfl hJ259.1.1 zs_386 (zr_386_37 hJ259.1) ?_
                refine w_lo dX9_goesOn_258 rfl rfl rfl rfl ?_
                refine w_ic dX9_goesOn_259 zi_1 ?_
                refine w_isi dX9_goesOn_260 hJ259 zs_410 (by omega) (by omega) zu_410 (by have := zt_1; omega) (by have := zt_1; omega) (zIR_a (by omega) (by omega)) ?_
                intro M260 hJ261 f262 hn263
                replace hb : zHd _ := hb (zi M260) (zi_zup hn263 f262 rfl zt_1)
                refine w_lo dX9_goesOn_261 rfl rfl rfl rfl ?_
                refine w_iv dX9_goesOn_262 rfl rfl (As := []) rfl rfl hJ261.1.1 zs_386 (Nat.le_of_ble_eq_true rfl) ?_
                obtain ⟨P267, hp268, hb⟩ := hb
                replace hb : zHd _ := hb
                refine ZV.imp (u_2310 hN hJ261.1 hp268) ?_
                rintro _ ⟨M265, rfl, hJ266, hq269⟩
                replace hb : zHd _ := hb  (zi M265) (zi_fr hJ266.2) hq269
                have hJ271 := zJ_trans hJ261 hJ266 (zSub_cons (fun _ _ h h' hk => zIR_s (zIR_s (zIR_e (by omega) (by omega) hk))) (zSub_cons (fun _ _ h h' hk => zIR_s (zIR_s (zIR_s (zIR_s (zIR_e (by omega) (by omega) hk))))) (zSub_cons (fun _ _ h h' hk => zIR_s (zIR_s (zIR_s (zIR_s (zIR_s (zIR_s (zIR_s (zIR_s (zIR_s (zIR_e (by omega) (by omega) hk)))))))))) (zSub_cons (fun _ _ h h' hk => zIR_s (zIR_s (zIR_s (zIR_s (zIR_s (zIR_s (zIR_s (zIR_s (zIR_s (zIR_s (zIR_e (by omega) (by omega) hk))))))))))) (zSub_cons (fun _ _ h h' hk => zIR_s (zIR_s (zIR_s (zIR_s (zIR_s (zIR_s (zIR_s (zIR_s (zIR_s (zIR_s (zIR_s (zIR_e (by omega) (by omega) hk)))))))))))) (zSub_cons (fun _ _ h h' hk => zIR_s (zIR_s (zIR_s (zIR_s (zIR_s (zIR_s (zIR_s (zIR_s (zIR_s (zIR_s (zIR_s (zIR_s (zIR_e (by omega) (by omega) hk))))))))))))) (zSub_cons (fun _ _ h h' hk => zIR_s (zIR_s (zIR_s (zIR_s (zIR_s (zIR_s (zIR_s (zIR_s (zIR_s (zIR_s (zIR_s (zIR_s (zIR_s (zIR_e (by omega) (by omega) hk)))))))))))))) zSub_nil)))))))
                show ZW _ _ _ _ _ _ _ (265, [some (.ref 386), some (.int v175_1), some (.int v175_2), some (.int v175_3), o175_4], [], M265)
                refine w_lo dX9_goesOn_265 rfl rfl rfl rfl ?_
                refine w_ic dX9_goesOn_266 zi_0 ?_
                refine w_pfi dX9_goesOn_267 rfl hJ271 zs_386 (Nat.le_of_ble_eq_true rfl) zo_386_45 (by have := zt_0; omega) (by have := zt_0; omega) (zIR_s (zIR_s (zIR_s (zIR_s (zIR_s (zIR_s (zIR_s (zIR_s (zIR_k (by omega) (by omega)))))))))) rfl rfl rfl ?_
                intro M272 hJ273 f274 hn275
                replace hb : zHd _ := hb (zi M272) (zi_zup hn275 f274 rfl zt_0)
                refine w_ic dX9_goesOn_270 zi_1 ?_
                refine w_en dX9_goesOn_271 rfl ?_
                exact ⟨_, _, rfl, (by have := zt_1; omega), (by have := zt_1; omega), hJ273, hb⟩
        · skip
          replace hb : zHd _ := hb.2 h160
          refine w_ieq_t dX9_goesOn_176 (t := 272) rfl (by omega) ?_
          obtain ⟨m, hm, hI⟩ := hb
          exact (ih m hm).2.2.1 M v175_1 v175_2 v175_3 o175_4 hJ (by omega) (by omega) (by omega) (by omega) (by omega) (by omega) hI
      · intro M v272_1 v272_2 v272_3 o272_4 hJ v272_10 v272_11 v272_20 v272_21 v272_30 v272_31 hI
        have hb : zHd _ := hb272 n (zi M) v272_1.toInt v272_2.toInt v272_3.toInt (zi_fr hJ.2) v272_10 v272_11 v272_20 v272_21 v272_30 v272_31 hI
        refine w_lo dX9_goesOn_272 rfl rfl rfl rfl ?_
        rcases Int.decEq v272_3.toInt (0 : Int) with h277 | h277
        · skip
          replace hb : zHd _ := hb.1 h277
          refine w_ieq_f dX9_goesOn_273 (t := 387) rfl (by omega) ?_
          refine w_lo dX9_goesOn_276 rfl rfl rfl rfl ?_
          refine w_me (st' := [.long (6385252 : Int64), .ref 386]) dX9_goesOn_277 rfl rfl rfl rfl rfl ?_
          refine w_iv dX9_goesOn_280 rfl rfl (As := [.long (6385252 : Int64)]) rfl rfl hJ.1.1 zs_386 (Nat.le_of_ble_eq_true rfl) ?_
          refine ZV.of (ini := false) rfl (Nat.le_of_ble_eq_true rfl) (by decide +kernel) ?_
          show ZW _ _ _ _ _ _ _ (0, [some (.ref 386), some (.long (6385252 : Int64)), none], [], M)
          refine w_lo dX9_isWord_0 rfl rfl rfl rfl ?_
          refine w_gfi dX9_isWord_1 rfl hJ.1 zs_386 (Nat.le_of_ble_eq_true rfl) zo_386_3 ?_
          intro x278 f279 h280 h281
          replace hb : zHd _ := hb x278.toInt (ziE f279) h280 h281
          refine w_ic dX9_isWord_4 zi_1 ?_
          rcases Int.decEq x278.toInt (1 : Int) with h282 | h282
          · skip
            replace hb : zHd _ := hb.1 h282
            refine w_cne_t dX9_isWord_5 (t := 21) rfl (by have := zt_1; omega) ?_
            refine w_ic dX9_isWord_21 zi_0 ?_
            refine w_en dX9_isWord_22 rfl ?_
            show ZW _ _ _ _ _ _ _ (283, [some (.ref 386), some (.int v272_1), some (.int v272_2), some (.int v272_3), o272_4], [.int 0], M)
            refine w_ine_f dX9_goesOn_283 (t := 296) rfl (by have := zt_0; omega) ?_
            refine w_lo dX9_goesOn_286 rfl rfl rfl rfl ?_
            refine w_me (st' := [.long (28530 : Int64), .ref 386]) dX9_goesOn_287 rfl rfl rfl rfl rfl ?_
            refine w_iv dX9_goesOn_290 rfl rfl (As := [.long (28530 : Int64)]) rfl rfl hJ.1.1 zs_386 (Nat.le_of_ble_eq_true rfl) ?_
            refine ZV.of (ini := false) rfl (Nat.le_of_ble_eq_true rfl) (by decide +kernel) ?_
            show ZW _ _ _ _ _ _ _ (0, [some (.ref 386), some (.long (28530 : Int64)), none], [], M)
            refine w_lo dX9_isWord_0 rfl rfl rfl rfl ?_
            refine w_gf dX9_isWord_1 rfl hJ.1.1 zs_386 f279 ?_
            refine w_ic dX9_isWord_4 zi_1 ?_
            rcases Int.decEq x278.toInt (1 : Int) with h283 | h283
            · skip
              replace hb : zHd _ := hb.1 h283
              refine w_cne_t dX9_isWord_5 (t := 21) rfl (by have := zt_1; omega) ?_
              refine w_ic dX9_isWord_21 zi_0 ?_
              refine w_en dX9_isWord_22 rfl ?_
              show ZW _ _ _ _ _ _ _ (293, [some (.ref 386), some (.int v272_1), some (.int v272_2), some (.int v272_3), o272_4], [.int 0], M)
              refine w_ieq_t dX9_goesOn_293 (t := 387) rfl (by have := zt_0; omega) ?_
              obtain ⟨m, hm, hI⟩ := hb
              exact (ih m hm).2.2.2.1 M v272_1 v272_2 v272_3 o272_4 hJ (by omega) (by omega) (by omega) (by omega) (by omega) (by omega) hI
            · skip
              replace hb : zHd _ := hb.2 h283
              refine w_cne_f dX9_isWord_5 (t := 21) rfl (by have := zt_1; omega) ?_
              refine w_lo dX9_isWord_8 rfl rfl rfl rfl ?_
              refine w_gfl dX9_isWord_9 rfl hJ.1 zs_386 (Nat.le_of_ble_eq_true rfl) zo_386_7 ?_
              intro y287 f284 h285 h286
              replace hb : zHd _ := hb y287.toInt (ziL f284)
              refine w_lo dX9_isWord_12 rfl rfl rfl rfl ?_
              refine w_lcm dX9_isWord_13 ?_
              intro x288 h289
              have := ztl_28530
              replace hb : zHd _ := hb x288.toInt (by omega)
              rcases Int.decEq x288.toInt (0 : Int) with h290 | h290
              · skip
                replace hb : zHd _ := hb.1 h290
                refine w_ine_t dX9_isWord_14 (t := 21) rfl (by omega) ?_
                refine w_ic dX9_isWord_21 zi_0 ?_
                refine w_en dX9_isWord_22 rfl ?_
                show ZW _ _ _ _ _ _ _ (293, [some (.ref 386), some (.int v272_1), some (.int v272_2), some (.int v272_3), o272_4], [.int 0], M)
                refine w_ieq_t dX9_goesOn_293 (t := 387) rfl (by have := zt_0; omega) ?_
                obtain ⟨m, hm, hI⟩ := hb
                exact (ih m hm).2.2.2.1 M v272_1 v272_2 v272_3 o272_4 hJ (by omega) (by omega) (by omega) (by omega) (by omega) (by omega) hI
              · skip
                replace hb : zHd _ := hb.2 h290
                refine w_ine_f dX9_isWord_14 (t := 21) rfl (by omega) ?_
                refine w_ic dX9_isWord_17 zi_1 ?_
                refine w_gt dX9_isWord_18 (t := 22) rfl ?_
                refine w_en dX9_isWord_22 rfl ?_
                show ZW _ _ _ _ _ _ _ (293, [some (.ref 386), some (.int v272_1), some (.int v272_2), some (.int v272_3), o272_4], [.int 1], M)
                refine w_ieq_f dX9_goesOn_293 (t := 387) rfl (by have := zt_1; omega) ?_
                refine w_lo dX9_goesOn_296 rfl rfl rfl rfl ?_
                refine w_gf dX9_goesOn_297 rfl hJ.1.1 zs_386 (zr_386_37 hJ.1) ?_
                refine w_lo dX9_goesOn_300 rfl rfl rfl rfl ?_
                refine w_iai dX9_goesOn_301 hJ.1 zs_410 (by omega) (by omega) zu_410 ?_
                intro x294 f291 h292 h293
                replace hb : zHd _ := hb x294.toInt (ziEk f291 rfl) h292 h293
                rcases Int.decEq x294.toInt (0 : Int) with h295 | h295
                · skip
                  replace hb : zHd _ := hb.1 h295
                  refine w_ine_t dX9_goesOn_302 (t := 314) rfl (by omega) ?_
                  refine w_lo dX9_goesOn_314 rfl rfl rfl rfl ?_
                  refine w_gfi dX9_goesOn_315 rfl hJ.1 zs_386 (Nat.le_of_ble_eq_true rfl) zo_386_8 ?_
                  intro x296 f297 h298 h299
                  replace hb : zHd _ := hb x296.toInt (ziE f297) h298 h299
                  rcases zcut (0 : Int) x296.toInt with h300 | h300
                  · skip
                    replace hb : zHd _ := hb.1 h300
                    refine w_ile_f dX9_goesOn_318 (t := 323) rfl (by omega) ?_
                    refine w_ic dX9_goesOn_321 zi_0 ?_
                    refine w_en dX9_goesOn_322 rfl ?_
                    exact ⟨_, _, rfl, (by have := zt_0; omega), (by have := zt_0; omega), hJ, hb⟩
                  · skip
                    replace hb : zHd _ := hb.2 h300
                    refine w_ile_t dX9_goesOn_318 (t := 323) rfl (by omega) ?_
                    refine w_lo dX9_goesOn_323 rfl rfl rfl rfl ?_
                    refine w_me (st' := [.long (6385252 : Int64), .ref 386]) dX9_goesOn_324 rfl rfl rfl rfl rfl ?_
                    refine w_iv dX9_goesOn_327 rfl rfl (As := [.long (6385252 : Int64)]) rfl rfl hJ.1.1 zs_386 (Nat.le_of_ble_eq_true rfl) ?_
                    refine ZV.of (ini := false) rfl (Nat.le_of_ble_eq_true rfl) (by decide +kernel) ?_
                    show ZW _ _ _ _ _ _ _ (0, [some (.ref 386), some (.long (6385252 : Int64)), none], [], M)
                    refine w_lo dX9_isWord_0 rfl rfl rfl rfl ?_
                    refine w_gf dX9_isWord_1 rfl hJ.1.1 zs_386 f279 ?_
                    refine w_ic dX9_isWord_4 zi_1 ?_
                    refine w_cne_f dX9_isWord_5 (t := 21) rfl (by have := zt_1; omega) ?_
                    refine w_lo dX9_isWord_8 rfl rfl rfl rfl ?_
                    refine w_gf dX9_isWord_9 rfl hJ.1.1 zs_386 f284 ?_
                    refine w_lo dX9_isWord_12 rfl rfl rfl rfl ?_
                    refine w_lcm dX9_isWord_13 ?_
                    intro x301 h302
                    have := ztl_6385252
                    replace hb : zHd _ := hb x301.toInt (by omega)
                    rcases Int.decEq x301.toInt (0 : Int) with h303 | h303
                    · skip
                      replace hb : zHd _ := hb.1 h303
                      refine w_ine_t dX9_isWord_14 (t := 21) rfl (by omega) ?_
                      refine w_ic dX9_isWord_21 zi_0 ?_
                      refine w_en dX9_isWord_22 rfl ?_
                      show ZW _ _ _ _ _ _ _ (330, [some (.ref 386), some (.int v272_1), some (.int v272_2), some (.int v272_3), o272_4], [.int 0], M)
                      refine w_lo (ml' := [some (.ref 386), some (.int v272_1), some (.int v272_2), some (.int v272_3), some (.int 0)]) dX9_goesOn_330 rfl rfl rfl rfl ?_
                      refine w_lo dX9_goesOn_332 rfl rfl rfl rfl ?_
                      refine w_lo dX9_goesOn_333 rfl rfl rfl rfl ?_
                      refine w_ieq_t dX9_goesOn_335 (t := 342) rfl (by have := zt_0; omega) ?_
                      refine w_ic dX9_goesOn_342 zi_1 ?_
                      refine w_iv dX9_goesOn_343 rfl rfl (As := [.int 1]) rfl rfl hJ.1.1 zs_386 (Nat.le_of_ble_eq_true rfl) ?_
                      obtain ⟨P306, hp307, hb⟩ := hb
                      replace hb : zHd _ := hb
                      have hp307c : b_2337 (zi M) (1 : Int32).toInt P306 := by rw [zt_1]; exact hp307
                      refine ZV.imp (u_2337 1 hN hJ.1 hp307c) ?_
                      rintro _ ⟨M304, rfl, hJ305, hq308⟩
                      replace hb : zHd _ := hb  (zi M304) (zi_fr hJ305.2) hq308
                      have hJ310 := zJ_trans hJ hJ305 (zSub_cons (fun _ _ h h' hk => zIR_a (by omega) (by omega)) (zSub_cons (fun _ _ h h' hk => zIR_s (zIR_s (zIR_s (zIR_e (by omega) (by omega) hk)))) (zSub_cons (fun _ _ h h' hk => zIR_s (zIR_s (zIR_s (zIR_s (zIR_s (zIR_s (zIR_s (zIR_e (by omega) (by omega) hk)))))))) zSub_nil)))
                      show ZW _ _ _ _ _ _ _ (346, [some (.ref 386), some (.int v272_1), some (.int v272_2), some (.int v272_3), some (.int 0)], [], M304)
                      refine w_lo dX9_goesOn_346 rfl rfl rfl rfl ?_
                      refine w_lo dX9_goesOn_347 rfl rfl rfl rfl ?_
                      refine w_ieq_t dX9_goesOn_349 (t := 357) rfl (by have := zt_0; omega) ?_
                      refine w_bi dX9_goesOn_357 (c := 21) (by decide) ?_
                      refine w_iv dX9_goesOn_359 rfl rfl (As := [.int 21]) rfl rfl hJ310.1.1 zs_386 (Nat.le_of_ble_eq_true rfl) ?_
                      obtain ⟨P313, hp314, hb⟩ := hb
                      replace hb : zHd _ := hb
                      have hp314c : b_2332 (zi M304) (21 : Int32).toInt P313 := by rw [zt_21]; exact hp314
                      refine ZV.imp (u_2332 21 hN hJ310.1 hp314c) ?_
                      rintro _ ⟨M311, rfl, hJ312, hq315⟩
                      replace hb : zHd _ := hb  (zi M311) (zi_fr hJ312.2) hq315
                      have hJ317 := zJ_trans hJ310 hJ312 (zSub_cons (fun _ _ h h' hk => zIR_s (zIR_a (by omega) (by omega))) (zSub_cons (fun _ _ h h' hk => zIR_s (zIR_s (zIR_s (zIR_s (zIR_s (zIR_s (zIR_s (zIR_e (by omega) (by omega) hk)))))))) zSub_nil))
                      show ZW _ _ _ _ _ _ _ (362, [some (.ref 386), some (.int v272_1), some (.int v272_2), some (.int v272_3), some (.int 0)], [], M311)
                      refine w_lo dX9_goesOn_362 rfl rfl rfl rfl ?_
                      refine w_gf dX9_goesOn_363 rfl hJ317.1.1 zs_386 (zr_386_37 hJ317.1) ?_
                      refine w_lo dX9_goesOn_366 rfl rfl rfl rfl ?_
                      refine w_ic dX9_goesOn_367 zi_0 ?_
                      refine w_isi dX9_goesOn_368 hJ317 zs_410 (by omega) (by omega) zu_410 (by have := zt_0; omega) (by have := zt_0; omega) (zIR_a (by omega) (by omega)) ?_
                      intro M318 hJ319 f320 hn321
                      replace hb : zHd _ := hb (zi M318) (zi_zup hn321 f320 rfl zt_0)
                      refine w_lo dX9_goesOn_369 rfl rfl rfl rfl ?_
                      refine w_gf dX9_goesOn_370 rfl hJ319.1.1 zs_386 (zr_386_38 hJ319.1) ?_
                      refine w_lo dX9_goesOn_373 rfl rfl rfl rfl ?_
                      refine w_ic dX9_goesOn_374 zi_1 ?_
                      refine w_bsi dX9_goesOn_375 hJ319 zs_411 (by omega) (by omega) zu_411 (by have := zt_1; omega) (by have := zt_1; omega) (zIR_a (by omega) (by omega)) ?_
                      intro M323 hJ324 f325 hn326
                      replace hb : zHd _ := hb (zi M323) (zi_zup hn326 f325 rfl zt_1)
                      refine w_lo dX9_goesOn_376 rfl rfl rfl rfl ?_
                      refine w_iv dX9_goesOn_377 rfl rfl (As := []) rfl rfl hJ324.1.1 zs_386 (Nat.le_of_ble_eq_true rfl) ?_
                      obtain ⟨P330, hp331, hb⟩ := hb
                      replace hb : zHd _ := hb
                      refine ZV.imp (u_2310 hN hJ324.1 hp331) ?_
                      rintro _ ⟨M328, rfl, hJ329, hq332⟩
                      replace hb : zHd _ := hb  (zi M328) (zi_fr hJ329.2) hq332
                      have hJ334 := zJ_trans hJ324 hJ329 (zSub_cons (fun _ _ h h' hk => zIR_s (zIR_s (zIR_e (by omega) (by omega) hk))) (zSub_cons (fun _ _ h h' hk => zIR_s (zIR_s (zIR_s (zIR_s (zIR_e (by omega) (by omega) hk))))) (zSub_cons (fun _ _ h h' hk => zIR_s (zIR_s (zIR_s (zIR_s (zIR_s (zIR_s (zIR_s (zIR_s (zIR_s (zIR_e (by omega) (by omega) hk)))))))))) (zSub_cons (fun _ _ h h' hk => zIR_s (zIR_s (zIR_s (zIR_s (zIR_s (zIR_s (zIR_s (zIR_s (zIR_s (zIR_s (zIR_e (by omega) (by omega) hk))))))))))) (zSub_cons (fun _ _ h h' hk => zIR_s (zIR_s (zIR_s (zIR_s (zIR_s (zIR_s (zIR_s (zIR_s (zIR_s (zIR_s (zIR_s (zIR_e (by omega) (by omega) hk)))))))))))) (zSub_cons (fun _ _ h h' hk => zIR_s (zIR_s (zIR_s (zIR_s (zIR_s (zIR_s (zIR_s (zIR_s (zIR_s (zIR_s (zIR_s (zIR_s (zIR_e (by omega) (by omega) hk))))))))))))) (zSub_cons (fun _ _ h h' hk => zIR_s (zIR_s (zIR_s (zIR_s (zIR_s (zIR_s (zIR_s (zIR_s (zIR_s (zIR_s (zIR_s (zIR_s (zIR_s (zIR_e (by omega) (by omega) hk)))))))))))))) zSub_nil)))))))
                      show ZW _ _ _ _ _ _ _ (380, [some (.ref 386), some (.int v272_1), some (.int v272_2), some (.int v272_3), some (.int 0)], [], M328)
                      refine w_lo dX9_goesOn_380 rfl rfl rfl rfl ?_
                      refine w_ic dX9_goesOn_381 zi_0 ?_
                      refine w_pfi dX9_goesOn_382 rfl hJ334 zs_386 (Nat.le_of_ble_eq_true rfl) zo_386_45 (by have := zt_0; omega) (by have := zt_0; omega) (zIR_s (zIR_s (zIR_s (zIR_s (zIR_s (zIR_s (zIR_s (zIR_s (zIR_k (by omega) (by omega)))))))))) rfl rfl rfl ?_
                      intro M335 hJ336 f337 hn338
                      replace hb : zHd _ := hb (zi M335) (zi_zup hn338 f337 rfl zt_0)
                      refine w_ic dX9_goesOn_385 zi_1 ?_
                      refine w_en dX9_goesOn_386 rfl ?_
                      exact ⟨_, _, rfl, (by have := zt_1; omega), (by have := zt_1; omega), hJ336, hb⟩
                    · skip
                      replace hb : zHd _ := hb.2 h303
                      refine w_ine_f dX9_isWord_14 (t := 21) rfl (by omega) ?_
                      refine w_ic dX9_isWord_17 zi_1 ?_
                      refine w_gt dX9_isWord_18 (t := 22) rfl ?_
                      refine w_en dX9_isWord_22 rfl ?_
                      show ZW _ _ _ _ _ _ _ (330, [some (.ref 386), some (.int v272_1), some (.int v272_2), some (.int v272_3), o272_4], [.int 1], M)
                      refine w_lo (ml' := [some (.ref 386), some (.int v272_1), some (.int v272_2), some (.int v272_3), some (.int 1)]) dX9_goesOn_330 rfl rfl rfl rfl ?_
                      refine w_lo dX9_goesOn_332 rfl rfl rfl rfl ?_
                      refine w_lo dX9_goesOn_333 rfl rfl rfl rfl ?_
                      refine w_ieq_f dX9_goesOn_335 (t := 342) rfl (by have := zt_1; omega) ?_
                      refine w_ic dX9_goesOn_338 zi_2 ?_
                      refine w_gt dX9_goesOn_339 (t := 343) rfl ?_
                      refine w_iv dX9_goesOn_343 rfl rfl (As := [.int 2]) rfl rfl hJ.1.1 zs_386 (Nat.le_of_ble_eq_true rfl) ?_
                      obtain ⟨P342, hp343, hb⟩ := hb
                      replace hb : zHd _ := hb
                      have hp343c : b_2337 (zi M) (2 : Int32).toInt P342 := by rw [zt_2]; exact hp343
                      refine ZV.imp (u_2337 2 hN hJ.1 hp343c) ?_
                      rintro _ ⟨M340, rfl, hJ341, hq344⟩
                      replace hb : zHd _ := hb  (zi M340) (zi_fr hJ341.2) hq344
                      have hJ346 := zJ_trans hJ hJ341 (zSub_cons (fun _ _ h h' hk => zIR_a (by omega) (by omega)) (zSub_cons (fun _ _ h h' hk => zIR_s (zIR_s (zIR_s (zIR_e (by omega) (by omega) hk)))) (zSub_cons (fun _ _ h h' hk => zIR_s (zIR_s (zIR_s (zIR_s (zIR_s (zIR_s (zIR_s (zIR_e (by omega) (by omega) hk)))))))) zSub_nil)))
                      show ZW _ _ _ _ _ _ _ (346, [some (.ref 386), some (.int v272_1), some (.int v272_2), some (.int v272_3), some (.int 1)], [], M340)
                      refine w_lo dX9_goesOn_346 rfl rfl rfl rfl ?_
                      refine w_lo dX9_goesOn_347 rfl rfl rfl rfl ?_
                      refine w_ieq_f dX9_goesOn_349 (t := 357) rfl (by have := zt_1; omega) ?_
                      refine w_bi dX9_goesOn_352 (c := 20) (by decide) ?_
                      refine w_gt dX9_goesOn_354 (t := 359) rfl ?_
                      refine w_iv dX9_goesOn_359 rfl rfl (As := [.int 20]) rfl rfl hJ346.1.1 zs_386 (Nat.le_of_ble_eq_true rfl) ?_
                      obtain ⟨P349, hp350, hb⟩ := hb
                      replace hb : zHd _ := hb
                      have hp350c : b_2332 (zi M340) (20 : Int32).toInt P349 := by rw [zt_20]; exact hp350
                      refine ZV.imp (u_2332 20 hN hJ346.1 hp350c) ?_
                      rintro _ ⟨M347, rfl, hJ348, hq351⟩
                      replace hb : zHd _ := hb  (zi M347) (zi_fr hJ348.2) hq351
                      have hJ353 := zJ_trans hJ346 hJ348 (zSub_cons (fun _ _ h h' hk => zIR_s (zIR_a (by omega) (by omega))) (zSub_cons (fun _ _ h h' hk => zIR_s (zIR_s (zIR_s (zIR_s (zIR_s (zIR_s (zIR_s (zIR_e (by omega) (by omega) hk)))))))) zSub_nil))
                      show ZW _ _ _ _ _ _ _ (362, [some (.ref 386), some (.int v272_1), some (.int v272_2), some (.int v272_3), some (.int 1)], [], M347)
                      refine w_lo dX9_goesOn_362 rfl rfl rfl rfl ?_
                      refine w_gf dX9_goesOn_363 rfl hJ353.1.1 zs_386 (zr_386_37 hJ353.1) ?_
                      refine w_lo dX9_goesOn_366 rfl rfl rfl rfl ?_
                      refine w_ic dX9_goesOn_367 zi_0 ?_
                      refine w_isi dX9_goesOn_368 hJ353 zs_410 (by omega) (by omega) zu_410 (by have := zt_0; omega) (by have := zt_0; omega) (zIR_a (by omega) (by omega)) ?_
                      intro M354 hJ355 f356 hn357
                      replace hb : zHd _ := hb (zi M354) (zi_zup hn357 f356 rfl zt_0)
                      refine w_lo dX9_goesOn_369 rfl rfl rfl rfl ?_
                      refine w_gf dX9_goesOn_370 rfl hJ355.1.1 zs_386 (zr_386_38 hJ355.1) ?_
                      refine w_lo dX9_goesOn_373 rfl rfl rfl rfl ?_
                      refine w_ic dX9_goesOn_374 zi_1 ?_
                      refine w_bsi dX9_goesOn_375 hJ355 zs_411 (by omega) (by omega) zu_411 (by have := zt_1; omega) (by have := zt_1; omega) (zIR_a (by omega) (by omega)) ?_
                      intro M359 hJ360 f361 hn362
                      replace hb : zHd _ := hb (zi M359) (zi_zup hn362 f361 rfl zt_1)
                      refine w_lo dX9_goesOn_376 rfl rfl rfl rfl ?_
                      refine w_iv dX9_goesOn_377 rfl rfl (As := []) rfl rfl hJ360.1.1 zs_386 (Nat.le_of_ble_eq_true rfl) ?_
                      obtain ⟨P366, hp367, hb⟩ := hb
                      replace hb : zHd _ := hb
                      refine ZV.imp (u_2310 hN hJ360.1 hp367) ?_
                      rintro _ ⟨M364, rfl, hJ365, hq368⟩
                      replace hb : zHd _ := hb  (zi M364) (zi_fr hJ365.2) hq368
                      have hJ370 := zJ_trans hJ360 hJ365 (zSub_cons (fun _ _ h h' hk => zIR_s (zIR_s (zIR_e (by omega) (by omega) hk))) (zSub_cons (fun _ _ h h' hk => zIR_s (zIR_s (zIR_s (zIR_s (zIR_e (by omega) (by omega) hk))))) (zSub_cons (fun _ _ h h' hk => zIR_s (zIR_s (zIR_s (zIR_s (zIR_s (zIR_s (zIR_s (zIR_s (zIR_s (zIR_e (by omega) (by omega) hk)))))))))) (zSub_cons (fun _ _ h h' hk => zIR_s (zIR_s (zIR_s (zIR_s (zIR_s (zIR_s (zIR_s (zIR_s (zIR_s (zIR_s (zIR_e (by omega) (by omega) hk))))))))))) (zSub_cons (fun _ _ h h' hk => zIR_s (zIR_s (zIR_s (zIR_s (zIR_s (zIR_s (zIR_s (zIR_s (zIR_s (zIR_s (zIR_s (zIR_e (by omega) (by omega) hk)))))))))))) (zSub_cons (fun _ _ h h' hk => zIR_s (zIR_s (zIR_s (zIR_s (zIR_s (zIR_s (zIR_s (zIR_s (zIR_s (zIR_s (zIR_s (zIR_s (zIR_e (by omega) (by omega) hk))))))))))))) (zSub_cons (fun _ _ h h' hk => zIR_s (zIR_s (zIR_s (zIR_s (zIR_s (zIR_s (zIR_s (zIR_s (zIR_s (zIR_s (zIR_s (zIR_s (zIR_s (zIR_e (by omega) (by omega) hk)))))))))))))) zSub_nil)))))))
                      show ZW _ _ _ _ _ _ _ (380, [some (.ref 386), some (.int v272_1), some (.int v272_2), some (.int v272_3), some (.int 1)], [], M364)
                      refine w_lo dX9_goesOn_380 rfl rfl rfl rfl ?_
                      refine w_ic dX9_goesOn_381 zi_0 ?_
                      refine w_pfi dX9_goesOn_382 rfl hJ370 zs_386 (Nat.le_of_ble_eq_true rfl) zo_386_45 (by have := zt_0; omega) (by have := zt_0; omega) (zIR_s (zIR_s (zIR_s (zIR_s (zIR_s (zIR_s (zIR_s (zIR_s (zIR_k (by omega) (by omega)))))))))) rfl rfl rfl ?_
                      intro M371 hJ372 f373 hn374
                      replace hb : zHd _ := hb (zi M371) (zi_zup hn374 f373 rfl zt_0)
                      refine w_ic dX9_goesOn_385 zi_1 ?_
                      refine w_en dX9_goesOn_386 rfl ?_
                      exact ⟨_, _, rfl, (by have := zt_1; omega), (by have := zt_1; omega), hJ372, hb⟩
                · skip
                  replace hb : zHd _ := hb.2 h295
                  refine w_ine_f dX9_goesOn_302 (t := 314) rfl (by omega) ?_
                  refine w_lo dX9_goesOn_305 rfl rfl rfl rfl ?_
                  refine w_ic dX9_goesOn_306 zi_1 ?_
                  refine w_lo dX9_goesOn_307 rfl rfl rfl rfl ?_
                  refine w_gfi dX9_goesOn_308 rfl hJ.1 zs_386 (Nat.le_of_ble_eq_true rfl) zo_386_4 ?_
                  intro x376 f377 h378 h379
                  replace hb : zHd _ := hb x376.toInt (ziE f377) h378 h379
                  refine w_iv dX9_goesOn_311 rfl rfl (As := [.int 1, .int x376]) rfl rfl hJ.1.1 zs_386 (Nat.le_of_ble_eq_true rfl) ?_
                  refine ZV.of (ini := false) rfl (Nat.le_of_ble_eq_true rfl) (by decide +kernel) ?_
                  show ZW _ _ _ _ _ _ _ (0, [some (.ref 386), some (.int 1), some (.int x376)], [], M)
                  refine w_lo dX9_blame_0 rfl rfl rfl rfl ?_
                  refine w_gfi dX9_blame_1 rfl hJ.1 zs_386 (Nat.le_of_ble_eq_true rfl) zo_386_8 ?_
                  intro x380 f381 h382 h383
                  replace hb : zHd _ := hb x380.toInt (ziE f381) h382 h383
                  rcases zcut (0 : Int) x380.toInt with h384 | h384
                  · skip
                    replace hb : zHd _ := hb.1 h384
                    refine w_ile_f dX9_blame_4 (t := 8) rfl (by omega) ?_
                    refine w_en dX9_blame_7 rfl ?_
                    show ZW _ _ _ _ _ _ _ (314, [some (.ref 386), some (.int v272_1), some (.int v272_2), some (.int v272_3), o272_4], [], M)
                    refine w_lo dX9_goesOn_314 rfl rfl rfl rfl ?_
                    refine w_gf dX9_goesOn_315 rfl hJ.1.1 zs_386 f381 ?_
                    refine w_ile_f dX9_goesOn_318 (t := 323) rfl (by omega) ?_
                    refine w_ic dX9_goesOn_321 zi_0 ?_
                    refine w_en dX9_goesOn_322 rfl ?_
                    exact ⟨_, _, rfl, (by have := zt_0; omega), (by have := zt_0; omega), hJ, hb⟩
                  · skip
                    replace hb : zHd _ := hb.2 h384
                    refine w_ile_t dX9_blame_4 (t := 8) rfl (by omega) ?_
                    refine w_lo dX9_blame_8 rfl rfl rfl rfl ?_
                    refine w_lo dX9_blame_9 rfl rfl rfl rfl ?_
                    refine w_pfi dX9_blame_10 rfl hJ zs_386 (Nat.le_of_ble_eq_true rfl) zo_386_8 (by have := zt_1; omega) (by have := zt_1; omega) (zIR_s (zIR_s (zIR_s (zIR_s (zIR_s (zIR_s (zIR_s (zIR_s (zIR_s (zIR_s (zIR_s (zIR_s (zIR_k (by omega) (by omega)))))))))))))) rfl rfl rfl ?_
                    intro M385 hJ386 f387 hn388
                    replace hb : zHd _ := hb (zi M385) (zi_zup hn388 f387 rfl zt_1)
                    refine w_lo dX9_blame_13 rfl rfl rfl rfl ?_
                    refine w_lo dX9_blame_14 rfl rfl rfl rfl ?_
                    refine w_pfi dX9_blame_15 rfl hJ386 zs_386 (Nat.le_of_ble_eq_true rfl) zo_386_9 (by omega) (by omega) (zIR_s (zIR_s (zIR_s (zIR_s (zIR_s (zIR_s (zIR_s (zIR_s (zIR_s (zIR_s (zIR_s (zIR_s (zIR_s (zIR_k (by omega) (by omega))))))))))))))) rfl rfl rfl ?_
                    intro M390 hJ391 f392 hn393
                    replace hb : zHd _ := hb (zi M390) (zi_zup hn393 f392 rfl rfl)
                    refine w_en dX9_blame_18 rfl ?_
                    show ZW _ _ _ _ _ _ _ (314, [some (.ref 386), some (.int v272_1), some (.int v272_2), some (.int v272_3), o272_4], [], M390)
                    refine w_lo dX9_goesOn_314 rfl rfl rfl rfl ?_
                    have f395 := (hn393 (386) 8 (Or.inr (by decide))).trans (f387)
                    refine w_gf dX9_goesOn_315 rfl hJ391.1.1 zs_386 f395 ?_
                    refine w_ile_f dX9_goesOn_318 (t := 323) rfl (by have := zt_1; omega) ?_
                    refine w_ic dX9_goesOn_321 zi_0 ?_
                    refine w_en dX9_goesOn_322 rfl ?_
                    exact ⟨_, _, rfl, (by have := zt_0; omega), (by have := zt_0; omega), hJ391, hb⟩
          · skip
            replace hb : zHd _ := hb.2 h282
            refine w_cne_f dX9_isWord_5 (t := 21) rfl (by have := zt_1; omega) ?_
            refine w_lo dX9_isWord_8 rfl rfl rfl rfl ?_
            refine w_gfl dX9_isWord_9 rfl hJ.1 zs_386 (Nat.le_of_ble_eq_true rfl) zo_386_7 ?_
            intro y399 f396 h397 h398
            replace hb : zHd _ := hb y399.toInt (ziL f396)
            refine w_lo dX9_isWord_12 rfl rfl rfl rfl ?_
            refine w_lcm dX9_isWord_13 ?_
            intro x400 h401
            have := ztl_6385252
            replace hb : zHd _ := hb x400.toInt (by omega)
            rcases Int.decEq x400.toInt (0 : Int) with h402 | h402
            · skip
              replace hb : zHd _ := hb.1 h402
              refine w_ine_t dX9_isWord_14 (t := 21) rfl (by omega) ?_
              refine w_ic dX9_isWord_21 zi_0 ?_
              refine w_en dX9_isWord_22 rfl ?_
              show ZW _ _ _ _ _ _ _ (283, [some (.ref 386), some (.int v272_1), some (.int v272_2), some (.int v272_3), o272_4], [.int 0], M)
              refine w_ine_f dX9_goesOn_283 (t := 296) rfl (by have := zt_0; omega) ?_
              refine w_lo dX9_goesOn_286 rfl rfl rfl rfl ?_
              refine w_me (st' := [.long (28530 : Int64), .ref 386]) dX9_goesOn_287 rfl rfl rfl rfl rfl ?_
              refine w_iv dX9_goesOn_290 rfl rfl (As := [.long (28530 : Int64)]) rfl rfl hJ.1.1 zs_386 (Nat.le_of_ble_eq_true rfl) ?_
              refine ZV.of (ini := false) rfl (Nat.le_of_ble_eq_true rfl) (by decide +kernel) ?_
              show ZW _ _ _ _ _ _ _ (0, [some (.ref 386), some (.long (28530 : Int64)), none], [], M)
              refine w_lo dX9_isWord_0 rfl rfl rfl rfl ?_
              refine w_gf dX9_isWord_1 rfl hJ.1.1 zs_386 f279 ?_
              refine w_ic dX9_isWord_4 zi_1 ?_
              refine w_cne_f dX9_isWord_5 (t := 21) rfl (by have := zt_1; omega) ?_
              refine w_lo dX9_isWord_8 rfl rfl rfl rfl ?_
              refine w_gf dX9_isWord_9 rfl hJ.1.1 zs_386 f396 ?_
              refine w_lo dX9_isWord_12 rfl rfl rfl rfl ?_
              refine w_lcm dX9_isWord_13 ?_
              intro x403 h404
              have := ztl_28530
              replace hb : zHd _ := hb x403.toInt (by omega)
              rcases Int.decEq x403.toInt (0 : Int) with h405 | h405
              · skip
                replace hb : zHd _ := hb.1 h405
                refine w_ine_t dX9_isWord_14 (t := 21) rfl (by omega) ?_
                refine w_ic dX9_isWord_21 zi_0 ?_
                refine w_en dX9_isWord_22 rfl ?_
                show ZW _ _ _ _ _ _ _ (293, [some (.ref 386), some (.int v272_1), some (.int v272_2), some (.int v272_3), o272_4], [.int 0], M)
                refine w_ieq_t dX9_goesOn_293 (t := 387) rfl (by have := zt_0; omega) ?_
                obtain ⟨m, hm, hI⟩ := hb
                exact (ih m hm).2.2.2.1 M v272_1 v272_2 v272_3 o272_4 hJ (by omega) (by omega) (by omega) (by omega) (by omega) (by omega) hI
              · skip
                replace hb : zHd _ := hb.2 h405
                refine w_ine_f dX9_isWord_14 (t := 21) rfl (by omega) ?_
                refine w_ic dX9_isWord_17 zi_1 ?_
                refine w_gt dX9_isWord_18 (t := 22) rfl ?_
                refine w_en dX9_isWord_22 rfl ?_
                show ZW _ _ _ _ _ _ _ (293, [some (.ref 386), some (.int v272_1), some (.int v272_2), some (.int v272_3), o272_4], [.int 1], M)
                refine w_ieq_f dX9_goesOn_293 (t := 387) rfl (by have := zt_1; omega) ?_
                refine w_lo dX9_goesOn_296 rfl rfl rfl rfl ?_
                refine w_gf dX9_goesOn_297 rfl hJ.1.1 zs_386 (zr_386_37 hJ.1) ?_
                refine w_lo dX9_goesOn_300 rfl rfl rfl rfl ?_
                refine w_iai dX9_goesOn_301 hJ.1 zs_410 (by omega) (by omega) zu_410 ?_
                intro x409 f406 h407 h408
                replace hb : zHd _ := hb x409.toInt (ziEk f406 rfl) h407 h408
                rcases Int.decEq x409.toInt (0 : Int) with h410 | h410
                · skip
                  replace hb : zHd _ := hb.1 h410
                  refine w_ine_t dX9_goesOn_302 (t := 314) rfl (by omega) ?_
                  refine w_lo dX9_goesOn_314 rfl rfl rfl rfl ?_
                  refine w_gfi dX9_goesOn_315 rfl hJ.1 zs_386 (Nat.le_of_ble_eq_true rfl) zo_386_8 ?_
                  intro x411 f412 h413 h414
                  replace hb : zHd _ := hb x411.toInt (ziE f412) h413 h414
                  rcases zcut (0 : Int) x411.toInt with h415 | h415
                  · skip
                    replace hb : zHd _ := hb.1 h415
                    refine w_ile_f dX9_goesOn_318 (t := 323) rfl (by omega) ?_
                    refine w_ic dX9_goesOn_321 zi_0 ?_
                    refine w_en dX9_goesOn_322 rfl ?_
                    exact ⟨_, _, rfl, (by have := zt_0; omega), (by have := zt_0; omega), hJ, hb⟩
                  · skip
                    replace hb : zHd _ := hb.2 h415
                    refine w_ile_t dX9_goesOn_318 (t := 323) rfl (by omega) ?_
                    refine w_lo dX9_goesOn_323 rfl rfl rfl rfl ?_
                    refine w_me (st' := [.long (6385252 : Int64), .ref 386]) dX9_goesOn_324 rfl rfl rfl rfl rfl ?_
                    refine w_iv dX9_goesOn_327 rfl rfl (As := [.long (6385252 : Int64)]) rfl rfl hJ.1.1 zs_386 (Nat.le_of_ble_eq_true rfl) ?_
                    refine ZV.of (ini := false) rfl (Nat.le_of_ble_eq_true rfl) (by decide +kernel) ?_
                    show ZW _ _ _ _ _ _ _ (0, [some (.ref 386), some (.long (6385252 : Int64)), none], [], M)
                    refine w_lo dX9_isWord_0 rfl rfl rfl rfl ?_
                    refine w_gf dX9_isWord_1 rfl hJ.1.1 zs_386 f279 ?_
                    refine w_ic dX9_isWord_4 zi_1 ?_
                    refine w_cne_f dX9_isWord_5 (t := 21) rfl (by have := zt_1; omega) ?_
                    refine w_lo dX9_isWord_8 rfl rfl rfl rfl ?_
                    refine w_gf dX9_isWord_9 rfl hJ.1.1 zs_386 f396 ?_
                    refine w_lo dX9_isWord_12 rfl rfl rfl rfl ?_
                    refine w_lcm dX9_isWord_13 ?_
                    intro x416 h417
                    have := ztl_6385252
                    replace hb : zHd _ := hb x416.toInt (by omega)
                    rcases Int.decEq x416.toInt (0 : Int) with h418 | h418
                    · skip
                      replace hb : zHd _ := hb.1 h418
                      refine w_ine_t dX9_isWord_14 (t := 21) rfl (by omega) ?_
                      refine w_ic dX9_isWord_21 zi_0 ?_
                      refine w_en dX9_isWord_22 rfl ?_
                      show ZW _ _ _ _ _ _ _ (330, [some (.ref 386), some (.int v272_1), some (.int v272_2), some (.int v272_3), o272_4], [.int 0], M)
                      refine w_lo (ml' := [some (.ref 386), some (.int v272_1), some (.int v272_2), some (.int v272_3), some (.int 0)]) dX9_goesOn_330 rfl rfl rfl rfl ?_
                      refine w_lo dX9_goesOn_332 rfl rfl rfl rfl ?_
                      refine w_lo dX9_goesOn_333 rfl rfl rfl rfl ?_
                      refine w_ieq_t dX9_goesOn_335 (t := 342) rfl (by have := zt_0; omega) ?_
                      refine w_ic dX9_goesOn_342 zi_1 ?_
                      refine w_iv dX9_goesOn_343 rfl rfl (As := [.int 1]) rfl rfl hJ.1.1 zs_386 (Nat.le_of_ble_eq_true rfl) ?_
                      obtain ⟨P421, hp422, hb⟩ := hb
                      replace hb : zHd _ := hb
                      have hp422c : b_2337 (zi M) (1 : Int32).toInt P421 := by rw [zt_1]; exact hp422
                      refine ZV.imp (u_2337 1 hN hJ.1 hp422c) ?_
                      rintro _ ⟨M419, rfl, hJ420, hq423⟩
                      replace hb : zHd _ := hb  (zi M419) (zi_fr hJ420.2) hq423
                      have hJ425 := zJ_trans hJ hJ420 (zSub_cons (fun _ _ h h' hk => zIR_a (by omega) (by omega)) (zSub_cons (fun _ _ h h' hk => zIR_s (zIR_s (zIR_s (zIR_e (by omega) (by omega) hk)))) (zSub_cons (fun _ _ h h' hk => zIR_s (zIR_s (zIR_s (zIR_s (zIR_s (zIR_s (zIR_s (zIR_e (by omega) (by omega) hk)))))))) zSub_nil)))
                      show ZW _ _ _ _ _ _ _ (346, [some (.ref 386), some (.int v272_1), some (.int v272_2), some (.int v272_3), some (.int 0)], [], M419)
                      refine w_lo dX9_goesOn_346 rfl rfl rfl rfl ?_
                      refine w_lo dX9_goesOn_347 rfl rfl rfl rfl ?_
                      refine w_ieq_t dX9_goesOn_349 (t := 357) rfl (by have := zt_0; omega) ?_
                      refine w_bi dX9_goesOn_357 (c := 21) (by decide) ?_
                      refine w_iv dX9_goesOn_359 rfl rfl (As := [.int 21]) rfl rfl hJ425.1.1 zs_386 (Nat.le_of_ble_eq_true rfl) ?_
                      obtain ⟨P428, hp429, hb⟩ := hb
                      replace hb : zHd _ := hb
                      have hp429c : b_2332 (zi M419) (21 : Int32).toInt P428 := by rw [zt_21]; exact hp429
                      refine ZV.imp (u_2332 21 hN hJ425.1 hp429c) ?_
                      rintro _ ⟨M426, rfl, hJ427, hq430⟩
                      replace hb : zHd _ := hb  (zi M426) (zi_fr hJ427.2) hq430
                      have hJ432 := zJ_trans hJ425 hJ427 (zSub_cons (fun _ _ h h' hk => zIR_s (zIR_a (by omega) (by omega))) (zSub_cons (fun _ _ h h' hk => zIR_s (zIR_s (zIR_s (zIR_s (zIR_s (zIR_s (zIR_s (zIR_e (by omega) (by omega) hk)))))))) zSub_nil))
                      show ZW _ _ _ _ _ _ _ (362, [some (.ref 386), some (.int v272_1), some (.int v272_2), some (.int v272_3), some (.int 0)], [], M426)
                      refine w_lo dX9_goesOn_362 rfl rfl rfl rfl ?_
                      refine w_gf dX9_goesOn_363 rfl hJ432.1.1 zs_386 (zr_386_37 hJ432.1) ?_
                      refine w_lo dX9_goesOn_366 rfl rfl rfl rfl ?_
                      refine w_ic dX9_goesOn_367 zi_0 ?_
                      refine w_isi dX9_goesOn_368 hJ432 zs_410 (by omega) (by omega) zu_410 (by have := zt_0; omega) (by have := zt_0; omega) (zIR_a (by omega) (by omega)) ?_
                      intro M433 hJ434 f435 hn436
                      replace hb : zHd _ := hb (zi M433) (zi_zup hn436 f435 rfl zt_0)
                      refine w_lo dX9_goesOn_369 rfl rfl rfl rfl ?_
                      refine w_gf dX9_goesOn_370 rfl hJ434.1.1 zs_386 (zr_386_38 hJ434.1) ?_
                      refine w_lo dX9_goesOn_373 rfl rfl rfl rfl ?_
                      refine w_ic dX9_goesOn_374 zi_1 ?_
                      refine w_bsi dX9_goesOn_375 hJ434 zs_411 (by omega) (by omega) zu_411 (by have := zt_1; omega) (by have := zt_1; omega) (zIR_a (by omega) (by omega)) ?_
                      intro M438 hJ439 f440 hn441
                      replace hb : zHd _ := hb (zi M438) (zi_zup hn441 f440 rfl zt_1)
                      refine w_lo dX9_goesOn_376 rfl rfl rfl rfl ?_
                      refine w_iv dX9_goesOn_377 rfl rfl (As := []) rfl rfl hJ439.1.1 zs_386 (Nat.le_of_ble_eq_true rfl) ?_
                      obtain ⟨P445, hp446, hb⟩ := hb
                      replace hb : zHd _ := hb
                      refine ZV.imp (u_2310 hN hJ439.1 hp446) ?_
                      rintro _ ⟨M443, rfl, hJ444, hq447⟩
                      replace hb : zHd _ := hb  (zi M443) (zi_fr hJ444.2) hq447
                      have hJ449 := zJ_trans hJ439 hJ444 (zSub_cons (fun _ _ h h' hk => zIR_s (zIR_s (zIR_e (by omega) (by omega) hk))) (zSub_cons (fun _ _ h h' hk => zIR_s (zIR_s (zIR_s (zIR_s (zIR_e (by omega) (by omega) hk))))) (zSub_cons (fun _ _ h h' hk => zIR_s (zIR_s (zIR_s (zIR_s (zIR_s (zIR_s (zIR_s (zIR_s (zIR_s (zIR_e (by omega) (by omega) hk)))))))))) (zSub_cons (fun _ _ h h' hk => zIR_s (zIR_s (zIR_s (zIR_s (zIR_s (zIR_s (zIR_s (zIR_s (zIR_s (zIR_s (zIR_e (by omega) (by omega) hk))))))))))) (zSub_cons (fun _ _ h h' hk => zIR_s (zIR_s (zIR_s (zIR_s (zIR_s (zIR_s (zIR_s (zIR_s (zIR_s (zIR_s (zIR_s (zIR_e (by omega) (by omega) hk)))))))))))) (zSub_cons (fun _ _ h h' hk => zIR_s (zIR_s (zIR_s (zIR_s (zIR_s (zIR_s (zIR_s (zIR_s (zIR_s (zIR_s (zIR_s (zIR_s (zIR_e (by omega) (by omega) hk))))))))))))) (zSub_cons (fun _ _ h h' hk => zIR_s (zIR_s (zIR_s (zIR_s (zIR_s (zIR_s (zIR_s (zIR_s (zIR_s (zIR_s (zIR_s (zIR_s (zIR_s (zIR_e (by omega) (by omega) hk)))))))))))))) zSub_nil)))))))
                      show ZW _ _ _ _ _ _ _ (380, [some (.ref 386), some (.int v272_1), some (.int v272_2), some (.int v272_3), some (.int 0)], [], M443)
                      refine w_lo dX9_goesOn_380 rfl rfl rfl rfl ?_
                      refine w_ic dX9_goesOn_381 zi_0 ?_
                      refine w_pfi dX9_goesOn_382 rfl hJ449 zs_386 (Nat.le_of_ble_eq_true rfl) zo_386_45 (by have := zt_0; omega) (by have := zt_0; omega) (zIR_s (zIR_s (zIR_s (zIR_s (zIR_s (zIR_s (zIR_s (zIR_s (zIR_k (by omega) (by omega)))))))))) rfl rfl rfl ?_
                      intro M450 hJ451 f452 hn453
                      replace hb : zHd _ := hb (zi M450) (zi_zup hn453 f452 rfl zt_0)
                      refine w_ic dX9_goesOn_385 zi_1 ?_
                      refine w_en dX9_goesOn_386 rfl ?_
                      exact ⟨_, _, rfl, (by have := zt_1; omega), (by have := zt_1; omega), hJ451, hb⟩
                    · skip
                      replace hb : zHd _ := hb.2 h418
                      refine w_ine_f dX9_isWord_14 (t := 21) rfl (by omega) ?_
                      refine w_ic dX9_isWord_17 zi_1 ?_
                      refine w_gt dX9_isWord_18 (t := 22) rfl ?_
                      refine w_en dX9_isWord_22 rfl ?_
                      show ZW _ _ _ _ _ _ _ (330, [some (.ref 386), some (.int v272_1), some (.int v272_2), some (.int v272_3), o272_4], [.int 1], M)
                      refine w_lo (ml' := [some (.ref 386), some (.int v272_1), some (.int v272_2), some (.int v272_3), some (.int 1)]) dX9_goesOn_330 rfl rfl rfl rfl ?_
                      refine w_lo dX9_goesOn_332 rfl rfl rfl rfl ?_
                      refine w_lo dX9_goesOn_333 rfl rfl rfl rfl ?_
                      refine w_ieq_f dX9_goesOn_335 (t := 342) rfl (by have := zt_1; omega) ?_
                      refine w_ic dX9_goesOn_338 zi_2 ?_
                      refine w_gt dX9_goesOn_339 (t := 343) rfl ?_
                      refine w_iv dX9_goesOn_343 rfl rfl (As := [.int 2]) rfl rfl hJ.1.1 zs_386 (Nat.le_of_ble_eq_true rfl) ?_
                      obtain ⟨P457, hp458, hb⟩ := hb
                      replace hb : zHd _ := hb
                      have hp458c : b_2337 (zi M) (2 : Int32).toInt P457 := by rw [zt_2]; exact hp458
                      refine ZV.imp (u_2337 2 hN hJ.1 hp458c) ?_
                      rintro _ ⟨M455, rfl, hJ456, hq459⟩
                      replace hb : zHd _ := hb  (zi M455) (zi_fr hJ456.2) hq459
                      have hJ461 := zJ_trans hJ hJ456 (zSub_cons (fun _ _ h h' hk => zIR_a (by omega) (by omega)) (zSub_cons (fun _ _ h h' hk => zIR_s (zIR_s (zIR_s (zIR_e (by omega) (by omega) hk)))) (zSub_cons (fun _ _ h h' hk => zIR_s (zIR_s (zIR_s (zIR_s (zIR_s (zIR_s (zIR_s (zIR_e (by omega) (by omega) hk)))))))) zSub_nil)))
                      show ZW _ _ _ _ _ _ _ (346, [some (.ref 386), some (.int v272_1), some (.int v272_2), some (.int v272_3), some (.int 1)], [], M455)
                      refine w_lo dX9_goesOn_346 rfl rfl rfl rfl ?_
                      refine w_lo dX9_goesOn_347 rfl rfl rfl rfl ?_
                      refine w_ieq_f dX9_goesOn_349 (t := 357) rfl (by have := zt_1; omega) ?_
                      refine w_bi dX9_goesOn_352 (c := 20) (by decide) ?_
                      refine w_gt dX9_goesOn_354 (t := 359) rfl ?_
                      refine w_iv dX9_goesOn_359 rfl rfl (As := [.int 20]) rfl rfl hJ461.1.1 zs_386 (Nat.le_of_ble_eq_true rfl) ?_
                      obtain ⟨P464, hp465, hb⟩ := hb
                      replace hb : zHd _ := hb
                      have hp465c : b_2332 (zi M455) (20 : Int32).toInt P464 := by rw [zt_20]; exact hp465
                      refine ZV.imp (u_2332 20 hN hJ461.1 hp465c) ?_
                      rintro _ ⟨M462, rfl, hJ463, hq466⟩
                      replace hb : zHd _ := hb  (zi M462) (zi_fr hJ463.2) hq466
                      have hJ468 := zJ_trans hJ461 hJ463 (zSub_cons (fun _ _ h h' hk => zIR_s (zIR_a (by omega) (by omega))) (zSub_cons (fun _ _ h h' hk => zIR_s (zIR_s (zIR_s (zIR_s (zIR_s (zIR_s (zIR_s (zIR_e (by omega) (by omega) hk)))))))) zSub_nil))
                      show ZW _ _ _ _ _ _ _ (362, [some (.ref 386), some (.int v272_1), some (.int v272_2), some (.int v272_3), some (.int 1)], [], M462)
                      refine w_lo dX9_goesOn_362 rfl rfl rfl rfl ?_
                      refine w_gf dX9_goesOn_363 rfl hJ468.1.1 zs_386 (zr_386_37 hJ468.1) ?_
                      refine w_lo dX9_goesOn_366 rfl rfl rfl rfl ?_
                      refine w_ic dX9_goesOn_367 zi_0 ?_
                      refine w_isi dX9_goesOn_368 hJ468 zs_410 (by omega) (by omega) zu_410 (by have := zt_0; omega) (by have := zt_0; omega) (zIR_a (by omega) (by omega)) ?_
                      intro M469 hJ470 f471 hn472
                      replace hb : zHd _ := hb (zi M469) (zi_zup hn472 f471 rfl zt_0)
                      refine w_lo dX9_goesOn_369 rfl rfl rfl rfl ?_
                      refine w_gf dX9_goesOn_370 rfl hJ470.1.1 zs_386 (zr_386_38 hJ470.1) ?_
                      refine w_lo dX9_goesOn_373 rfl rfl rfl rfl ?_
                      refine w_ic dX9_goesOn_374 zi_1 ?_
                      refine w_bsi dX9_goesOn_375 hJ470 zs_411 (by omega) (by omega) zu_411 (by have := zt_1; omega) (by have := zt_1; omega) (zIR_a (by omega) (by omega)) ?_
                      intro M474 hJ475 f476 hn477
                      replace hb : zHd _ := hb (zi M474) (zi_zup hn477 f476 rfl zt_1)
                      refine w_lo dX9_goesOn_376 rfl rfl rfl rfl ?_
                      refine w_iv dX9_goesOn_377 rfl rfl (As := []) rfl rfl hJ475.1.1 zs_386 (Nat.le_of_ble_eq_true rfl) ?_
                      obtain ⟨P481, hp482, hb⟩ := hb
                      replace hb : zHd _ := hb
                      refine ZV.imp (u_2310 hN hJ475.1 hp482) ?_
                      rintro _ ⟨M479, rfl, hJ480, hq483⟩
                      replace hb : zHd _ := hb  (zi M479) (zi_fr hJ480.2) hq483
                      have hJ485 := zJ_trans hJ475 hJ480 (zSub_cons (fun _ _ h h' hk => zIR_s (zIR_s (zIR_e (by omega) (by omega) hk))) (zSub_cons (fun _ _ h h' hk => zIR_s (zIR_s (zIR_s (zIR_s (zIR_e (by omega) (by omega) hk))))) (zSub_cons (fun _ _ h h' hk => zIR_s (zIR_s (zIR_s (zIR_s (zIR_s (zIR_s (zIR_s (zIR_s (zIR_s (zIR_e (by omega) (by omega) hk)))))))))) (zSub_cons (fun _ _ h h' hk => zIR_s (zIR_s (zIR_s (zIR_s (zIR_s (zIR_s (zIR_s (zIR_s (zIR_s (zIR_s (zIR_e (by omega) (by omega) hk))))))))))) (zSub_cons (fun _ _ h h' hk => zIR_s (zIR_s (zIR_s (zIR_s (zIR_s (zIR_s (zIR_s (zIR_s (zIR_s (zIR_s (zIR_s (zIR_e (by omega) (by omega) hk)))))))))))) (zSub_cons (fun _ _ h h' hk => zIR_s (zIR_s (zIR_s (zIR_s (zIR_s (zIR_s (zIR_s (zIR_s (zIR_s (zIR_s (zIR_s (zIR_s (zIR_e (by omega) (by omega) hk))))))))))))) (zSub_cons (fun _ _ h h' hk => zIR_s (zIR_s (zIR_s (zIR_s (zIR_s (zIR_s (zIR_s (zIR_s (zIR_s (zIR_s (zIR_s (zIR_s (zIR_s (zIR_e (by omega) (by omega) hk)))))))))))))) zSub_nil)))))))
                      show ZW _ _ _ _ _ _ _ (380, [some (.ref 386), some (.int v272_1), some (.int v272_2), some (.int v272_3), some (.int 1)], [], M479)
                      refine w_lo dX9_goesOn_380 rfl rfl rfl rfl ?_
                      refine w_ic dX9_goesOn_381 zi_0 ?_
                      refine w_pfi dX9_goesOn_382 rfl hJ485 zs_386 (Nat.le_of_ble_eq_true rfl) zo_386_45 (by have := zt_0; omega) (by have := zt_0; omega) (zIR_s (zIR_s (zIR_s (zIR_s (zIR_s (zIR_s (zIR_s (zIR_s (zIR_k (by omega) (by omega)))))))))) rfl rfl rfl ?_
                      intro M486 hJ487 f488 hn489
                      replace hb : zHd _ := hb (zi M486) (zi_zup hn489 f488 rfl zt_0)
                      refine w_ic dX9_goesOn_385 zi_1 ?_
                      refine w_en dX9_goesOn_386 rfl ?_
                      exact ⟨_, _, rfl, (by have := zt_1; omega), (by have := zt_1; omega), hJ487, hb⟩
                · skip
                  replace hb : zHd _ := hb.2 h410
                  refine w_ine_f dX9_goesOn_302 (t := 314) rfl (by omega) ?_
                  refine w_lo dX9_goesOn_305 rfl rfl rfl rfl ?_
                  refine w_ic dX9_goesOn_306 zi_1 ?_
                  refine w_lo dX9_goesOn_307 rfl rfl rfl rfl ?_
                  refine w_gfi dX9_goesOn_308 rfl hJ.1 zs_386 (Nat.le_of_ble_eq_true rfl) zo_386_4 ?_
                  intro x491 f492 h493 h494
                  replace hb : zHd _ := hb x491.toInt (ziE f492) h493 h494
                  refine w_iv dX9_goesOn_311 rfl rfl (As := [.int 1, .int x491]) rfl rfl hJ.1.1 zs_386 (Nat.le_of_ble_eq_true rfl) ?_
                  refine ZV.of (ini := false) rfl (Nat.le_of_ble_eq_true rfl) (by decide +kernel) ?_
                  show ZW _ _ _ _ _ _ _ (0, [some (.ref 386), some (.int 1), some (.int x491)], [], M)
                  refine w_lo dX9_blame_0 rfl rfl rfl rfl ?_
                  refine w_gfi dX9_blame_1 rfl hJ.1 zs_386 (Nat.le_of_ble_eq_true rfl) zo_386_8 ?_
                  intro x495 f496 h497 h498
                  replace hb : zHd _ := hb x495.toInt (ziE f496) h497 h498
                  rcases zcut (0 : Int) x495.toInt with h499 | h499
                  · skip
                    replace hb : zHd _ := hb.1 h499
                    refine w_ile_f dX9_blame_4 (t := 8) rfl (by omega) ?_
                    refine w_en dX9_blame_7 rfl ?_
                    show ZW _ _ _ _ _ _ _ (314, [some (.ref 386), some (.int v272_1), some (.int v272_2), some (.int v272_3), o272_4], [], M)
                    refine w_lo dX9_goesOn_314 rfl rfl rfl rfl ?_
                    refine w_gf dX9_goesOn_315 rfl hJ.1.1 zs_386 f496 ?_
                    refine w_ile_f dX9_goesOn_318 (t := 323) rfl (by omega) ?_
                    refine w_ic dX9_goesOn_321 zi_0 ?_
                    refine w_en dX9_goesOn_322 rfl ?_
                    exact ⟨_, _, rfl, (by have := zt_0; omega), (by have := zt_0; omega), hJ, hb⟩
                  · skip
                    replace hb : zHd _ := hb.2 h499
                    refine w_ile_t dX9_blame_4 (t := 8) rfl (by omega) ?_
                    refine w_lo dX9_blame_8 rfl rfl rfl rfl ?_
                    refine w_lo dX9_blame_9 rfl rfl rfl rfl ?_
                    refine w_pfi dX9_blame_10 rfl hJ zs_386 (Nat.le_of_ble_eq_true rfl) zo_386_8 (by have := zt_1; omega) (by have := zt_1; omega) (zIR_s (zIR_s (zIR_s (zIR_s (zIR_s (zIR_s (zIR_s (zIR_s (zIR_s (zIR_s (zIR_s (zIR_s (zIR_k (by omega) (by omega)))))))))))))) rfl rfl rfl ?_
                    intro M500 hJ501 f502 hn503
                    replace hb : zHd _ := hb (zi M500) (zi_zup hn503 f502 rfl zt_1)
                    refine w_lo dX9_blame_13 rfl rfl rfl rfl ?_
                    refine w_lo dX9_blame_14 rfl rfl rfl rfl ?_
                    refine w_pfi dX9_blame_15 rfl hJ501 zs_386 (Nat.le_of_ble_eq_true rfl) zo_386_9 (by omega) (by omega) (zIR_s (zIR_s (zIR_s (zIR_s (zIR_s (zIR_s (zIR_s (zIR_s (zIR_s (zIR_s (zIR_s (zIR_s (zIR_s (zIR_k (by omega) (by omega))))))))))))))) rfl rfl rfl ?_
                    intro M505 hJ506 f507 hn508
                    replace hb : zHd _ := hb (zi M505) (zi_zup hn508 f507 rfl rfl)
                    refine w_en dX9_blame_18 rfl ?_
                    show ZW _ _ _ _ _ _ _ (314, [some (.ref 386), some (.int v272_1), some (.int v272_2), some (.int v272_3), o272_4], [], M505)
                    refine w_lo dX9_goesOn_314 rfl rfl rfl rfl ?_
                    have f510 := (hn508 (386) 8 (Or.inr (by decide))).trans (f502)
                    refine w_gf dX9_goesOn_315 rfl hJ506.1.1 zs_386 f510 ?_
                    refine w_ile_f dX9_goesOn_318 (t := 323) rfl (by have := zt_1; omega) ?_
                    refine w_ic dX9_goesOn_321 zi_0 ?_
                    refine w_en dX9_goesOn_322 rfl ?_
                    exact ⟨_, _, rfl, (by have := zt_0; omega), (by have := zt_0; omega), hJ506, hb⟩
            · skip
              replace hb : zHd _ := hb.2 h402
              refine w_ine_f dX9_isWord_14 (t := 21) rfl (by omega) ?_
              refine w_ic dX9_isWord_17 zi_1 ?_
              refine w_gt dX9_isWord_18 (t := 22) rfl ?_
              refine w_en dX9_isWord_22 rfl ?_
              show ZW _ _ _ _ _ _ _ (283, [some (.ref 386), some (.int v272_1), some (.int v272_2), some (.int v272_3), o272_4], [.int 1], M)
              refine w_ine_t dX9_goesOn_283 (t := 296) rfl (by have := zt_1; omega) ?_
              refine w_lo dX9_goesOn_296 rfl rfl rfl rfl ?_
              refine w_gf dX9_goesOn_297 rfl hJ.1.1 zs_386 (zr_386_37 hJ.1) ?_
              refine w_lo dX9_goesOn_300 rfl rfl rfl rfl ?_
              refine w_iai dX9_goesOn_301 hJ.1 zs_410 (by omega) (by omega) zu_410 ?_
              intro x514 f511 h512 h513
              replace hb : zHd _ := hb x514.toInt (ziEk f511 rfl) h512 h513
              rcases Int.decEq x514.toInt (0 : Int) with h515 | h515
              · skip
                replace hb : zHd _ := hb.1 h515
                refine w_ine_t dX9_goesOn_302 (t := 314) rfl (by omega) ?_
                refine w_lo dX9_goesOn_314 rfl rfl rfl rfl ?_
                refine w_gfi dX9_goesOn_315 rfl hJ.1 zs_386 (Nat.le_of_ble_eq_true rfl) zo_386_8 ?_
                intro x516 f517 h518 h519
                replace hb : zHd _ := hb x516.toInt (ziE f517) h518 h519
                rcases zcut (0 : Int) x516.toInt with h520 | h520
                · skip
                  replace hb : zHd _ := hb.1 h520
                  refine w_ile_f dX9_goesOn_318 (t := 323) rfl (by omega) ?_
                  refine w_ic dX9_goesOn_321 zi_0 ?_
                  refine w_en dX9_goesOn_322 rfl ?_
                  exact ⟨_, _, rfl, (by have := zt_0; omega), (by have := zt_0; omega), hJ, hb⟩
                · skip
                  replace hb : zHd _ := hb.2 h520
                  refine w_ile_t dX9_goesOn_318 (t := 323) rfl (by omega) ?_
                  refine w_lo dX9_goesOn_323 rfl rfl rfl rfl ?_
                  refine w_me (st' := [.long (6385252 : Int64), .ref 386]) dX9_goesOn_324 rfl rfl rfl rfl rfl ?_
                  refine w_iv dX9_goesOn_327 rfl rfl (As := [.long (6385252 : Int64)]) rfl rfl hJ.1.1 zs_386 (Nat.le_of_ble_eq_true rfl) ?_
                  refine ZV.of (ini := false) rfl (Nat.le_of_ble_eq_true rfl) (by decide +kernel) ?_
                  show ZW _ _ _ _ _ _ _ (0, [some (.ref 386), some (.long (6385252 : Int64)), none], [], M)
                  refine w_lo dX9_isWord_0 rfl rfl rfl rfl ?_
                  refine w_gf dX9_isWord_1 rfl hJ.1.1 zs_386 f279 ?_
                  refine w_ic dX9_isWord_4 zi_1 ?_
                  refine w_cne_f dX9_isWord_5 (t := 21) rfl (by have := zt_1; omega) ?_
                  refine w_lo dX9_isWord_8 rfl rfl rfl rfl ?_
                  refine w_gf dX9_isWord_9 rfl hJ.1.1 zs_386 f396 ?_
                  refine w_lo dX9_isWord_12 rfl rfl rfl rfl ?_
                  refine w_lcm dX9_isWord_13 ?_
                  intro x521 h522
                  have := ztl_6385252
                  replace hb : zHd _ := hb x521.toInt (by omega)
                  rcases Int.decEq x521.toInt (0 : Int) with h523 | h523
                  · skip
                    replace hb : zHd _ := hb.1 h523
                    refine w_ine_t dX9_isWord_14 (t := 21) rfl (by omega) ?_
                    refine w_ic dX9_isWord_21 zi_0 ?_
                    refine w_en dX9_isWord_22 rfl ?_
                    show ZW _ _ _ _ _ _ _ (330, [some (.ref 386), some (.int v272_1), some (.int v272_2), some (.int v272_3), o272_4], [.int 0], M)
                    refine w_lo (ml' := [some (.ref 386), some (.int v272_1), some (.int v272_2), some (.int v272_3), some (.int 0)]) dX9_goesOn_330 rfl rfl rfl rfl ?_
                    refine w_lo dX9_goesOn_332 rfl rfl rfl rfl ?_
                    refine w_lo dX9_goesOn_333 rfl rfl rfl rfl ?_
                    refine w_ieq_t dX9_goesOn_335 (t := 342) rfl (by have := zt_0; omega) ?_
                    refine w_ic dX9_goesOn_342 zi_1 ?_
                    refine w_iv dX9_goesOn_343 rfl rfl (As := [.int 1]) rfl rfl hJ.1.1 zs_386 (Nat.le_of_ble_eq_true rfl) ?_
                    obtain ⟨P526, hp527, hb⟩ := hb
                    replace hb : zHd _ := hb
                    have hp527c : b_2337 (zi M) (1 : Int32).toInt P526 := by rw [zt_1]; exact hp527
                    refine ZV.imp (u_2337 1 hN hJ.1 hp527c) ?_
                    rintro _ ⟨M524, rfl, hJ525, hq528⟩
                    replace hb : zHd _ := hb  (zi M524) (zi_fr hJ525.2) hq528
                    have hJ530 := zJ_trans hJ hJ525 (zSub_cons (fun _ _ h h' hk => zIR_a (by omega) (by omega)) (zSub_cons (fun _ _ h h' hk => zIR_s (zIR_s (zIR_s (zIR_e (by omega) (by omega) hk)))) (zSub_cons (fun _ _ h h' hk => zIR_s (zIR_s (zIR_s (zIR_s (zIR_s (zIR_s (zIR_s (zIR_e (by omega) (by omega) hk)))))))) zSub_nil)))
                    show ZW _ _ _ _ _ _ _ (346, [some (.ref 386), some (.int v272_1), some (.int v272_2), some (.int v272_3), some (.int 0)], [], M524)
                    refine w_lo dX9_goesOn_346 rfl rfl rfl rfl ?_
                    refine w_lo dX9_goesOn_347 rfl rfl rfl rfl ?_
                    refine w_ieq_t dX9_goesOn_349 (t := 357) rfl (by have := zt_0; omega) ?_
                    refine w_bi dX9_goesOn_357 (c := 21) (by decide) ?_
                    refine w_iv dX9_goesOn_359 rfl rfl (As := [.int 21]) rfl rfl hJ530.1.1 zs_386 (Nat.le_of_ble_eq_true rfl) ?_
                    obtain ⟨P533, hp534, hb⟩ := hb
                    replace hb : zHd _ := hb
                    have hp534c : b_2332 (zi M524) (21 : Int32).toInt P533 := by rw [zt_21]; exact hp534
                    refine ZV.imp (u_2332 21 hN hJ530.1 hp534c) ?_
                    rintro _ ⟨M531, rfl, hJ532, hq535⟩
                    replace hb : zHd _ := hb  (zi M531) (zi_fr hJ532.2) hq535
                    have hJ537 := zJ_trans hJ530 hJ532 (zSub_cons (fun _ _ h h' hk => zIR_s (zIR_a (by omega) (by omega))) (zSub_cons (fun _ _ h h' hk => zIR_s (zIR_s (zIR_s (zIR_s (zIR_s (zIR_s (zIR_s (zIR_e (by omega) (by omega) hk)))))))) zSub_nil))
                    show ZW _ _ _ _ _ _ _ (362, [some (.ref 386), some (.int v272_1), some (.int v272_2), some (.int v272_3), some (.int 0)], [], M531)
                    refine w_lo dX9_goesOn_362 rfl rfl rfl rfl ?_
                    refine w_gf dX9_goesOn_363 rfl hJ537.1.1 zs_386 (zr_386_37 hJ537.1) ?_
                    refine w_lo dX9_goesOn_366 rfl rfl rfl rfl ?_
                    refine w_ic dX9_goesOn_367 zi_0 ?_
                    refine w_isi dX9_goesOn_368 hJ537 zs_410 (by omega) (by omega) zu_410 (by have := zt_0; omega) (by have := zt_0; omega) (zIR_a (by omega) (by omega)) ?_
                    intro M538 hJ539 f540 hn541
                    replace hb : zHd _ := hb (zi M538) (zi_zup hn541 f540 rfl zt_0)
                    refine w_lo dX9_goesOn_369 rfl rfl rfl rfl ?_
                    refine w_gf dX9_goesOn_370 rfl hJ539.1.1 zs_386 (zr_386_38 hJ539.1) ?_
                    refine w_lo dX9_goesOn_373 rfl rfl rfl rfl ?_
                    refine w_ic dX9_goesOn_374 zi_1 ?_
                    refine w_bsi dX9_goesOn_375 hJ539 zs_411 (by omega) (by omega) zu_411 (by have := zt_1; omega) (by have := zt_1; omega) (zIR_a (by omega) (by omega)) ?_
                    intro M543 hJ544 f545 hn546
                    replace hb : zHd _ := hb (zi M543) (zi_zup hn546 f545 rfl zt_1)
                    refine w_lo dX9_goesOn_376 rfl rfl rfl rfl ?_
                    refine w_iv dX9_goesOn_377 rfl rfl (As := []) rfl rfl hJ544.1.1 zs_386 (Nat.le_of_ble_eq_true rfl) ?_
                    obtain ⟨P550, hp551, hb⟩ := hb
                    replace hb : zHd _ := hb
                    refine ZV.imp (u_2310 hN hJ544.1 hp551) ?_
                    rintro _ ⟨M548, rfl, hJ549, hq552⟩
                    replace hb : zHd _ := hb  (zi M548) (zi_fr hJ549.2) hq552
                    have hJ554 := zJ_trans hJ544 hJ549 (zSub_cons (fun _ _ h h' hk => zIR_s (zIR_s (zIR_e (by omega) (by omega) hk))) (zSub_cons (fun _ _ h h' hk => zIR_s (zIR_s (zIR_s (zIR_s (zIR_e (by omega) (by omega) hk))))) (zSub_cons (fun _ _ h h' hk => zIR_s (zIR_s (zIR_s (zIR_s (zIR_s (zIR_s (zIR_s (zIR_s (zIR_s (zIR_e (by omega) (by omega) hk)))))))))) (zSub_cons (fun _ _ h h' hk => zIR_s (zIR_s (zIR_s (zIR_s (zIR_s (zIR_s (zIR_s (zIR_s (zIR_s (zIR_s (zIR_e (by omega) (by omega) hk))))))))))) (zSub_cons (fun _ _ h h' hk => zIR_s (zIR_s (zIR_s (zIR_s (zIR_s (zIR_s (zIR_s (zIR_s (zIR_s (zIR_s (zIR_s (zIR_e (by omega) (by omega) hk)))))))))))) (zSub_cons (fun _ _ h h' hk => zIR_s (zIR_s (zIR_s (zIR_s (zIR_s (zIR_s (zIR_s (zIR_s (zIR_s (zIR_s (zIR_s (zIR_s (zIR_e (by omega) (by omega) hk))))))))))))) (zSub_cons (fun _ _ h h' hk => zIR_s (zIR_s (zIR_s (zIR_s (zIR_s (zIR_s (zIR_s (zIR_s (zIR_s (zIR_s (zIR_s (zIR_s (zIR_s (zIR_e (by omega) (by omega) hk)))))))))))))) zSub_nil)))))))
                    show ZW _ _ _ _ _ _ _ (380, [some (.ref 386), some (.int v272_1), some (.int v272_2), some (.int v272_3), some (.int 0)], [], M548)
                    refine w_lo dX9_goesOn_380 rfl rfl rfl rfl ?_
                    refine w_ic dX9_goesOn_381 zi_0 ?_
                    refine w_pfi dX9_goesOn_382 rfl hJ554 zs_386 (Nat.le_of_ble_eq_true rfl) zo_386_45 (by have := zt_0; omega) (by have := zt_0; omega) (zIR_s (zIR_s (zIR_s (zIR_s (zIR_s (zIR_s (zIR_s (zIR_s (zIR_k (by omega) (by omega)))))))))) rfl rfl rfl ?_
                    intro M555 hJ556 f557 hn558
                    replace hb : zHd _ := hb (zi M555) (zi_zup hn558 f557 rfl zt_0)
                    refine w_ic dX9_goesOn_385 zi_1 ?_
                    refine w_en dX9_goesOn_386 rfl ?_
                    exact ⟨_, _, rfl, (by have := zt_1; omega), (by have := zt_1; omega), hJ556, hb⟩
                  · skip
                    replace hb : zHd _ := hb.2 h523
                    refine w_ine_f dX9_isWord_14 (t := 21) rfl (by omega) ?_
                    refine w_ic dX9_isWord_17 zi_1 ?_
                    refine w_gt dX9_isWord_18 (t := 22) rfl ?_
                    refine w_en dX9_isWord_22 rfl ?_
                    show ZW _ _ _ _ _ _ _ (330, [some (.ref 386), some (.int v272_1), some (.int v272_2), some (.int v272_3), o272_4], [.int 1], M)
                    refine w_lo (ml' := [some (.ref 386), some (.int v272_1), some (.int v272_2), some (.int v272_3), some (.int 1)]) dX9_goesOn_330 rfl rfl rfl rfl ?_
                    refine w_lo dX9_goesOn_332 rfl rfl rfl rfl ?_
                    refine w_lo dX9_goesOn_333 rfl rfl rfl rfl ?_
                    refine w_ieq_f dX9_goesOn_335 (t := 342) rfl (by have := zt_1; omega) ?_
                    refine w_ic dX9_goesOn_338 zi_2 ?_
                    refine w_gt dX9_goesOn_339 (t := 343) rfl ?_
                    refine w_iv dX9_goesOn_343 rfl rfl (As := [.int 2]) rfl rfl hJ.1.1 zs_386 (Nat.le_of_ble_eq_true rfl) ?_
                    obtain ⟨P562, hp563, hb⟩ := hb
                    replace hb : zHd _ := hb
                    have hp563c : b_2337 (zi M) (2 : Int32).toInt P562 := by rw [zt_2]; exact hp563
                    refine ZV.imp (u_2337 2 hN hJ.1 hp563c) ?_
                    rintro _ ⟨M560, rfl, hJ561, hq564⟩
                    replace hb : zHd _ := hb  (zi M560) (zi_fr hJ561.2) hq564
                    have hJ566 := zJ_trans hJ hJ561 (zSub_cons (fun _ _ h h' hk => zIR_a (by omega) (by omega)) (zSub_cons (fun _ _ h h' hk => zIR_s (zIR_s (zIR_s (zIR_e (by omega) (by omega) hk)))) (zSub_cons (fun _ _ h h' hk => zIR_s (zIR_s (zIR_s (zIR_s (zIR_s (zIR_s (zIR_s (zIR_e (by omega) (by omega) hk)))))))) zSub_nil)))
                    show ZW _ _ _ _ _ _ _ (346, [some (.ref 386), some (.int v272_1), some (.int v272_2), some (.int v272_3), some (.int 1)], [], M560)
                    refine w_lo dX9_goesOn_346 rfl rfl rfl rfl ?_
                    refine w_lo dX9_goesOn_347 rfl rfl rfl rfl ?_
                    refine w_ieq_f dX9_goesOn_349 (t := 357) rfl (by have := zt_1; omega) ?_
                    refine w_bi dX9_goesOn_352 (c := 20) (by decide) ?_
                    refine w_gt dX9_goesOn_354 (t := 359) rfl ?_
                    refine w_iv dX9_goesOn_359 rfl rfl (As := [.int 20]) rfl rfl hJ566.1.1 zs_386 (Nat.le_of_ble_eq_true rfl) ?_
                    obtain ⟨P569, hp570, hb⟩ := hb
                    replace hb : zHd _ := hb
                    have hp570c : b_2332 (zi M560) (20 : Int32).toInt P569 := by rw [zt_20]; exact hp570
                    refine ZV.imp (u_2332 20 hN hJ566.1 hp570c) ?_
                    rintro _ ⟨M567, rfl, hJ568, hq571⟩
                    replace hb : zHd _ := hb  (zi M567) (zi_fr hJ568.2) hq571
                    have hJ573 := zJ_trans hJ566 hJ568 (zSub_cons (fun _ _ h h' hk => zIR_s (zIR_a (by omega) (by omega))) (zSub_cons (fun _ _ h h' hk => zIR_s (zIR_s (zIR_s (zIR_s (zIR_s (zIR_s (zIR_s (zIR_e (by omega) (by omega) hk)))))))) zSub_nil))
                    show ZW _ _ _ _ _ _ _ (362, [some (.ref 386), some (.int v272_1), some (.int v272_2), some (.int v272_3), some (.int 1)], [], M567)
                    refine w_lo dX9_goesOn_362 rfl rfl rfl rfl ?_
                    refine w_gf dX9_goesOn_363 rfl hJ573.1.1 zs_386 (zr_386_37 hJ573.1) ?_
                    refine w_lo dX9_goesOn_366 rfl rfl rfl rfl ?_
                    refine w_ic dX9_goesOn_367 zi_0 ?_
                    refine w_isi dX9_goesOn_368 hJ573 zs_410 (by omega) (by omega) zu_410 (by have := zt_0; omega) (by have := zt_0; omega) (zIR_a (by omega) (by omega)) ?_
                    intro M574 hJ575 f576 hn577
                    replace hb : zHd _ := hb (zi M574) (zi_zup hn577 f576 rfl zt_0)
                    refine w_lo dX9_goesOn_369 rfl rfl rfl rfl ?_
                    refine w_gf dX9_goesOn_370 rfl hJ575.1.1 zs_386 (zr_386_38 hJ575.1) ?_
                    refine w_lo dX9_goesOn_373 rfl rfl rfl rfl ?_
                    refine w_ic dX9_goesOn_374 zi_1 ?_
                    refine w_bsi dX9_goesOn_375 hJ575 zs_411 (by omega) (by omega) zu_411 (by have := zt_1; omega) (by have := zt_1; omega) (zIR_a (by omega) (by omega)) ?_
                    intro M579 hJ580 f581 hn582
                    replace hb : zHd _ := hb (zi M579) (zi_zup hn582 f581 rfl zt_1)
                    refine w_lo dX9_goesOn_376 rfl rfl rfl rfl ?_
                    refine w_iv dX9_goesOn_377 rfl rfl (As := []) rfl rfl hJ580.1.1 zs_386 (Nat.le_of_ble_eq_true rfl) ?_
                    obtain ⟨P586, hp587, hb⟩ := hb
                    replace hb : zHd _ := hb
                    refine ZV.imp (u_2310 hN hJ580.1 hp587) ?_
                    rintro _ ⟨M584, rfl, hJ585, hq588⟩
                    replace hb : zHd _ := hb  (zi M584) (zi_fr hJ585.2) hq588
                    have hJ590 := zJ_trans hJ580 hJ585 (zSub_cons (fun _ _ h h' hk => zIR_s (zIR_s (zIR_e (by omega) (by omega) hk))) (zSub_cons (fun _ _ h h' hk => zIR_s (zIR_s (zIR_s (zIR_s (zIR_e (by omega) (by omega) hk))))) (zSub_cons (fun _ _ h h' hk => zIR_s (zIR_s (zIR_s (zIR_s (zIR_s (zIR_s (zIR_s (zIR_s (zIR_s (zIR_e (by omega) (by omega) hk)))))))))) (zSub_cons (fun _ _ h h' hk => zIR_s (zIR_s (zIR_s (zIR_s (zIR_s (zIR_s (zIR_s (zIR_s (zIR_s (zIR_s (zIR_e (by omega) (by omega) hk))))))))))) (zSub_cons (fun _ _ h h' hk => zIR_s (zIR_s (zIR_s (zIR_s (zIR_s (zIR_s (zIR_s (zIR_s (zIR_s (zIR_s (zIR_s (zIR_e (by omega) (by omega) hk)))))))))))) (zSub_cons (fun _ _ h h' hk => zIR_s (zIR_s (zIR_s (zIR_s (zIR_s (zIR_s (zIR_s (zIR_s (zIR_s (zIR_s (zIR_s (zIR_s (zIR_e (by omega) (by omega) hk))))))))))))) (zSub_cons (fun _ _ h h' hk => zIR_s (zIR_s (zIR_s (zIR_s (zIR_s (zIR_s (zIR_s (zIR_s (zIR_s (zIR_s (zIR_s (zIR_s (zIR_s (zIR_e (by omega) (by omega) hk)))))))))))))) zSub_nil)))))))
                    show ZW _ _ _ _ _ _ _ (380, [some (.ref 386), some (.int v272_1), some (.int v272_2), some (.int v272_3), some (.int 1)], [], M584)
                    refine w_lo dX9_goesOn_380 rfl rfl rfl rfl ?_
                    refine w_ic dX9_goesOn_381 zi_0 ?_
                    refine w_pfi dX9_goesOn_382 rfl hJ590 zs_386 (Nat.le_of_ble_eq_true rfl) zo_386_45 (by have := zt_0; omega) (by have := zt_0; omega) (zIR_s (zIR_s (zIR_s (zIR_s (zIR_s (zIR_s (zIR_s (zIR_s (zIR_k (by omega) (by omega)))))))))) rfl rfl rfl ?_
                    intro M591 hJ592 f593 hn594
                    replace hb : zHd _ := hb (zi M591) (zi_zup hn594 f593 rfl zt_0)
                    refine w_ic dX9_goesOn_385 zi_1 ?_
                    refine w_en dX9_goesOn_386 rfl ?_
                    exact ⟨_, _, rfl, (by have := zt_1; omega), (by have := zt_1; omega), hJ592, hb⟩
              · skip
                replace hb : zHd _ := hb.2 h515
                refine w_ine_f dX9_goesOn_302 (t := 314) rfl (by omega) ?_
                refine w_lo dX9_goesOn_305 rfl rfl rfl rfl ?_
                refine w_ic dX9_goesOn_306 zi_1 ?_
                refine w_lo dX9_goesOn_307 rfl rfl rfl rfl ?_
                refine w_gfi dX9_goesOn_308 rfl hJ.1 zs_386 (Nat.le_of_ble_eq_true rfl) zo_386_4 ?_
                intro x596 f597 h598 h599
                replace hb : zHd _ := hb x596.toInt (ziE f597) h598 h599
                refine w_iv dX9_goesOn_311 rfl rfl (As := [.int 1, .int x596]) rfl rfl hJ.1.1 zs_386 (Nat.le_of_ble_eq_true rfl) ?_
                refine ZV.of (ini := false) rfl (Nat.le_of_ble_eq_true rfl) (by decide +kernel) ?_
                show ZW _ _ _ _ _ _ _ (0, [some (.ref 386), some (.int 1), some (.int x596)], [], M)
                refine w_lo dX9_blame_0 rfl rfl rfl rfl ?_
                refine w_gfi dX9_blame_1 rfl hJ.1 zs_386 (Nat.le_of_ble_eq_true rfl) zo_386_8 ?_
                intro x600 f601 h602 h603
                replace hb : zHd _ := hb x600.toInt (ziE f601) h602 h603
                rcases zcut (0 : Int) x600.toInt with h604 | h604
                · skip
                  replace hb : zHd _ := hb.1 h604
                  refine w_ile_f dX9_blame_4 (t := 8) rfl (by omega) ?_
                  refine w_en dX9_blame_7 rfl ?_
                  show ZW _ _ _ _ _ _ _ (314, [some (.ref 386), some (.int v272_1), some (.int v272_2), some (.int v272_3), o272_4], [], M)
                  refine w_lo dX9_goesOn_314 rfl rfl rfl rfl ?_
                  refine w_gf dX9_goesOn_315 rfl hJ.1.1 zs_386 f601 ?_
                  refine w_ile_f dX9_goesOn_318 (t := 323) rfl (by omega) ?_
                  refine w_ic dX9_goesOn_321 zi_0 ?_
                  refine w_en dX9_goesOn_322 rfl ?_
                  exact ⟨_, _, rfl, (by have := zt_0; omega), (by have := zt_0; omega), hJ, hb⟩
                · skip
                  replace hb : zHd _ := hb.2 h604
                  refine w_ile_t dX9_blame_4 (t := 8) rfl (by omega) ?_
                  refine w_lo dX9_blame_8 rfl rfl rfl rfl ?_
                  refine w_lo dX9_blame_9 rfl rfl rfl rfl ?_
                  refine w_pfi dX9_blame_10 rfl hJ zs_386 (Nat.le_of_ble_eq_true rfl) zo_386_8 (by have := zt_1; omega) (by have := zt_1; omega) (zIR_s (zIR_s (zIR_s (zIR_s (zIR_s (zIR_s (zIR_s (zIR_s (zIR_s (zIR_s (zIR_s (zIR_s (zIR_k (by omega) (by omega)))))))))))))) rfl rfl rfl ?_
                  intro M605 hJ606 f607 hn608
                  replace hb : zHd _ := hb (zi M605) (zi_zup hn608 f607 rfl zt_1)
                  refine w_lo dX9_blame_13 rfl rfl rfl rfl ?_
                  refine w_lo dX9_blame_14 rfl rfl rfl rfl ?_
                  refine w_pfi dX9_blame_15 rfl hJ606 zs_386 (Nat.le_of_ble_eq_true rfl) zo_386_9 (by omega) (by omega) (zIR_s (zIR_s (zIR_s (zIR_s (zIR_s (zIR_s (zIR_s (zIR_s (zIR_s (zIR_s (zIR_s (zIR_s (zIR_s (zIR_k (by omega) (by omega))))))))))))))) rfl rfl rfl ?_
                  intro M610 hJ611 f612 hn613
                  replace hb : zHd _ := hb (zi M610) (zi_zup hn613 f612 rfl rfl)
                  refine w_en dX9_blame_18 rfl ?_
                  show ZW _ _ _ _ _ _ _ (314, [some (.ref 386), some (.int v272_1), some (.int v272_2), some (.int v272_3), o272_4], [], M610)
                  refine w_lo dX9_goesOn_314 rfl rfl rfl rfl ?_
                  have f615 := (hn613 (386) 8 (Or.inr (by decide))).trans (f607)
                  refine w_gf dX9_goesOn_315 rfl hJ611.1.1 zs_386 f615 ?_
                  refine w_ile_f dX9_goesOn_318 (t := 323) rfl (by have := zt_1; omega) ?_
                  refine w_ic dX9_goesOn_321 zi_0 ?_
                  refine w_en dX9_goesOn_322 rfl ?_
                  exact ⟨_, _, rfl, (by have := zt_0; omega), (by have := zt_0; omega), hJ611, hb⟩
        · skip
          replace hb : zHd _ := hb.2 h277
          refine w_ieq_t dX9_goesOn_273 (t := 387) rfl (by omega) ?_
          obtain ⟨m, hm, hI⟩ := hb
          exact (ih m hm).2.2.2.1 M v272_1 v272_2 v272_3 o272_4 hJ (by omega) (by omega) (by omega) (by omega) (by omega) (by omega) hI
      · intro M v387_1 v387_2 v387_3 o387_4 hJ v387_10 v387_11 v387_20 v387_21 v387_30 v387_31 hI
        have hb : zHd _ := hb387 n (zi M) v387_1.toInt v387_2.toInt v387_3.toInt (zi_fr hJ.2) v387_10 v387_11 v387_20 v387_21 v387_30 v387_31 hI
        refine w_lo dX9_goesOn_387 rfl rfl rfl rfl ?_
        rcases Int.decEq v387_3.toInt (0 : Int) with h616 | h616
        · skip
          replace hb : zHd _ := hb.1 h616
          refine w_ieq_f dX9_goesOn_388 (t := 409) rfl (by omega) ?_
          refine w_lo dX9_goesOn_391 rfl rfl rfl rfl ?_
          refine w_gf dX9_goesOn_392 rfl hJ.1.1 zs_386 (zr_386_37 hJ.1) ?_
          refine w_lo dX9_goesOn_395 rfl rfl rfl rfl ?_
          refine w_iai dX9_goesOn_396 hJ.1 zs_410 (by omega) (by omega) zu_410 ?_
          intro x620 f617 h618 h619
          replace hb : zHd _ := hb x620.toInt (ziEk f617 rfl) h618 h619
          rcases Int.decEq x620.toInt (0 : Int) with h621 | h621
          · skip
            replace hb : zHd _ := hb.1 h621
            refine w_ine_t dX9_goesOn_397 (t := 409) rfl (by omega) ?_
            obtain ⟨m, hm, hI⟩ := hb
            exact (ih m hm).2.2.2.2 M v387_1 v387_2 v387_3 o387_4 hJ (by omega) (by omega) (by omega) (by omega) hI
          · skip
            replace hb : zHd _ := hb.2 h621
            refine w_ine_f dX9_goesOn_397 (t := 409) rfl (by omega) ?_
            refine w_lo dX9_goesOn_400 rfl rfl rfl rfl ?_
            refine w_ic dX9_goesOn_401 zi_1 ?_
            refine w_lo dX9_goesOn_402 rfl rfl rfl rfl ?_
            refine w_gfi dX9_goesOn_403 rfl hJ.1 zs_386 (Nat.le_of_ble_eq_true rfl) zo_386_4 ?_
            intro x622 f623 h624 h625
            replace hb : zHd _ := hb x622.toInt (ziE f623) h624 h625
            refine w_iv dX9_goesOn_406 rfl rfl (As := [.int 1, .int x622]) rfl rfl hJ.1.1 zs_386 (Nat.le_of_ble_eq_true rfl) ?_
            refine ZV.of (ini := false) rfl (Nat.le_of_ble_eq_true rfl) (by decide +kernel) ?_
            show ZW _ _ _ _ _ _ _ (0, [some (.ref 386), some (.int 1), some (.int x622)], [], M)
            refine w_lo dX9_blame_0 rfl rfl rfl rfl ?_
            refine w_gfi dX9_blame_1 rfl hJ.1 zs_386 (Nat.le_of_ble_eq_true rfl) zo_386_8 ?_
            intro x626 f627 h628 h629
            replace hb : zHd _ := hb x626.toInt (ziE f627) h628 h629
            rcases zcut (0 : Int) x626.toInt with h630 | h630
            · skip
              replace hb : zHd _ := hb.1 h630
              refine w_ile_f dX9_blame_4 (t := 8) rfl (by omega) ?_
              refine w_en dX9_blame_7 rfl ?_
              show ZW _ _ _ _ _ _ _ (409, [some (.ref 386), some (.int v387_1), some (.int v387_2), some (.int v387_3), o387_4], [], M)
              obtain ⟨m, hm, hI⟩ := hb
              exact (ih m hm).2.2.2.2 M v387_1 v387_2 v387_3 o387_4 hJ (by omega) (by omega) (by omega) (by omega) hI
            · skip
              replace hb : zHd _ := hb.2 h630
              refine w_ile_t dX9_blame_4 (t := 8) rfl (by omega) ?_
              refine w_lo dX9_blame_8 rfl rfl rfl rfl ?_
              refine w_lo dX9_blame_9 rfl rfl rfl rfl ?_
              refine w_pfi dX9_blame_10 rfl hJ zs_386 (Nat.le_of_ble_eq_true rfl) zo_386_8 (by have := zt_1; omega) (by have := zt_1; omega) (zIR_s (zIR_s (zIR_s (zIR_s (zIR_s (zIR_s (zIR_s (zIR_s (zIR_s (zIR_s (zIR_s (zIR_s (zIR_k (by omega) (by omega)))))))))))))) rfl rfl rfl ?_
              intro M631 hJ632 f633 hn634
              replace hb : zHd _ := hb (zi M631) (zi_zup hn634 f633 rfl zt_1)
              refine w_lo dX9_blame_13 rfl rfl rfl rfl ?_
              refine w_lo dX9_blame_14 rfl rfl rfl rfl ?_
              refine w_pfi dX9_blame_15 rfl hJ632 zs_386 (Nat.le_of_ble_eq_true rfl) zo_386_9 (by omega) (by omega) (zIR_s (zIR_s (zIR_s (zIR_s (zIR_s (zIR_s (zIR_s (zIR_s (zIR_s (zIR_s (zIR_s (zIR_s (zIR_s (zIR_k (by omega) (by omega))))))))))))))) rfl rfl rfl ?_
              intro M636 hJ637 f638 hn639
              replace hb : zHd _ := hb (zi M636) (zi_zup hn639 f638 rfl rfl)
              refine w_en dX9_blame_18 rfl ?_
              show ZW _ _ _ _ _ _ _ (409, [some (.ref 386), some (.int v387_1), some (.int v387_2), some (.int v387_3), o387_4], [], M636)
              obtain ⟨m, hm, hI⟩ := hb
              exact (ih m hm).2.2.2.2 M636 v387_1 v387_2 v387_3 o387_4 hJ637 (by omega) (by omega) (by omega) (by omega) hI
        · skip
          replace hb : zHd _ := hb.2 h616
          refine w_ieq_t dX9_goesOn_388 (t := 409) rfl (by omega) ?_
          obtain ⟨m, hm, hI⟩ := hb
          exact (ih m hm).2.2.2.2 M v387_1 v387_2 v387_3 o387_4 hJ (by omega) (by omega) (by omega) (by omega) hI
      · intro M v409_1 v409_2 u409_3 o409_4 hJ v409_10 v409_11 v409_20 v409_21 hI
        have hb : zHd _ := hb409 n (zi M) v409_1.toInt v409_2.toInt (zi_fr hJ.2) v409_10 v409_11 v409_20 v409_21 hI
        refine w_lo dX9_goesOn_409 rfl rfl rfl rfl ?_
        refine w_ic dX9_goesOn_410 zi_2 ?_
        rcases zcut v409_2.toInt (2 : Int) with h641 | h641
        · skip
          replace hb : zHd _ := hb.1 h641
          refine w_cge_f dX9_goesOn_411 (t := 428) rfl (by have := zt_2; omega) ?_
          refine w_lo dX9_goesOn_414 rfl rfl rfl rfl ?_
          refine w_gfi dX9_goesOn_415 rfl hJ.1 zs_386 (Nat.le_of_ble_eq_true rfl) zo_386_8 ?_
          intro x642 f643 h644 h645
          replace hb : zHd _ := hb x642.toInt (ziE f643) h644 h645
          rcases Int.decEq x642.toInt (0 : Int) with h646 | h646
          · skip
            replace hb : zHd _ := hb.1 h646
            refine w_ine_t dX9_goesOn_418 (t := 426) rfl (by omega) ?_
            refine w_ic dX9_goesOn_426 zi_0 ?_
            refine w_en dX9_goesOn_427 rfl ?_
            exact ⟨_, _, rfl, (by have := zt_0; omega), (by have := zt_0; omega), hJ, hb⟩
          · skip
            replace hb : zHd _ := hb.2 h646
            refine w_ine_f dX9_goesOn_418 (t := 426) rfl (by omega) ?_
            refine w_lo dX9_goesOn_421 rfl rfl rfl rfl ?_
            refine w_ic dX9_goesOn_422 zi_1 ?_
            refine w_iv dX9_goesOn_423 rfl rfl (As := [.int 1]) rfl rfl hJ.1.1 zs_386 (Nat.le_of_ble_eq_true rfl) ?_
            obtain ⟨P649, hp650, hb⟩ := hb
            replace hb : zHd _ := hb
            have hp650c : b_2337 (zi M) (1 : Int32).toInt P649 := by rw [zt_1]; exact hp650
            refine ZV.imp (u_2337 1 hN hJ.1 hp650c) ?_
            rintro _ ⟨M647, rfl, hJ648, hq651⟩
            replace hb : zHd _ := hb  (zi M647) (zi_fr hJ648.2) hq651
            have hJ653 := zJ_trans hJ hJ648 (zSub_cons (fun _ _ h h' hk => zIR_a (by omega) (by omega)) (zSub_cons (fun _ _ h h' hk => zIR_s (zIR_s (zIR_s (zIR_e (by omega) (by omega) hk)))) (zSub_cons (fun _ _ h h' hk => zIR_s (zIR_s (zIR_s (zIR_s (zIR_s (zIR_s (zIR_s (zIR_e (by omega) (by omega) hk)))))))) zSub_nil)))
            show ZW _ _ _ _ _ _ _ (426, [some (.ref 386), some (.int v409_1), some (.int v409_2), some (.int u409_3), o409_4], [], M647)
            refine w_ic dX9_goesOn_426 zi_0 ?_
            refine w_en dX9_goesOn_427 rfl ?_
            exact ⟨_, _, rfl, (by have := zt_0; omega), (by have := zt_0; omega), hJ653, hb⟩
        · skip
          replace hb : zHd _ := hb.2 h641
          refine w_cge_t dX9_goesOn_411 (t := 428) rfl (by have := zt_2; omega) ?_
          refine w_lo dX9_goesOn_428 rfl rfl rfl rfl ?_
          refine w_ic dX9_goesOn_429 zi_3 ?_
          rcases Int.decEq v409_2.toInt (3 : Int) with h654 | h654
          · skip
            replace hb : zHd _ := hb.1 h654
            refine w_cne_t dX9_goesOn_430 (t := 483) rfl (by have := zt_3; omega) ?_
            refine w_lo dX9_goesOn_483 rfl rfl rfl rfl ?_
            refine w_lo dX9_goesOn_484 rfl rfl rfl rfl ?_
            refine w_ic dX9_goesOn_485 zi_5 ?_
            rcases Int.decEq v409_2.toInt (5 : Int) with h655 | h655
            · skip
              replace hb : zHd _ := hb.1 h655
              refine w_cne_t dX9_goesOn_486 (t := 494) rfl (by have := zt_5; omega) ?_
              refine w_bi dX9_goesOn_494 (c := 41) (by decide) ?_
              refine w_iv dX9_goesOn_496 rfl rfl (As := [.int 41]) rfl rfl hJ.1.1 zs_386 (Nat.le_of_ble_eq_true rfl) ?_
              refine ZV.of (ini := false) rfl (Nat.le_of_ble_eq_true rfl) (by decide +kernel) ?_
              show ZW _ _ _ _ _ _ _ (0, [some (.ref 386), some (.int 41)], [], M)
              refine w_lo dX9_isSign_0 rfl rfl rfl rfl ?_
              refine w_gfi dX9_isSign_1 rfl hJ.1 zs_386 (Nat.le_of_ble_eq_true rfl) zo_386_3 ?_
              intro x656 f657 h658 h659
              replace hb : zHd _ := hb x656.toInt (ziE f657) h658 h659
              refine w_ic dX9_isSign_4 zi_3 ?_
              rcases Int.decEq x656.toInt (3 : Int) with h660 | h660
              · skip
                replace hb : zHd _ := hb.1 h660
                refine w_cne_t dX9_isSign_5 (t := 20) rfl (by have := zt_3; omega) ?_
                refine w_ic dX9_isSign_20 zi_0 ?_
                refine w_en dX9_isSign_21 rfl ?_
                show ZW _ _ _ _ _ _ _ (499, [some (.ref 386), some (.int v409_1), some (.int v409_2), some (.int u409_3), o409_4], [.int 0], M)
                refine w_ine_f dX9_goesOn_499 (t := 511) rfl (by have := zt_0; omega) ?_
                refine w_lo dX9_goesOn_502 rfl rfl rfl rfl ?_
                refine w_ic dX9_goesOn_503 zi_1 ?_
                refine w_lo dX9_goesOn_504 rfl rfl rfl rfl ?_
                refine w_gfi dX9_goesOn_505 rfl hJ.1 zs_386 (Nat.le_of_ble_eq_true rfl) zo_386_4 ?_
                intro x661 f662 h663 h664
                replace hb : zHd _ := hb x661.toInt (ziE f662) h663 h664
                refine w_iv dX9_goesOn_508 rfl rfl (As := [.int 1, .int x661]) rfl rfl hJ.1.1 zs_386 (Nat.le_of_ble_eq_true rfl) ?_
                refine ZV.of (ini := false) rfl (Nat.le_of_ble_eq_true rfl) (by decide +kernel) ?_
                show ZW _ _ _ _ _ _ _ (0, [some (.ref 386), some (.int 1), some (.int x661)], [], M)
                refine w_lo dX9_blame_0 rfl rfl rfl rfl ?_
                refine w_gfi dX9_blame_1 rfl hJ.1 zs_386 (Nat.le_of_ble_eq_true rfl) zo_386_8 ?_
                intro x665 f666 h667 h668
                replace hb : zHd _ := hb x665.toInt (ziE f666) h667 h668
                rcases zcut (0 : Int) x665.toInt with h669 | h669
                · skip
                  replace hb : zHd _ := hb.1 h669
                  refine w_ile_f dX9_blame_4 (t := 8) rfl (by omega) ?_
                  refine w_en dX9_blame_7 rfl ?_
                  show ZW _ _ _ _ _ _ _ (511, [some (.ref 386), some (.int v409_1), some (.int v409_2), some (.int u409_3), o409_4], [], M)
                  refine w_lo dX9_goesOn_511 rfl rfl rfl rfl ?_
                  refine w_gf dX9_goesOn_512 rfl hJ.1.1 zs_386 f666 ?_
                  refine w_ile_f dX9_goesOn_515 (t := 520) rfl (by omega) ?_
                  refine w_ic dX9_goesOn_518 zi_0 ?_
                  refine w_en dX9_goesOn_519 rfl ?_
                  exact ⟨_, _, rfl, (by have := zt_0; omega), (by have := zt_0; omega), hJ, hb⟩
                · skip
                  replace hb : zHd _ := hb.2 h669
                  refine w_ile_t dX9_blame_4 (t := 8) rfl (by omega) ?_
                  refine w_lo dX9_blame_8 rfl rfl rfl rfl ?_
                  refine w_lo dX9_blame_9 rfl rfl rfl rfl ?_
                  refine w_pfi dX9_blame_10 rfl hJ zs_386 (Nat.le_of_ble_eq_true rfl) zo_386_8 (by have := zt_1; omega) (by have := zt_1; omega) (zIR_s (zIR_s (zIR_s (zIR_s (zIR_s (zIR_s (zIR_s (zIR_s (zIR_s (zIR_s (zIR_s (zIR_s (zIR_k (by omega) (by omega)))))))))))))) rfl rfl rfl ?_
                  intro M670 hJ671 f672 hn673
                  replace hb : zHd _ := hb (zi M670) (zi_zup hn673 f672 rfl zt_1)
                  refine w_lo dX9_blame_13 rfl rfl rfl rfl ?_
                  refine w_lo dX9_blame_14 rfl rfl rfl rfl ?_
                  refine w_pfi dX9_blame_15 rfl hJ671 zs_386 (Nat.le_of_ble_eq_true rfl) zo_386_9 (by omega) (by omega) (zIR_s (zIR_s (zIR_s (zIR_s (zIR_s (zIR_s (zIR_s (zIR_s (zIR_s (zIR_s (zIR_s (zIR_s (zIR_s (zIR_k (by omega) (by omega))))))))))))))) rfl rfl rfl ?_
                  intro M675 hJ676 f677 hn678
                  replace hb : zHd _ := hb (zi M675) (zi_zup hn678 f677 rfl rfl)
                  refine w_en dX9_blame_18 rfl ?_
                  show ZW _ _ _ _ _ _ _ (511, [some (.ref 386), some (.int v409_1), some (.int v409_2), some (.int u409_3), o409_4], [], M675)
                  refine w_lo dX9_goesOn_511 rfl rfl rfl rfl ?_
                  have f680 := (hn678 (386) 8 (Or.inr (by decide))).trans (f672)
                  refine w_gf dX9_goesOn_512 rfl hJ676.1.1 zs_386 f680 ?_
                  refine w_ile_f dX9_goesOn_515 (t := 520) rfl (by have := zt_1; omega) ?_
                  refine w_ic dX9_goesOn_518 zi_0 ?_
                  refine w_en dX9_goesOn_519 rfl ?_
                  exact ⟨_, _, rfl, (by have := zt_0; omega), (by have := zt_0; omega), hJ676, hb⟩
              · skip
                replace hb : zHd _ := hb.2 h660
                refine w_cne_f dX9_isSign_5 (t := 20) rfl (by have := zt_3; omega) ?_
                refine w_lo dX9_isSign_8 rfl rfl rfl rfl ?_
                refine w_gfi dX9_isSign_9 rfl hJ.1 zs_386 (Nat.le_of_ble_eq_true rfl) zo_386_6 ?_
                intro x681 f682 h683 h684
                replace hb : zHd _ := hb x681.toInt (ziE f682)
                refine w_lo dX9_isSign_12 rfl rfl rfl rfl ?_
                rcases Int.decEq x681.toInt (41 : Int) with h685 | h685
                · skip
                  replace hb : zHd _ := hb.1 h685
                  refine w_cne_t dX9_isSign_13 (t := 20) rfl (by have := zt_41; omega) ?_
                  refine w_ic dX9_isSign_20 zi_0 ?_
                  refine w_en dX9_isSign_21 rfl ?_
                  show ZW _ _ _ _ _ _ _ (499, [some (.ref 386), some (.int v409_1), some (.int v409_2), some (.int u409_3), o409_4], [.int 0], M)
                  refine w_ine_f dX9_goesOn_499 (t := 511) rfl (by have := zt_0; omega) ?_
                  refine w_lo dX9_goesOn_502 rfl rfl rfl rfl ?_
                  refine w_ic dX9_goesOn_503 zi_1 ?_
                  refine w_lo dX9_goesOn_504 rfl rfl rfl rfl ?_
                  refine w_gfi dX9_goesOn_505 rfl hJ.1 zs_386 (Nat.le_of_ble_eq_true rfl) zo_386_4 ?_
                  intro x686 f687 h688 h689
                  replace hb : zHd _ := hb x686.toInt (ziE f687) h688 h689
                  refine w_iv dX9_goesOn_508 rfl rfl (As := [.int 1, .int x686]) rfl rfl hJ.1.1 zs_386 (Nat.le_of_ble_eq_true rfl) ?_
                  refine ZV.of (ini := false) rfl (Nat.le_of_ble_eq_true rfl) (by decide +kernel) ?_
                  show ZW _ _ _ _ _ _ _ (0, [some (.ref 386), some (.int 1), some (.int x686)], [], M)
                  refine w_lo dX9_blame_0 rfl rfl rfl rfl ?_
                  refine w_gfi dX9_blame_1 rfl hJ.1 zs_386 (Nat.le_of_ble_eq_true rfl) zo_386_8 ?_
                  intro x690 f691 h692 h693
                  replace hb : zHd _ := hb x690.toInt (ziE f691) h692 h693
                  rcases zcut (0 : Int) x690.toInt with h694 | h694
                  · skip
                    replace hb : zHd _ := hb.1 h694
                    refine w_ile_f dX9_blame_4 (t := 8) rfl (by omega) ?_
                    refine w_en dX9_blame_7 rfl ?_
                    show ZW _ _ _ _ _ _ _ (511, [some (.ref 386), some (.int v409_1), some (.int v409_2), some (.int u409_3), o409_4], [], M)
                    refine w_lo dX9_goesOn_511 rfl rfl rfl rfl ?_
                    refine w_gf dX9_goesOn_512 rfl hJ.1.1 zs_386 f691 ?_
                    refine w_ile_f dX9_goesOn_515 (t := 520) rfl (by omega) ?_
                    refine w_ic dX9_goesOn_518 zi_0 ?_
                    refine w_en dX9_goesOn_519 rfl ?_
                    exact ⟨_, _, rfl, (by have := zt_0; omega), (by have := zt_0; omega), hJ, hb⟩
                  · skip
                    replace hb : zHd _ := hb.2 h694
                    refine w_ile_t dX9_blame_4 (t := 8) rfl (by omega) ?_
                    refine w_lo dX9_blame_8 rfl rfl rfl rfl ?_
                    refine w_lo dX9_blame_9 rfl rfl rfl rfl ?_
                    refine w_pfi dX9_blame_10 rfl hJ zs_386 (Nat.le_of_ble_eq_true rfl) zo_386_8 (by have := zt_1; omega) (by have := zt_1; omega) (zIR_s (zIR_s (zIR_s (zIR_s (zIR_s (zIR_s (zIR_s (zIR_s (zIR_s (zIR_s (zIR_s (zIR_s (zIR_k (by omega) (by omega)))))))))))))) rfl rfl rfl ?_
                    intro M695 hJ696 f697 hn698
                    replace hb : zHd _ := hb (zi M695) (zi_zup hn698 f697 rfl zt_1)
                    refine w_lo dX9_blame_13 rfl rfl rfl rfl ?_
                    refine w_lo dX9_blame_14 rfl rfl rfl rfl ?_
                    refine w_pfi dX9_blame_15 rfl hJ696 zs_386 (Nat.le_of_ble_eq_true rfl) zo_386_9 (by omega) (by omega) (zIR_s (zIR_s (zIR_s (zIR_s (zIR_s (zIR_s (zIR_s (zIR_s (zIR_s (zIR_s (zIR_s (zIR_s (zIR_s (zIR_k (by omega) (by omega))))))))))))))) rfl rfl rfl ?_
                    intro M700 hJ701 f702 hn703
                    replace hb : zHd _ := hb (zi M700) (zi_zup hn703 f702 rfl rfl)
                    refine w_en dX9_blame_18 rfl ?_
                    show ZW _ _ _ _ _ _ _ (511, [some (.ref 386), some (.int v409_1), some (.int v409_2), some (.int u409_3), o409_4], [], M700)
                    refine w_lo dX9_goesOn_511 rfl rfl rfl rfl ?_
                    have f705 := (hn703 (386) 8 (Or.inr (by decide))).trans (f697)
                    refine w_gf dX9_goesOn_512 rfl hJ701.1.1 zs_386 f705 ?_
                    refine w_ile_f dX9_goesOn_515 (t := 520) rfl (by have := zt_1; omega) ?_
                    refine w_ic dX9_goesOn_518 zi_0 ?_
                    refine w_en dX9_goesOn_519 rfl ?_
                    exact ⟨_, _, rfl, (by have := zt_0; omega), (by have := zt_0; omega), hJ701, hb⟩
                · skip
                  replace hb : zHd _ := hb.2 h685
                  refine w_cne_f dX9_isSign_13 (t := 20) rfl (by have := zt_41; omega) ?_
                  refine w_ic dX9_isSign_16 zi_1 ?_
                  refine w_gt dX9_isSign_17 (t := 21) rfl ?_
                  refine w_en dX9_isSign_21 rfl ?_
                  show ZW _ _ _ _ _ _ _ (499, [some (.ref 386), some (.int v409_1), some (.int v409_2), some (.int u409_3), o409_4], [.int 1], M)
                  refine w_ine_t dX9_goesOn_499 (t := 511) rfl (by have := zt_1; omega) ?_
                  refine w_lo dX9_goesOn_511 rfl rfl rfl rfl ?_
                  refine w_gfi dX9_goesOn_512 rfl hJ.1 zs_386 (Nat.le_of_ble_eq_true rfl) zo_386_8 ?_
                  intro x706 f707 h708 h709
                  replace hb : zHd _ := hb x706.toInt (ziE f707) h708 h709
                  rcases zcut (0 : Int) x706.toInt with h710 | h710
                  · skip
                    replace hb : zHd _ := hb.1 h710
                    refine w_ile_f dX9_goesOn_515 (t := 520) rfl (by omega) ?_
                    refine w_ic dX9_goesOn_518 zi_0 ?_
                    refine w_en dX9_goesOn_519 rfl ?_
                    exact ⟨_, _, rfl, (by have := zt_0; omega), (by have := zt_0; omega), hJ, hb⟩
                  · skip
                    replace hb : zHd _ := hb.2 h710
                    refine w_ile_t dX9_goesOn_515 (t := 520) rfl (by omega) ?_
                    refine w_lo dX9_goesOn_520 rfl rfl rfl rfl ?_
                    refine w_ic dX9_goesOn_521 zi_1 ?_
                    refine w_iv dX9_goesOn_522 rfl rfl (As := [.int 1]) rfl rfl hJ.1.1 zs_386 (Nat.le_of_ble_eq_true rfl) ?_
                    obtain ⟨P713, hp714, hb⟩ := hb
                    replace hb : zHd _ := hb
                    have hp714c : b_2337 (zi M) (1 : Int32).toInt P713 := by rw [zt_1]; exact hp714
                    refine ZV.imp (u_2337 1 hN hJ.1 hp714c) ?_
                    rintro _ ⟨M711, rfl, hJ712, hq715⟩
                    replace hb : zHd _ := hb  (zi M711) (zi_fr hJ712.2) hq715
                    have hJ717 := zJ_trans hJ hJ712 (zSub_cons (fun _ _ h h' hk => zIR_a (by omega) (by omega)) (zSub_cons (fun _ _ h h' hk => zIR_s (zIR_s (zIR_s (zIR_e (by omega) (by omega) hk)))) (zSub_cons (fun _ _ h h' hk => zIR_s (zIR_s (zIR_s (zIR_s (zIR_s (zIR_s (zIR_s (zIR_e (by omega) (by omega) hk)))))))) zSub_nil)))
                    show ZW _ _ _ _ _ _ _ (525, [some (.ref 386), some (.int v409_1), some (.int v409_2), some (.int u409_3), o409_4], [], M711)
                    refine w_lo dX9_goesOn_525 rfl rfl rfl rfl ?_
                    refine w_pu dX9_goesOn_526 rfl rfl ?_
                    refine w_gfi dX9_goesOn_527 rfl hJ717.1 zs_386 (Nat.le_of_ble_eq_true rfl) zo_386_41 ?_
                    intro x718 f719 h720 h721
                    replace hb : zHd _ := hb x718.toInt (ziE f719) h720 h721
                    refine w_ic dX9_goesOn_530 zi_1 ?_
                    refine w_sub dX9_goesOn_531 (by have := zt_1; omega) ?_
                    intro x722 h723
                    have := zt_1
                    replace hb : zHd _ := hb x722.toInt (by have := zt_1; omega)
                    have h728 := hb.1
                    replace hb : zHd _ := hb.2
                    refine w_pfi dX9_goesOn_532 rfl hJ717 zs_386 (Nat.le_of_ble_eq_true rfl) zo_386_41 (by omega) (by omega) (zIR_s (zIR_s (zIR_s (zIR_s (zIR_s (zIR_k (by omega) (by omega))))))) rfl rfl rfl ?_
                    intro M724 hJ725 f726 hn727
                    replace hb : zHd _ := hb (zi M724) (zi_zup hn727 f726 rfl rfl)
                    refine w_lo dX9_goesOn_535 rfl rfl rfl rfl ?_
                    refine w_pu dX9_goesOn_536 rfl rfl ?_
                    refine w_gfi dX9_goesOn_537 rfl hJ725.1 zs_386 (Nat.le_of_ble_eq_true rfl) zo_386_42 ?_
                    intro x730 f731 h732 h733
                    replace hb : zHd _ := hb x730.toInt (ziE f731) h732 h733
                    refine w_ic dX9_goesOn_540 zi_1 ?_
                    refine w_sub dX9_goesOn_541 (by have := zt_1; omega) ?_
                    intro x734 h735
                    have := zt_1
                    replace hb : zHd _ := hb x734.toInt (by have := zt_1; omega)
                    have h740 := hb.1
                    replace hb : zHd _ := hb.2
                    refine w_pfi dX9_goesOn_542 rfl hJ725 zs_386 (Nat.le_of_ble_eq_true rfl) zo_386_42 (by omega) (by omega) (zIR_s (zIR_s (zIR_s (zIR_s (zIR_s (zIR_s (zIR_k (by omega) (by omega)))))))) rfl rfl rfl ?_
                    intro M736 hJ737 f738 hn739
                    replace hb : zHd _ := hb (zi M736) (zi_zup hn739 f738 rfl rfl)
                    refine w_lo dX9_goesOn_545 rfl rfl rfl rfl ?_
                    refine w_ic dX9_goesOn_546 zi_4 ?_
                    rcases Int.decEq v409_2.toInt (4 : Int) with h742 | h742
                    · skip
                      replace hb : zHd _ := hb.1 h742
                      refine w_cne_t dX9_goesOn_547 (t := 561) rfl (by have := zt_4; omega) ?_
                      refine w_lo dX9_goesOn_561 rfl rfl rfl rfl ?_
                      refine w_ic dX9_goesOn_562 zi_5 ?_
                      refine w_cne_t dX9_goesOn_563 (t := 578) rfl (by have := zt_5; omega) ?_
                      refine w_lo dX9_goesOn_578 rfl rfl rfl rfl ?_
                      refine w_iv dX9_goesOn_579 rfl rfl (As := []) rfl rfl hJ737.1.1 zs_386 (Nat.le_of_ble_eq_true rfl) ?_
                      obtain ⟨P745, hp746, hb⟩ := hb
                      replace hb : zHd _ := hb
                      refine ZV.imp (u_2310 hN hJ737.1 hp746) ?_
                      rintro _ ⟨M743, rfl, hJ744, hq747⟩
                      replace hb : zHd _ := hb  (zi M743) (zi_fr hJ744.2) hq747
                      have hJ749 := zJ_trans hJ737 hJ744 (zSub_cons (fun _ _ h h' hk => zIR_s (zIR_s (zIR_e (by omega) (by omega) hk))) (zSub_cons (fun _ _ h h' hk => zIR_s (zIR_s (zIR_s (zIR_s (zIR_e (by omega) (by omega) hk))))) (zSub_cons (fun _ _ h h' hk => zIR_s (zIR_s (zIR_s (zIR_s (zIR_s (zIR_s (zIR_s (zIR_s (zIR_s (zIR_e (by omega) (by omega) hk)))))))))) (zSub_cons (fun _ _ h h' hk => zIR_s (zIR_s (zIR_s (zIR_s (zIR_s (zIR_s (zIR_s (zIR_s (zIR_s (zIR_s (zIR_e (by omega) (by omega) hk))))))))))) (zSub_cons (fun _ _ h h' hk => zIR_s (zIR_s (zIR_s (zIR_s (zIR_s (zIR_s (zIR_s (zIR_s (zIR_s (zIR_s (zIR_s (zIR_e (by omega) (by omega) hk)))))))))))) (zSub_cons (fun _ _ h h' hk => zIR_s (zIR_s (zIR_s (zIR_s (zIR_s (zIR_s (zIR_s (zIR_s (zIR_s (zIR_s (zIR_s (zIR_s (zIR_e (by omega) (by omega) hk))))))))))))) (zSub_cons (fun _ _ h h' hk => zIR_s (zIR_s (zIR_s (zIR_s (zIR_s (zIR_s (zIR_s (zIR_s (zIR_s (zIR_s (zIR_s (zIR_s (zIR_s (zIR_e (by omega) (by omega) hk)))))))))))))) zSub_nil)))))))
                      show ZW _ _ _ _ _ _ _ (582, [some (.ref 386), some (.int v409_1), some (.int v409_2), some (.int u409_3), o409_4], [], M743)
                      refine w_ic dX9_goesOn_582 zi_1 ?_
                      refine w_en dX9_goesOn_583 rfl ?_
                      exact ⟨_, _, rfl, (by have := zt_1; omega), (by have := zt_1; omega), hJ749, hb⟩
                    · skip
                      replace hb : zHd _ := hb.2 h742
                      refine w_cne_f dX9_goesOn_547 (t := 561) rfl (by have := zt_4; omega) ?_
                      refine w_lo dX9_goesOn_550 rfl rfl rfl rfl ?_
                      refine w_lo dX9_goesOn_551 rfl rfl rfl rfl ?_
                      refine w_gf dX9_goesOn_552 rfl hJ737.1.1 zs_386 (zr_386_39 hJ737.1) ?_
                      refine w_lo dX9_goesOn_555 rfl rfl rfl rfl ?_
                      refine w_iai dX9_goesOn_556 hJ737.1 zs_412 (by omega) (by omega) zu_412 ?_
                      intro x753 f750 h751 h752
                      replace hb : zHd _ := hb x753.toInt (ziEk f750 rfl) h751 h752
                      refine w_ic dX9_goesOn_557 zi_0 ?_
                      refine w_iv dX9_goesOn_558 rfl rfl (As := [.int x753, .int 0]) rfl rfl hJ737.1.1 zs_386 (Nat.le_of_ble_eq_true rfl) ?_
                      obtain ⟨P756, hp757, hb⟩ := hb
                      replace hb : zHd _ := hb
                      have hp757c : b_2335 (zi M736) x753.toInt (0 : Int32).toInt P756 := by rw [zt_0]; exact hp757
                      refine ZV.imp (u_2335 x753 0 hN hJ737.1 hp757c) ?_
                      rintro _ ⟨M754, rfl, hJ755, hq758⟩
                      replace hb : zHd _ := hb  (zi M754) (zi_fr hJ755.2) hq758
                      have hJ760 := zJ_trans hJ737 hJ755 (zSub_cons (fun _ _ h h' hk => zIR_a (by omega) (by omega)) (zSub_cons (fun _ _ h h' hk => zIR_s (zIR_s (zIR_s (zIR_e (by omega) (by omega) hk)))) zSub_nil))
                      show ZW _ _ _ _ _ _ _ (561, [some (.ref 386), some (.int v409_1), some (.int v409_2), some (.int u409_3), o409_4], [], M754)
                      refine w_lo dX9_goesOn_561 rfl rfl rfl rfl ?_
                      refine w_ic dX9_goesOn_562 zi_5 ?_
                      refine w_cne_t dX9_goesOn_563 (t := 578) rfl (by have := zt_5; omega) ?_
                      refine w_lo dX9_goesOn_578 rfl rfl rfl rfl ?_
                      refine w_iv dX9_goesOn_579 rfl rfl (As := []) rfl rfl hJ760.1.1 zs_386 (Nat.le_of_ble_eq_true rfl) ?_
                      obtain ⟨P763, hp764, hb⟩ := hb
                      replace hb : zHd _ := hb
                      refine ZV.imp (u_2310 hN hJ760.1 hp764) ?_
                      rintro _ ⟨M761, rfl, hJ762, hq765⟩
                      replace hb : zHd _ := hb  (zi M761) (zi_fr hJ762.2) hq765
                      have hJ767 := zJ_trans hJ760 hJ762 (zSub_cons (fun _ _ h h' hk => zIR_s (zIR_s (zIR_e (by omega) (by omega) hk))) (zSub_cons (fun _ _ h h' hk => zIR_s (zIR_s (zIR_s (zIR_s (zIR_e (by omega) (by omega) hk))))) (zSub_cons (fun _ _ h h' hk => zIR_s (zIR_s (zIR_s (zIR_s (zIR_s (zIR_s (zIR_s (zIR_s (zIR_s (zIR_e (by omega) (by omega) hk)))))))))) (zSub_cons (fun _ _ h h' hk => zIR_s (zIR_s (zIR_s (zIR_s (zIR_s (zIR_s (zIR_s (zIR_s (zIR_s (zIR_s (zIR_e (by omega) (by omega) hk))))))))))) (zSub_cons (fun _ _ h h' hk => zIR_s (zIR_s (zIR_s (zIR_s (zIR_s (zIR_s (zIR_s (zIR_s (zIR_s (zIR_s (zIR_s (zIR_e (by omega) (by omega) hk)))))))))))) (zSub_cons (fun _ _ h h' hk => zIR_s (zIR_s (zIR_s (zIR_s (zIR_s (zIR_s (zIR_s (zIR_s (zIR_s (zIR_s (zIR_s (zIR_s (zIR_e (by omega) (by omega) hk))))))))))))) (zSub_cons (fun _ _ h h' hk => zIR_s (zIR_s (zIR_s (zIR_s (zIR_s (zIR_s (zIR_s (zIR_s (zIR_s (zIR_s (zIR_s (zIR_s (zIR_s (zIR_e (by omega) (by omega) hk)))))))))))))) zSub_nil)))))))
                      show ZW _ _ _ _ _ _ _ (582, [some (.ref 386), some (.int v409_1), some (.int v409_2), some (.int u409_3), o409_4], [], M761)
                      refine w_ic dX9_goesOn_582 zi_1 ?_
                      refine w_en dX9_goesOn_583 rfl ?_
                      exact ⟨_, _, rfl, (by have := zt_1; omega), (by have := zt_1; omega), hJ767, hb⟩
            · skip
              replace hb : zHd _ := hb.2 h655
              refine w_cne_f dX9_goesOn_486 (t := 494) rfl (by have := zt_5; omega) ?_
              refine w_bi dX9_goesOn_489 (c := 93) (by decide) ?_
              refine w_gt dX9_goesOn_491 (t := 496) rfl ?_
              refine w_iv dX9_goesOn_496 rfl rfl (As := [.int 93]) rfl rfl hJ.1.1 zs_386 (Nat.le_of_ble_eq_true rfl) ?_
              refine ZV.of (ini := false) rfl (Nat.le_of_ble_eq_true rfl) (by decide +kernel) ?_
              show ZW _ _ _ _ _ _ _ (0, [some (.ref 386), some (.int 93)], [], M)
              refine w_lo dX9_isSign_0 rfl rfl rfl rfl ?_
              refine w_gfi dX9_isSign_1 rfl hJ.1 zs_386 (Nat.le_of_ble_eq_true rfl) zo_386_3 ?_
              intro x768 f769 h770 h771
              replace hb : zHd _ := hb x768.toInt (ziE f769) h770 h771
              refine w_ic dX9_isSign_4 zi_3 ?_
              rcases Int.decEq x768.toInt (3 : Int) with h772 | h772
              · skip
                replace hb : zHd _ := hb.1 h772
                refine w_cne_t dX9_isSign_5 (t := 20) rfl (by have := zt_3; omega) ?_
                refine w_ic dX9_isSign_20 zi_0 ?_
                refine w_en dX9_isSign_21 rfl ?_
                show ZW _ _ _ _ _ _ _ (499, [some (.ref 386), some (.int v409_1), some (.int v409_2), some (.int u409_3), o409_4], [.int 0], M)
                refine w_ine_f dX9_goesOn_499 (t := 511) rfl (by have := zt_0; omega) ?_
                refine w_lo dX9_goesOn_502 rfl rfl rfl rfl ?_
                refine w_ic dX9_goesOn_503 zi_1 ?_
                refine w_lo dX9_goesOn_504 rfl rfl rfl rfl ?_
                refine w_gfi dX9_goesOn_505 rfl hJ.1 zs_386 (Nat.le_of_ble_eq_true rfl) zo_386_4 ?_
                intro x773 f774 h775 h776
                replace hb : zHd _ := hb x773.toInt (ziE f774) h775 h776
                refine w_iv dX9_goesOn_508 rfl rfl (As := [.int 1, .int x773]) rfl rfl hJ.1.1 zs_386 (Nat.le_of_ble_eq_true rfl) ?_
                refine ZV.of (ini := false) rfl (Nat.le_of_ble_eq_true rfl) (by decide +kernel) ?_
                show ZW _ _ _ _ _ _ _ (0, [some (.ref 386), some (.int 1), some (.int x773)], [], M)
                refine w_lo dX9_blame_0 rfl rfl rfl rfl ?_
                refine w_gfi dX9_blame_1 rfl hJ.1 zs_386 (Nat.le_of_ble_eq_true rfl) zo_386_8 ?_
                intro x777 f778 h779 h780
                replace hb : zHd _ := hb x777.toInt (ziE f778) h779 h780
                rcases zcut (0 : Int) x777.toInt with h781 | h781
                · skip
                  replace hb : zHd _ := hb.1 h781
                  refine w_ile_f dX9_blame_4 (t := 8) rfl (by omega) ?_
                  refine w_en dX9_blame_7 rfl ?_
                  show ZW _ _ _ _ _ _ _ (511, [some (.ref 386), some (.int v409_1), some (.int v409_2), some (.int u409_3), o409_4], [], M)
                  refine w_lo dX9_goesOn_511 rfl rfl rfl rfl ?_
                  refine w_gf dX9_goesOn_512 rfl hJ.1.1 zs_386 f778 ?_
                  refine w_ile_f dX9_goesOn_515 (t := 520) rfl (by omega) ?_
                  refine w_ic dX9_goesOn_518 zi_0 ?_
                  refine w_en dX9_goesOn_519 rfl ?_
                  exact ⟨_, _, rfl, (by have := zt_0; omega), (by have := zt_0; omega), hJ, hb⟩
                · skip
                  replace hb : zHd _ := hb.2 h781
                  refine w_ile_t dX9_blame_4 (t := 8) rfl (by omega) ?_
                  refine w_lo dX9_blame_8 rfl rfl rfl rfl ?_
                  refine w_lo dX9_blame_9 rfl rfl rfl rfl ?_
                  refine w_pfi dX9_blame_10 rfl hJ zs_386 (Nat.le_of_ble_eq_true rfl) zo_386_8 (by have := zt_1; omega) (by have := zt_1; omega) (zIR_s (zIR_s (zIR_s (zIR_s (zIR_s (zIR_s (zIR_s (zIR_s (zIR_s (zIR_s (zIR_s (zIR_s (zIR_k (by omega) (by omega)))))))))))))) rfl rfl rfl ?_
                  intro M782 hJ783 f784 hn785
                  replace hb : zHd _ := hb (zi M782) (zi_zup hn785 f784 rfl zt_1)
                  refine w_lo dX9_blame_13 rfl rfl rfl rfl ?_
                  refine w_lo dX9_blame_14 rfl rfl rfl rfl ?_
                  refine w_pfi dX9_blame_15 rfl hJ783 zs_386 (Nat.le_of_ble_eq_true rfl) zo_386_9 (by omega) (by omega) (zIR_s (zIR_s (zIR_s (zIR_s (zIR_s (zIR_s (zIR_s (zIR_s (zIR_s (zIR_s (zIR_s (zIR_s (zIR_s (zIR_k (by omega) (by omega))))))))))))))) rfl rfl rfl ?_
                  intro M787 hJ788 f789 hn790
                  replace hb : zHd _ := hb (zi M787) (zi_zup hn790 f789 rfl rfl)
                  refine w_en dX9_blame_18 rfl ?_
                  show ZW _ _ _ _ _ _ _ (511, [some (.ref 386), some (.int v409_1), some (.int v409_2), some (.int u409_3), o409_4], [], M787)
                  refine w_lo dX9_goesOn_511 rfl rfl rfl rfl ?_
                  have f792 := (hn790 (386) 8 (Or.inr (by decide))).trans (f784)
                  refine w_gf dX9_goesOn_512 rfl hJ788.1.1 zs_386 f792 ?_
                  refine w_ile_f dX9_goesOn_515 (t := 520) rfl (by have := zt_1; omega) ?_
                  refine w_ic dX9_goesOn_518 zi_0 ?_
                  refine w_en dX9_goesOn_519 rfl ?_
                  exact ⟨_, _, rfl, (by have := zt_0; omega), (by have := zt_0; omega), hJ788, hb⟩
              · skip
                replace hb : zHd _ := hb.2 h772
                refine w_cne_f dX9_isSign_5 (t := 20) rfl (by have := zt_3; omega) ?_
                refine w_lo dX9_isSign_8 rfl rfl rfl rfl ?_
                refine w_gfi dX9_isSign_9 rfl hJ.1 zs_386 (Nat.le_of_ble_eq_true rfl) zo_386_6 ?_
                intro x793 f794 h795 h796
                replace hb : zHd _ := hb x793.toInt (ziE f794)
                refine w_lo dX9_isSign_12 rfl rfl rfl rfl ?_
                rcases Int.decEq x793.toInt (93 : Int) with h797 | h797
                · skip
                  replace hb : zHd _ := hb.1 h797
                  refine w_cne_t dX9_isSign_13 (t := 20) rfl (by have := zt_93; omega) ?_
                  refine w_ic dX9_isSign_20 zi_0 ?_
                  refine w_en dX9_isSign_21 rfl ?_
                  show ZW _ _ _ _ _ _ _ (499, [some (.ref 386), some (.int v409_1), some (.int v409_2), some (.int u409_3), o409_4], [.int 0], M)
                  refine w_ine_f dX9_goesOn_499 (t := 511) rfl (by have := zt_0; omega) ?_
                  refine w_lo dX9_goesOn_502 rfl rfl rfl rfl ?_
                  refine w_ic dX9_goesOn_503 zi_1 ?_
                  refine w_lo dX9_goesOn_504 rfl rfl rfl rfl ?_
                  refine w_gfi dX9_goesOn_505 rfl hJ.1 zs_386 (Nat.le_of_ble_eq_true rfl) zo_386_4 ?_
                  intro x798 f799 h800 h801
                  replace hb : zHd _ := hb x798.toInt (ziE f799) h800 h801
                  refine w_iv dX9_goesOn_508 rfl rfl (As := [.int 1, .int x798]) rfl rfl hJ.1.1 zs_386 (Nat.le_of_ble_eq_true rfl) ?_
                  refine ZV.of (ini := false) rfl (Nat.le_of_ble_eq_true rfl) (by decide +kernel) ?_
                  show ZW _ _ _ _ _ _ _ (0, [some (.ref 386), some (.int 1), some (.int x798)], [], M)
                  refine w_lo dX9_blame_0 rfl rfl rfl rfl ?_
                  refine w_gfi dX9_blame_1 rfl hJ.1 zs_386 (Nat.le_of_ble_eq_true rfl) zo_386_8 ?_
                  intro x802 f803 h804 h805
                  replace hb : zHd _ := hb x802.toInt (ziE f803) h804 h805
                  rcases zcut (0 : Int) x802.toInt with h806 | h806
                  · skip
                    replace hb : zHd _ := hb.1 h806
                    refine w_ile_f dX9_blame_4 (t := 8) rfl (by omega) ?_
                    refine w_en dX9_blame_7 rfl ?_
                    show ZW _ _ _ _ _ _ _ (511, [some (.ref 386), some (.int v409_1), some (.int v409_2), some (.int u409_3), o409_4], [], M)
                    refine w_lo dX9_goesOn_511 rfl rfl rfl rfl ?_
                    refine w_gf dX9_goesOn_512 rfl hJ.1.1 zs_386 f803 ?_
                    refine w_ile_f dX9_goesOn_515 (t := 520) rfl (by omega) ?_
                    refine w_ic dX9_goesOn_518 zi_0 ?_
                    refine w_en dX9_goesOn_519 rfl ?_
                    exact ⟨_, _, rfl, (by have := zt_0; omega), (by have := zt_0; omega), hJ, hb⟩
                  · skip
                    replace hb : zHd _ := hb.2 h806
                    refine w_ile_t dX9_blame_4 (t := 8) rfl (by omega) ?_
                    refine w_lo dX9_blame_8 rfl rfl rfl rfl ?_
                    refine w_lo dX9_blame_9 rfl rfl rfl rfl ?_
                    refine w_pfi dX9_blame_10 rfl hJ zs_386 (Nat.le_of_ble_eq_true rfl) zo_386_8 (by have := zt_1; omega) (by have := zt_1; omega) (zIR_s (zIR_s (zIR_s (zIR_s (zIR_s (zIR_s (zIR_s (zIR_s (zIR_s (zIR_s (zIR_s (zIR_s (zIR_k (by omega) (by omega)))))))))))))) rfl rfl rfl ?_
                    intro M807 hJ808 f809 hn810
                    replace hb : zHd _ := hb (zi M807) (zi_zup hn810 f809 rfl zt_1)
                    refine w_lo dX9_blame_13 rfl rfl rfl rfl ?_
                    refine w_lo dX9_blame_14 rfl rfl rfl rfl ?_
                    refine w_pfi dX9_blame_15 rfl hJ808 zs_386 (Nat.le_of_ble_eq_true rfl) zo_386_9 (by omega) (by omega) (zIR_s (zIR_s (zIR_s (zIR_s (zIR_s (zIR_s (zIR_s (zIR_s (zIR_s (zIR_s (zIR_s (zIR_s (zIR_s (zIR_k (by omega) (by omega))))))))))))))) rfl rfl rfl ?_
                    intro M812 hJ813 f814 hn815
                    replace hb : zHd _ := hb (zi M812) (zi_zup hn815 f814 rfl rfl)
                    refine w_en dX9_blame_18 rfl ?_
                    show ZW _ _ _ _ _ _ _ (511, [some (.ref 386), some (.int v409_1), some (.int v409_2), some (.int u409_3), o409_4], [], M812)
                    refine w_lo dX9_goesOn_511 rfl rfl rfl rfl ?_
                    have f817 := (hn815 (386) 8 (Or.inr (by decide))).trans (f809)
                    refine w_gf dX9_goesOn_512 rfl hJ813.1.1 zs_386 f817 ?_
                    refine w_ile_f dX9_goesOn_515 (t := 520) rfl (by have := zt_1; omega) ?_
                    refine w_ic dX9_goesOn_518 zi_0 ?_
                    refine w_en dX9_goesOn_519 rfl ?_
                    exact ⟨_, _, rfl, (by have := zt_0; omega), (by have := zt_0; omega), hJ813, hb⟩
                · skip
                  replace hb : zHd _ := hb.2 h797
                  refine w_cne_f dX9_isSign_13 (t := 20) rfl (by have := zt_93; omega) ?_
                  refine w_ic dX9_isSign_16 zi_1 ?_
                  refine w_gt dX9_isSign_17 (t := 21) rfl ?_
                  refine w_en dX9_isSign_21 rfl ?_
                  show ZW _ _ _ _ _ _ _ (499, [some (.ref 386), some (.int v409_1), some (.int v409_2), some (.int u409_3), o409_4], [.int 1], M)
                  refine w_ine_t dX9_goesOn_499 (t := 511) rfl (by have := zt_1; omega) ?_
                  refine w_lo dX9_goesOn_511 rfl rfl rfl rfl ?_
                  refine w_gfi dX9_goesOn_512 rfl hJ.1 zs_386 (Nat.le_of_ble_eq_true rfl) zo_386_8 ?_
                  intro x818 f819 h820 h821
                  replace hb : zHd _ := hb x818.toInt (ziE f819) h820 h821
                  rcases zcut (0 : Int) x818.toInt with h822 | h822
                  · skip
                    replace hb : zHd _ := hb.1 h822
                    refine w_ile_f dX9_goesOn_515 (t := 520) rfl (by omega) ?_
                    refine w_ic dX9_goesOn_518 zi_0 ?_
                    refine w_en dX9_goesOn_519 rfl ?_
                    exact ⟨_, _, rfl, (by have := zt_0; omega), (by have := zt_0; omega), hJ, hb⟩
                  · skip
                    replace hb : zHd _ := hb.2 h822
                    refine w_ile_t dX9_goesOn_515 (t := 520) rfl (by omega) ?_
                    refine w_lo dX9_goesOn_520 rfl rfl rfl rfl ?_
                    refine w_ic dX9_goesOn_521 zi_1 ?_
                    refine w_iv dX9_goesOn_522 rfl rfl (As := [.int 1]) rfl rfl hJ.1.1 zs_386 (Nat.le_of_ble_eq_true rfl) ?_
                    obtain ⟨P825, hp826, hb⟩ := hb
                    replace hb : zHd _ := hb
                    have hp826c : b_2337 (zi M) (1 : Int32).toInt P825 := by rw [zt_1]; exact hp826
                    refine ZV.imp (u_2337 1 hN hJ.1 hp826c) ?_
                    rintro _ ⟨M823, rfl, hJ824, hq827⟩
                    replace hb : zHd _ := hb  (zi M823) (zi_fr hJ824.2) hq827
                    have hJ829 := zJ_trans hJ hJ824 (zSub_cons (fun _ _ h h' hk => zIR_a (by omega) (by omega)) (zSub_cons (fun _ _ h h' hk => zIR_s (zIR_s (zIR_s (zIR_e (by omega) (by omega) hk)))) (zSub_cons (fun _ _ h h' hk => zIR_s (zIR_s (zIR_s (zIR_s (zIR_s (zIR_s (zIR_s (zIR_e (by omega) (by omega) hk)))))))) zSub_nil)))
                    show ZW _ _ _ _ _ _ _ (525, [some (.ref 386), some (.int v409_1), some (.int v409_2), some (.int u409_3), o409_4], [], M823)
                    refine w_lo dX9_goesOn_525 rfl rfl rfl rfl ?_
                    refine w_pu dX9_goesOn_526 rfl rfl ?_
                    refine w_gfi dX9_goesOn_527 rfl hJ829.1 zs_386 (Nat.le_of_ble_eq_true rfl) zo_386_41 ?_
                    intro x830 f831 h832 h833
                    replace hb : zHd _ := hb x830.toInt (ziE f831) h832 h833
                    refine w_ic dX9_goesOn_530 zi_1 ?_
                    refine w_sub dX9_goesOn_531 (by have := zt_1; omega) ?_
                    intro x834 h835
                    have := zt_1
                    replace hb : zHd _ := hb x834.toInt (by have := zt_1; omega)
                    have h840 := hb.1
                    replace hb : zHd _ := hb.2
                    refine w_pfi dX9_goesOn_532 rfl hJ829 zs_386 (Nat.le_of_ble_eq_true rfl) zo_386_41 (by omega) (by omega) (zIR_s (zIR_s (zIR_s (zIR_s (zIR_s (zIR_k (by omega) (by omega))))))) rfl rfl rfl ?_
                    intro M836 hJ837 f838 hn839
                    replace hb : zHd _ := hb (zi M836) (zi_zup hn839 f838 rfl rfl)
                    refine w_lo dX9_goesOn_535 rfl rfl rfl rfl ?_
                    refine w_pu dX9_goesOn_536 rfl rfl ?_
                    refine w_gfi dX9_goesOn_537 rfl hJ837.1 zs_386 (Nat.le_of_ble_eq_true rfl) zo_386_42 ?_
                    intro x842 f843 h844 h845
                    replace hb : zHd _ := hb x842.toInt (ziE f843) h844 h845
                    refine w_ic dX9_goesOn_540 zi_1 ?_
                    refine w_sub dX9_goesOn_541 (by have := zt_1; omega) ?_
                    intro x846 h847
                    have := zt_1
                    replace hb : zHd _ := hb x846.toInt (by have := zt_1; omega)
                    have h852 := hb.1
                    replace hb : zHd _ := hb.2
                    refine w_pfi dX9_goesOn_542 rfl hJ837 zs_386 (Nat.le_of_ble_eq_true rfl) zo_386_42 (by omega) (by omega) (zIR_s (zIR_s (zIR_s (zIR_s (zIR_s (zIR_s (zIR_k (by omega) (by omega)))))))) rfl rfl rfl ?_
                    intro M848 hJ849 f850 hn851
                    replace hb : zHd _ := hb (zi M848) (zi_zup hn851 f850 rfl rfl)
                    refine w_lo dX9_goesOn_545 rfl rfl rfl rfl ?_
                    refine w_ic dX9_goesOn_546 zi_4 ?_
                    refine w_cne_t dX9_goesOn_547 (t := 561) rfl (by have := zt_4; omega) ?_
                    refine w_lo dX9_goesOn_561 rfl rfl rfl rfl ?_
                    refine w_ic dX9_goesOn_562 zi_5 ?_
                    refine w_cne_f dX9_goesOn_563 (t := 578) rfl (by have := zt_5; omega) ?_
                    refine w_lo dX9_goesOn_566 rfl rfl rfl rfl ?_
                    refine w_gf dX9_goesOn_567 rfl hJ849.1.1 zs_386 (zr_386_37 hJ849.1) ?_
                    refine w_lo dX9_goesOn_570 rfl rfl rfl rfl ?_
                    have f854 := (hn851 (386) 41 (Or.inr (by decide))).trans (f838)
                    refine w_gf dX9_goesOn_571 rfl hJ849.1.1 zs_386 f854 ?_
                    refine w_ic dX9_goesOn_574 zi_1 ?_
                    refine w_sub dX9_goesOn_575 (by have := zt_1; omega) ?_
                    intro x855 h856
                    have := zt_1
                    replace hb : zHd _ := hb x855.toInt (by have := zt_1; omega)
                    refine w_ic dX9_goesOn_576 zi_2 ?_
                    have h857 := hb.1
                    replace hb : zHd _ := hb.2
                    refine w_isi dX9_goesOn_577 hJ849 zs_410 (by omega) (by omega) zu_410 (by have := zt_2; omega) (by have := zt_2; omega) (zIR_a (by omega) (by omega)) ?_
                    intro M858 hJ859 f860 hn861
                    replace hb : zHd _ := hb (zi M858) (zi_zup hn861 f860 rfl zt_2)
                    refine w_lo dX9_goesOn_578 rfl rfl rfl rfl ?_
                    refine w_iv dX9_goesOn_579 rfl rfl (As := []) rfl rfl hJ859.1.1 zs_386 (Nat.le_of_ble_eq_true rfl) ?_
                    obtain ⟨P865, hp866, hb⟩ := hb
                    replace hb : zHd _ := hb
                    refine ZV.imp (u_2310 hN hJ859.1 hp866) ?_
                    rintro _ ⟨M863, rfl, hJ864, hq867⟩
                    replace hb : zHd _ := hb  (zi M863) (zi_fr hJ864.2) hq867
                    have hJ869 := zJ_trans hJ859 hJ864 (zSub_cons (fun _ _ h h' hk => zIR_s (zIR_s (zIR_e (by omega) (by omega) hk))) (zSub_cons (fun _ _ h h' hk => zIR_s (zIR_s (zIR_s (zIR_s (zIR_e (by omega) (by omega) hk))))) (zSub_cons (fun _ _ h h' hk => zIR_s (zIR_s (zIR_s (zIR_s (zIR_s (zIR_s (zIR_s (zIR_s (zIR_s (zIR_e (by omega) (by omega) hk)))))))))) (zSub_cons (fun _ _ h h' hk => zIR_s (zIR_s (zIR_s (zIR_s (zIR_s (zIR_s (zIR_s (zIR_s (zIR_s (zIR_s (zIR_e (by omega) (by omega) hk))))))))))) (zSub_cons (fun _ _ h h' hk => zIR_s (zIR_s (zIR_s (zIR_s (zIR_s (zIR_s (zIR_s (zIR_s (zIR_s (zIR_s (zIR_s (zIR_e (by omega) (by omega) hk)))))))))))) (zSub_cons (fun _ _ h h' hk => zIR_s (zIR_s (zIR_s (zIR_s (zIR_s (zIR_s (zIR_s (zIR_s (zIR_s (zIR_s (zIR_s (zIR_s (zIR_e (by omega) (by omega) hk))))))))))))) (zSub_cons (fun _ _ h h' hk => zIR_s (zIR_s (zIR_s (zIR_s (zIR_s (zIR_s (zIR_s (zIR_s (zIR_s (zIR_s (zIR_s (zIR_s (zIR_s (zIR_e (by omega) (by omega) hk)))))))))))))) zSub_nil)))))))
                    show ZW _ _ _ _ _ _ _ (582, [some (.ref 386), some (.int v409_1), some (.int v409_2), some (.int u409_3), o409_4], [], M863)
                    refine w_ic dX9_goesOn_582 zi_1 ?_
                    refine w_en dX9_goesOn_583 rfl ?_
                    exact ⟨_, _, rfl, (by have := zt_1; omega), (by have := zt_1; omega), hJ869, hb⟩
          · skip
            replace hb : zHd _ := hb.2 h654
            refine w_cne_f dX9_goesOn_430 (t := 483) rfl (by have := zt_3; omega) ?_
            refine w_lo dX9_goesOn_433 rfl rfl rfl rfl ?_
            refine w_bi dX9_goesOn_434 (c := 44) (by decide) ?_
            refine w_iv dX9_goesOn_436 rfl rfl (As := [.int 44]) rfl rfl hJ.1.1 zs_386 (Nat.le_of_ble_eq_true rfl) ?_
            refine ZV.of (ini := false) rfl (Nat.le_of_ble_eq_true rfl) (by decide +kernel) ?_
            show ZW _ _ _ _ _ _ _ (0, [some (.ref 386), some (.int 44)], [], M)
            refine w_lo dX9_isSign_0 rfl rfl rfl rfl ?_
            refine w_gfi dX9_isSign_1 rfl hJ.1 zs_386 (Nat.le_of_ble_eq_true rfl) zo_386_3 ?_
            intro x870 f871 h872 h873
            replace hb : zHd _ := hb x870.toInt (ziE f871) h872 h873
            refine w_ic dX9_isSign_4 zi_3 ?_
            rcases Int.decEq x870.toInt (3 : Int) with h874 | h874
            · skip
              replace hb : zHd _ := hb.1 h874
              refine w_cne_t dX9_isSign_5 (t := 20) rfl (by have := zt_3; omega) ?_
              refine w_ic dX9_isSign_20 zi_0 ?_
              refine w_en dX9_isSign_21 rfl ?_
              show ZW _ _ _ _ _ _ _ (439, [some (.ref 386), some (.int v409_1), some (.int v409_2), some (.int u409_3), o409_4], [.int 0], M)
              refine w_ine_f dX9_goesOn_439 (t := 451) rfl (by have := zt_0; omega) ?_
              refine w_lo dX9_goesOn_442 rfl rfl rfl rfl ?_
              refine w_ic dX9_goesOn_443 zi_1 ?_
              refine w_lo dX9_goesOn_444 rfl rfl rfl rfl ?_
              refine w_gfi dX9_goesOn_445 rfl hJ.1 zs_386 (Nat.le_of_ble_eq_true rfl) zo_386_4 ?_
              intro x875 f876 h877 h878
              replace hb : zHd _ := hb x875.toInt (ziE f876) h877 h878
              refine w_iv dX9_goesOn_448 rfl rfl (As := [.int 1, .int x875]) rfl rfl hJ.1.1 zs_386 (Nat.le_of_ble_eq_true rfl) ?_
              refine ZV.of (ini := false) rfl (Nat.le_of_ble_eq_true rfl) (by decide +kernel) ?_
              show ZW _ _ _ _ _ _ _ (0, [some (.ref 386), some (.int 1), some (.int x875)], [], M)
              refine w_lo dX9_blame_0 rfl rfl rfl rfl ?_
              refine w_gfi dX9_blame_1 rfl hJ.1 zs_386 (Nat.le_of_ble_eq_true rfl) zo_386_8 ?_
              intro x879 f880 h881 h882
              replace hb : zHd _ := hb x879.toInt (ziE f880) h881 h882
              rcases zcut (0 : Int) x879.toInt with h883 | h883
              · skip
                replace hb : zHd _ := hb.1 h883
                refine w_ile_f dX9_blame_4 (t := 8) rfl (by omega) ?_
                refine w_en dX9_blame_7 rfl ?_
                show ZW _ _ _ _ _ _ _ (451, [some (.ref 386), some (.int v409_1), some (.int v409_2), some (.int u409_3), o409_4], [], M)
                refine w_lo dX9_goesOn_451 rfl rfl rfl rfl ?_
                refine w_gf dX9_goesOn_452 rfl hJ.1.1 zs_386 f880 ?_
                refine w_ile_f dX9_goesOn_455 (t := 460) rfl (by omega) ?_
                refine w_ic dX9_goesOn_458 zi_0 ?_
                refine w_en dX9_goesOn_459 rfl ?_
                exact ⟨_, _, rfl, (by have := zt_0; omega), (by have := zt_0; omega), hJ, hb⟩
              · skip
                replace hb : zHd _ := hb.2 h883
                refine w_ile_t dX9_blame_4 (t := 8) rfl (by omega) ?_
                refine w_lo dX9_blame_8 rfl rfl rfl rfl ?_
                refine w_lo dX9_blame_9 rfl rfl rfl rfl ?_
                refine w_pfi dX9_blame_10 rfl hJ zs_386 (Nat.le_of_ble_eq_true rfl) zo_386_8 (by have := zt_1; omega) (by have := zt_1; omega) (zIR_s (zIR_s (zIR_s (zIR_s (zIR_s (zIR_s (zIR_s (zIR_s (zIR_s (zIR_s (zIR_s (zIR_s (zIR_k (by omega) (by omega)))))))))))))) rfl rfl rfl ?_
                intro M884 hJ885 f886 hn887
                replace hb : zHd _ := hb (zi M884) (zi_zup hn887 f886 rfl zt_1)
                refine w_lo dX9_blame_13 rfl rfl rfl rfl ?_
                refine w_lo dX9_blame_14 rfl rfl rfl rfl ?_
                refine w_pfi dX9_blame_15 rfl hJ885 zs_386 (Nat.le_of_ble_eq_true rfl) zo_386_9 (by omega) (by omega) (zIR_s (zIR_s (zIR_s (zIR_s (zIR_s (zIR_s (zIR_s (zIR_s (zIR_s (zIR_s (zIR_s (zIR_s (zIR_s (zIR_k (by omega) (by omega))))))))))))))) rfl rfl rfl ?_
                intro M889 hJ890 f891 hn892
                replace hb : zHd _ := hb (zi M889) (zi_zup hn892 f891 rfl rfl)
                refine w_en dX9_blame_18 rfl ?_
                show ZW _ _ _ _ _ _ _ (451, [some (.ref 386), some (.int v409_1), some (.int v409_2), some (.int u409_3), o409_4], [], M889)
                refine w_lo dX9_goesOn_451 rfl rfl rfl rfl ?_
                have f894 := (hn892 (386) 8 (Or.inr (by decide))).trans (f886)
                refine w_gf dX9_goesOn_452 rfl hJ890.1.1 zs_386 f894 ?_
                refine w_ile_f dX9_goesOn_455 (t := 460) rfl (by have := zt_1; omega) ?_
                refine w_ic dX9_goesOn_458 zi_0 ?_
                refine w_en dX9_goesOn_459 rfl ?_
                exact ⟨_, _, rfl, (by have := zt_0; omega), (by have := zt_0; omega), hJ890, hb⟩
            · skip
              replace hb : zHd _ := hb.2 h874
              refine w_cne_f dX9_isSign_5 (t := 20) rfl (by have := zt_3; omega) ?_
              refine w_lo dX9_isSign_8 rfl rfl rfl rfl ?_
              refine w_gfi dX9_isSign_9 rfl hJ.1 zs_386 (Nat.le_of_ble_eq_true rfl) zo_386_6 ?_
              intro x895 f896 h897 h898
              replace hb : zHd _ := hb x895.toInt (ziE f896)
              refine w_lo dX9_isSign_12 rfl rfl rfl rfl ?_
              rcases Int.decEq x895.toInt (44 : Int) with h899 | h899
              · skip
                replace hb : zHd _ := hb.1 h899
                refine w_cne_t dX9_isSign_13 (t := 20) rfl (by have := zt_44; omega) ?_
                refine w_ic dX9_isSign_20 zi_0 ?_
                refine w_en dX9_isSign_21 rfl ?_
                show ZW _ _ _ _ _ _ _ (439, [some (.ref 386), some (.int v409_1), some (.int v409_2), some (.int u409_3), o409_4], [.int 0], M)
                refine w_ine_f dX9_goesOn_439 (t := 451) rfl (by have := zt_0; omega) ?_
                refine w_lo dX9_goesOn_442 rfl rfl rfl rfl ?_
                refine w_ic dX9_goesOn_443 zi_1 ?_
                refine w_lo dX9_goesOn_444 rfl rfl rfl rfl ?_
                refine w_gfi dX9_goesOn_445 rfl hJ.1 zs_386 (Nat.le_of_ble_eq_true rfl) zo_386_4 ?_
                intro x900 f901 h902 h903
                replace hb : zHd _ := hb x900.toInt (ziE f901) h902 h903
                refine w_iv dX9_goesOn_448 rfl rfl (As := [.int 1, .int x900]) rfl rfl hJ.1.1 zs_386 (Nat.le_of_ble_eq_true rfl) ?_
                refine ZV.of (ini := false) rfl (Nat.le_of_ble_eq_true rfl) (by decide +kernel) ?_
                show ZW _ _ _ _ _ _ _ (0, [some (.ref 386), some (.int 1), some (.int x900)], [], M)
                refine w_lo dX9_blame_0 rfl rfl rfl rfl ?_
                refine w_gfi dX9_blame_1 rfl hJ.1 zs_386 (Nat.le_of_ble_eq_true rfl) zo_386_8 ?_
                intro x904 f905 h906 h907
                replace hb : zHd _ := hb x904.toInt (ziE f905) h906 h907
                rcases zcut (0 : Int) x904.toInt with h908 | h908
                · skip
                  replace hb : zHd _ := hb.1 h908
                  refine w_ile_f dX9_blame_4 (t := 8) rfl (by omega) ?_
                  refine w_en dX9_blame_7 rfl ?_
                  show ZW _ _ _ _ _ _ _ (451, [some (.ref 386), some (.int v409_1), some (.int v409_2), some (.int u409_3), o409_4], [], M)
                  refine w_lo dX9_goesOn_451 rfl rfl rfl rfl ?_
                  refine w_gf dX9_goesOn_452 rfl hJ.1.1 zs_386 f905 ?_
                  refine w_ile_f dX9_goesOn_455 (t := 460) rfl (by omega) ?_
                  refine w_ic dX9_goesOn_458 zi_0 ?_
                  refine w_en dX9_goesOn_459 rfl ?_
                  exact ⟨_, _, rfl, (by have := zt_0; omega), (by have := zt_0; omega), hJ, hb⟩
                · skip
                  replace hb : zHd _ := hb.2 h908
                  refine w_ile_t dX9_blame_4 (t := 8) rfl (by omega) ?_
                  refine w_lo dX9_blame_8 rfl rfl rfl rfl ?_
                  refine w_lo dX9_blame_9 rfl rfl rfl rfl ?_
                  refine w_pfi dX9_blame_10 rfl hJ zs_386 (Nat.le_of_ble_eq_true rfl) zo_386_8 (by have := zt_1; omega) (by have := zt_1; omega) (zIR_s (zIR_s (zIR_s (zIR_s (zIR_s (zIR_s (zIR_s (zIR_s (zIR_s (zIR_s (zIR_s (zIR_s (zIR_k (by omega) (by omega)))))))))))))) rfl rfl rfl ?_
                  intro M909 hJ910 f911 hn912
                  replace hb : zHd _ := hb (zi M909) (zi_zup hn912 f911 rfl zt_1)
                  refine w_lo dX9_blame_13 rfl rfl rfl rfl ?_
                  refine w_lo dX9_blame_14 rfl rfl rfl rfl ?_
                  refine w_pfi dX9_blame_15 rfl hJ910 zs_386 (Nat.le_of_ble_eq_true rfl) zo_386_9 (by omega) (by omega) (zIR_s (zIR_s (zIR_s (zIR_s (zIR_s (zIR_s (zIR_s (zIR_s (zIR_s (zIR_s (zIR_s (zIR_s (zIR_s (zIR_k (by omega) (by omega))))))))))))))) rfl rfl rfl ?_
                  intro M914 hJ915 f916 hn917
                  replace hb : zHd _ := hb (zi M914) (zi_zup hn917 f916 rfl rfl)
                  refine w_en dX9_blame_18 rfl ?_
                  show ZW _ _ _ _ _ _ _ (451, [some (.ref 386), some (.int v409_1), some (.int v409_2), some (.int u409_3), o409_4], [], M914)
                  refine w_lo dX9_goesOn_451 rfl rfl rfl rfl ?_
                  have f919 := (hn917 (386) 8 (Or.inr (by decide))).trans (f911)
                  refine w_gf dX9_goesOn_452 rfl hJ915.1.1 zs_386 f919 ?_
                  refine w_ile_f dX9_goesOn_455 (t := 460) rfl (by have := zt_1; omega) ?_
                  refine w_ic dX9_goesOn_458 zi_0 ?_
                  refine w_en dX9_goesOn_459 rfl ?_
                  exact ⟨_, _, rfl, (by have := zt_0; omega), (by have := zt_0; omega), hJ915, hb⟩
              · skip
                replace hb : zHd _ := hb.2 h899
                refine w_cne_f dX9_isSign_13 (t := 20) rfl (by have := zt_44; omega) ?_
                refine w_ic dX9_isSign_16 zi_1 ?_
                refine w_gt dX9_isSign_17 (t := 21) rfl ?_
                refine w_en dX9_isSign_21 rfl ?_
                show ZW _ _ _ _ _ _ _ (439, [some (.ref 386), some (.int v409_1), some (.int v409_2), some (.int u409_3), o409_4], [.int 1], M)
                refine w_ine_t dX9_goesOn_439 (t := 451) rfl (by have := zt_1; omega) ?_
                refine w_lo dX9_goesOn_451 rfl rfl rfl rfl ?_
                refine w_gfi dX9_goesOn_452 rfl hJ.1 zs_386 (Nat.le_of_ble_eq_true rfl) zo_386_8 ?_
                intro x920 f921 h922 h923
                replace hb : zHd _ := hb x920.toInt (ziE f921) h922 h923
                rcases zcut (0 : Int) x920.toInt with h924 | h924
                · skip
                  replace hb : zHd _ := hb.1 h924
                  refine w_ile_f dX9_goesOn_455 (t := 460) rfl (by omega) ?_
                  refine w_ic dX9_goesOn_458 zi_0 ?_
                  refine w_en dX9_goesOn_459 rfl ?_
                  exact ⟨_, _, rfl, (by have := zt_0; omega), (by have := zt_0; omega), hJ, hb⟩
                · skip
                  replace hb : zHd _ := hb.2 h924
                  refine w_ile_t dX9_goesOn_455 (t := 460) rfl (by omega) ?_
                  refine w_lo dX9_goesOn_460 rfl rfl rfl rfl ?_
                  refine w_ic dX9_goesOn_461 zi_1 ?_
                  refine w_iv dX9_goesOn_462 rfl rfl (As := [.int 1]) rfl rfl hJ.1.1 zs_386 (Nat.le_of_ble_eq_true rfl) ?_
                  obtain ⟨P927, hp928, hb⟩ := hb
                  replace hb : zHd _ := hb
                  have hp928c : b_2337 (zi M) (1 : Int32).toInt P927 := by rw [zt_1]; exact hp928
                  refine ZV.imp (u_2337 1 hN hJ.1 hp928c) ?_
                  rintro _ ⟨M925, rfl, hJ926, hq929⟩
                  replace hb : zHd _ := hb  (zi M925) (zi_fr hJ926.2) hq929
                  have hJ931 := zJ_trans hJ hJ926 (zSub_cons (fun _ _ h h' hk => zIR_a (by omega) (by omega)) (zSub_cons (fun _ _ h h' hk => zIR_s (zIR_s (zIR_s (zIR_e (by omega) (by omega) hk)))) (zSub_cons (fun _ _ h h' hk => zIR_s (zIR_s (zIR_s (zIR_s (zIR_s (zIR_s (zIR_s (zIR_e (by omega) (by omega) hk)))))))) zSub_nil)))
                  show ZW _ _ _ _ _ _ _ (465, [some (.ref 386), some (.int v409_1), some (.int v409_2), some (.int u409_3), o409_4], [], M925)
                  refine w_lo dX9_goesOn_465 rfl rfl rfl rfl ?_
                  refine w_gf dX9_goesOn_466 rfl hJ931.1.1 zs_386 (zr_386_36 hJ931.1) ?_
                  refine w_lo dX9_goesOn_469 rfl rfl rfl rfl ?_
                  refine w_ic dX9_goesOn_470 zi_4 ?_
                  refine w_isi dX9_goesOn_471 hJ931 zs_409 (by omega) (by omega) zu_409 (by have := zt_4; omega) (by have := zt_4; omega) (zIR_a (by omega) (by omega)) ?_
                  intro M932 hJ933 f934 hn935
                  replace hb : zHd _ := hb (zi M932) (zi_zup hn935 f934 rfl zt_4)
                  refine w_lo dX9_goesOn_472 rfl rfl rfl rfl ?_
                  refine w_iv dX9_goesOn_473 rfl rfl (As := []) rfl rfl hJ933.1.1 zs_386 (Nat.le_of_ble_eq_true rfl) ?_
                  obtain ⟨P939, hp940, hb⟩ := hb
                  replace hb : zHd _ := hb
                  refine ZV.imp (u_2310 hN hJ933.1 hp940) ?_
                  rintro _ ⟨M937, rfl, hJ938, hq941⟩
                  replace hb : zHd _ := hb  (zi M937) (zi_fr hJ938.2) hq941
                  have hJ943 := zJ_trans hJ933 hJ938 (zSub_cons (fun _ _ h h' hk => zIR_s (zIR_s (zIR_e (by omega) (by omega) hk))) (zSub_cons (fun _ _ h h' hk => zIR_s (zIR_s (zIR_s (zIR_s (zIR_e (by omega) (by omega) hk))))) (zSub_cons (fun _ _ h h' hk => zIR_s (zIR_s (zIR_s (zIR_s (zIR_s (zIR_s (zIR_s (zIR_s (zIR_s (zIR_e (by omega) (by omega) hk)))))))))) (zSub_cons (fun _ _ h h' hk => zIR_s (zIR_s (zIR_s (zIR_s (zIR_s (zIR_s (zIR_s (zIR_s (zIR_s (zIR_s (zIR_e (by omega) (by omega) hk))))))))))) (zSub_cons (fun _ _ h h' hk => zIR_s (zIR_s (zIR_s (zIR_s (zIR_s (zIR_s (zIR_s (zIR_s (zIR_s (zIR_s (zIR_s (zIR_e (by omega) (by omega) hk)))))))))))) (zSub_cons (fun _ _ h h' hk => zIR_s (zIR_s (zIR_s (zIR_s (zIR_s (zIR_s (zIR_s (zIR_s (zIR_s (zIR_s (zIR_s (zIR_s (zIR_e (by omega) (by omega) hk))))))))))))) (zSub_cons (fun _ _ h h' hk => zIR_s (zIR_s (zIR_s (zIR_s (zIR_s (zIR_s (zIR_s (zIR_s (zIR_s (zIR_s (zIR_s (zIR_s (zIR_s (zIR_e (by omega) (by omega) hk)))))))))))))) zSub_nil)))))))
                  show ZW _ _ _ _ _ _ _ (476, [some (.ref 386), some (.int v409_1), some (.int v409_2), some (.int u409_3), o409_4], [], M937)
                  refine w_lo dX9_goesOn_476 rfl rfl rfl rfl ?_
                  refine w_ic dX9_goesOn_477 zi_0 ?_
                  refine w_pfi dX9_goesOn_478 rfl hJ943 zs_386 (Nat.le_of_ble_eq_true rfl) zo_386_45 (by have := zt_0; omega) (by have := zt_0; omega) (zIR_s (zIR_s (zIR_s (zIR_s (zIR_s (zIR_s (zIR_s (zIR_s (zIR_k (by omega) (by omega)))))))))) rfl rfl rfl ?_
                  intro M944 hJ945 f946 hn947
                  replace hb : zHd _ := hb (zi M944) (zi_zup hn947 f946 rfl zt_0)
                  refine w_ic dX9_goesOn_481 zi_1 ?_
                  refine w_en dX9_goesOn_482 rfl ?_
                  exact ⟨_, _, rfl, (by have := zt_1; omega), (by have := zt_1; omega), hJ945, hb⟩
  have hb : zHd _ := hbE
  show ZW _ _ _ _ _ _ _ (0, [some (.ref 386), none, none, none, none], [], M0)
  refine w_lo dX9_goesOn_0 rfl rfl rfl rfl ?_
  refine w_gfi dX9_goesOn_1 rfl hJ0.1 zs_386 (Nat.le_of_ble_eq_true rfl) zo_386_41 ?_
  intro x949 f950 h951 h952
  replace hb : zHd _ := hb x949.toInt (ziE f950) h951 h952
  refine w_ic dX9_goesOn_4 zi_1 ?_
  refine w_sub dX9_goesOn_5 (by have := zt_1; omega) ?_
  intro x953 h954
  have := zt_1
  replace hb : zHd _ := hb x953.toInt (by have := zt_1; omega)
  refine w_lo (ml' := [some (.ref 386), some (.int x953), none, none, none]) dX9_goesOn_6 rfl rfl rfl rfl ?_
  refine w_lo dX9_goesOn_7 rfl rfl rfl rfl ?_
  refine w_gf dX9_goesOn_8 rfl hJ0.1.1 zs_386 (zr_386_36 hJ0.1) ?_
  refine w_lo dX9_goesOn_11 rfl rfl rfl rfl ?_
  have h955 := hb.1
  replace hb : zHd _ := hb.2
  refine w_iai dX9_goesOn_12 hJ0.1 zs_409 (by omega) (by omega) zu_409 ?_
  intro x959 f956 h957 h958
  replace hb : zHd _ := hb x959.toInt (ziEk f956 rfl) h957 h958
  refine w_lo (ml' := [some (.ref 386), some (.int x953), some (.int x959), none, none]) dX9_goesOn_13 rfl rfl rfl rfl ?_
  refine w_lo dX9_goesOn_14 rfl rfl rfl rfl ?_
  refine w_ss dX9_goesOn_15 rfl rfl (As := [.int x959]) rfl rfl (Nat.le_of_ble_eq_true rfl) ?_
  refine ZV.of (ini := false) rfl (Nat.le_of_ble_eq_true rfl) (by decide +kernel) ?_
  show ZW _ _ _ _ _ _ _ (0, [some (.int x959)], [], M0)
  refine w_lo dX9_isTest_0 rfl rfl rfl rfl ?_
  refine w_ic dX9_isTest_1 zi_1 ?_
  rcases Int.decEq x959.toInt (1 : Int) with h960 | h960
  · skip
    replace hb : zHd _ := hb.1 h960
    refine w_ceq_f dX9_isTest_2 (t := 10) rfl (by have := zt_1; omega) ?_
    refine w_lo dX9_isTest_5 rfl rfl rfl rfl ?_
    refine w_ic dX9_isTest_6 zi_5 ?_
    rcases Int.decEq x959.toInt (5 : Int) with h961 | h961
    · skip
      replace hb : zHd _ := hb.1 h961
      refine w_cne_t dX9_isTest_7 (t := 14) rfl (by have := zt_5; omega) ?_
      refine w_ic dX9_isTest_14 zi_0 ?_
      refine w_en dX9_isTest_15 rfl ?_
      show ZW _ _ _ _ _ _ _ (18, [some (.ref 386), some (.int x953), some (.int x959), none, none], [.int 0], M0)
      refine w_lo (ml' := [some (.ref 386), some (.int x953), some (.int x959), some (.int 0), none]) dX9_goesOn_18 rfl rfl rfl rfl ?_
      obtain ⟨m, hI⟩ := hb
      exact (main m).1 M0 x953 x959 0 none hJ0 (by omega) (by omega) (by omega) (by omega) (by have := zt_0; omega) (by have := zt_0; omega) hI
    · skip
      replace hb : zHd _ := hb.2 h961
      refine w_cne_f dX9_isTest_7 (t := 14) rfl (by have := zt_5; omega) ?_
      refine w_ic dX9_isTest_10 zi_1 ?_
      refine w_gt dX9_isTest_11 (t := 15) rfl ?_
      refine w_en dX9_isTest_15 rfl ?_
      show ZW _ _ _ _ _ _ _ (18, [some (.ref 386), some (.int x953), some (.int x959), none, none], [.int 1], M0)
      refine w_lo (ml' := [some (.ref 386), some (.int x953), some (.int x959), some (.int 1), none]) dX9_goesOn_18 rfl rfl rfl rfl ?_
      obtain ⟨m, hI⟩ := hb
      exact (main m).1 M0 x953 x959 1 none hJ0 (by omega) (by omega) (by omega) (by omega) (by have := zt_1; omega) (by have := zt_1; omega) hI
  · skip
    replace hb : zHd _ := hb.2 h960
    refine w_ceq_t dX9_isTest_2 (t := 10) rfl (by have := zt_1; omega) ?_
    refine w_ic dX9_isTest_10 zi_1 ?_
    refine w_gt dX9_isTest_11 (t := 15) rfl ?_
    refine w_en dX9_isTest_15 rfl ?_
    show ZW _ _ _ _ _ _ _ (18, [some (.ref 386), some (.int x953), some (.int x959), none, none], [.int 1], M0)
    refine w_lo (ml' := [some (.ref 386), some (.int x953), some (.int x959), some (.int 1), none]) dX9_goesOn_18 rfl rfl rfl rfl ?_
    obtain ⟨m, hI⟩ := hb
    exact (main m).1 M0 x953 x959 1 none hJ0 (by omega) (by omega) (by omega) (by omega) (by have := zt_1; omega) (by have := zt_1; omega) hI
