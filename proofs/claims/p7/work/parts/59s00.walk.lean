/-! walks by pure conditions (wip/safe/vcp.py) -/
set_option maxHeartbeats 20000000 in
set_option maxRecDepth 100000 in
theorem u_2310 {X : List Int32} {d N : Nat} {M0 : zM}  (hN : N ≤ 600) (hB0 : zB N M0) {Q : zF → Prop} (hb : b_2310 (zi M0) Q) : ZV X (d + 2) 2310 [.ref 386] M0 (zRV N [(386, 387, 3), (386, 387, 4), (386, 387, 5), (386, 387, 6), (386, 387, 7), (386, 387, 8), (386, 387, 9)] M0 (fun M' => Q (zi M'))) := by
  have hJ0 : zJ N [(386, 387, 3), (386, 387, 4), (386, 387, 5), (386, 387, 6), (386, 387, 7), (386, 387, 8), (386, 387, 9)] M0 M0 := zJ_refl hB0
  refine ZV.of (ini := false) rfl (Nat.le_of_ble_eq_true rfl) (by decide +kernel) ?_
  obtain ⟨I5, I41, I85, I131, I200, I252, I282, I314, I323, hbE, hb5, hb41, hb85, hb131, hb200, hb252, hb282, hb314, hb323⟩ := hb
  replace hbE : zHd _ := hbE
  replace hb5 : zHd _ := hb5
  replace hb41 : zHd _ := hb41
  replace hb85 : zHd _ := hb85
  replace hb131 : zHd _ := hb131
  replace hb200 : zHd _ := hb200
  replace hb252 : zHd _ := hb252
  replace hb282 : zHd _ := hb282
  replace hb314 : zHd _ := hb314
  replace hb323 : zHd _ := hb323
  have main : ∀ n : Nat,
      (∀ (M : zM) (v5_1 : Int32) (o5_2 : Option Value) (o5_3 : Option Value) (o5_4 : Option Value) (o5_5 : Option Value), zJ N [(386, 387, 3), (386, 387, 4), (386, 387, 5), (386, 387, 6), (386, 387, 7), (386, 387, 8), (386, 387, 9)] M0 M → ((0 : Int) ≤ v5_1.toInt) → (v5_1.toInt ≤ 1600) → I5 n (zi M) v5_1.toInt → ZW X (d + 1) 9 false none cX9_ahead (zRV N [(386, 387, 3), (386, 387, 4), (386, 387, 5), (386, 387, 6), (386, 387, 7), (386, 387, 8), (386, 387, 9)] M0 (fun M' => Q (zi M'))) (5, [some (.ref 386), some (.int v5_1), o5_2, o5_3, o5_4, o5_5], [], M)) ∧
      (∀ (M : zM) (v41_1 : Int32) (o41_2 : Option Value) (o41_3 : Option Value) (o41_4 : Option Value) (o41_5 : Option Value), zJ N [(386, 387, 3), (386, 387, 4), (386, 387, 5), (386, 387, 6), (386, 387, 7), (386, 387, 8), (386, 387, 9)] M0 M → ((0 : Int) ≤ v41_1.toInt) → (v41_1.toInt ≤ 1600) → I41 n (zi M) v41_1.toInt → ZW X (d + 1) 9 false none cX9_ahead (zRV N [(386, 387, 3), (386, 387, 4), (386, 387, 5), (386, 387, 6), (386, 387, 7), (386, 387, 8), (386, 387, 9)] M0 (fun M' => Q (zi M'))) (41, [some (.ref 386), some (.int v41_1), o41_2, o41_3, o41_4, o41_5], [], M)) ∧
      (∀ (M : zM) (v85_1 : Int32) (v85_2 : Int32) (v85_3 : Int32) (o85_4 : Option Value) (o85_5 : Option Value), zJ N [(386, 387, 3), (386, 387, 4), (386, 387, 5), (386, 387, 6), (386, 387, 7), (386, 387, 8), (386, 387, 9)] M0 M → ((0 : Int) ≤ v85_1.toInt) → (v85_1.toInt ≤ 1599) → ((0 : Int) ≤ v85_2.toInt) → (v85_2.toInt ≤ 1) → ((0 : Int) ≤ v85_3.toInt) → (v85_3.toInt ≤ 1) → I85 n (zi M) v85_1.toInt v85_2.toInt v85_3.toInt → ZW X (d + 1) 9 false none cX9_ahead (zRV N [(386, 387, 3), (386, 387, 4), (386, 387, 5), (386, 387, 6), (386, 387, 7), (386, 387, 8), (386, 387, 9)] M0 (fun M' => Q (zi M'))) (85, [some (.ref 386), some (.int v85_1), some (.int v85_2), some (.int v85_3), o85_4, o85_5], [], M)) ∧
      (∀ (M : zM) (v131_1 : Int32) (v131_2 : Int32) (v131_3 : Int32) (o131_4 : Option Value) (o131_5 : Option Value), zJ N [(386, 387, 3), (386, 387, 4), (386, 387, 5), (386, 387, 6), (386, 387, 7), (386, 387, 8), (386, 387, 9)] M0 M → ((0 : Int) ≤ v131_1.toInt) → (v131_1.toInt ≤ 1599) → ((0 : Int) ≤ v131_2.toInt) → (v131_2.toInt ≤ 1) → ((0 : Int) ≤ v131_3.toInt) → (v131_3.toInt ≤ 1) → I131 n (zi M) v131_1.toInt v131_2.toInt v131_3.toInt → ZW X (d + 1) 9 false none cX9_ahead (zRV N [(386, 387, 3), (386, 387, 4), (386, 387, 5), (386, 387, 6), (386, 387, 7), (386, 387, 8), (386, 387, 9)] M0 (fun M' => Q (zi M'))) (131, [some (.ref 386), some (.int v131_1), some (.int v131_2), some (.int v131_3), o131_4, o131_5], [], M)) ∧
      (∀ (M : zM) (v200_1 : Int32) (v200_2 : Int32) (v200_3 : Int32) (v200_4 : Int32) (v200_5 : Int32), zJ N [(386, 387, 3), (386, 387, 4), (386, 387, 5), (386, 387, 6), (386, 387, 7), (386, 387, 8), (386, 387, 9)] M0 M → ((0 : Int) ≤ v200_1.toInt) → (v200_1.toInt ≤ 1600) → ((0 : Int) ≤ v200_2.toInt) → (v200_2.toInt ≤ 1) → ((0 : Int) ≤ v200_3.toInt) → (v200_3.toInt ≤ 1) → ((4 : Int) ≤ v200_4.toInt) → (v200_4.toInt ≤ 6) → ((0 : Int) ≤ v200_5.toInt) → (v200_5.toInt ≤ 2147483647) → I200 n (zi M) v200_1.toInt v200_2.toInt v200_3.toInt v200_4.toInt v200_5.toInt → ZW X (d + 1) 9 false none cX9_ahead (zRV N [(386, 387, 3), (386, 387, 4), (386, 387, 5), (386, 387, 6), (386, 387, 7), (386, 387, 8), (386, 387, 9)] M0 (fun M' => Q (zi M'))) (200, [some (.ref 386), some (.int v200_1), some (.int v200_2), some (.int v200_3), some (.int v200_4), some (.int v200_5)], [], M)) ∧
      (∀ (M : zM) (v252_1 : Int32) (v252_2 : Int32) (v252_3 : Int32) (v252_4 : Int32) (v252_5 : Int32), zJ N [(386, 387, 3), (386, 387, 4), (386, 387, 5), (386, 387, 6), (386, 387, 7), (386, 387, 8), (386, 387, 9)] M0 M → ((0 : Int) ≤ v252_1.toInt) → (v252_1.toInt ≤ 1599) → ((0 : Int) ≤ v252_2.toInt) → (v252_2.toInt ≤ 1) → ((0 : Int) ≤ v252_3.toInt) → (v252_3.toInt ≤ 1) → ((4 : Int) ≤ v252_4.toInt) → (v252_4.toInt ≤ 6) → ((0 : Int) ≤ v252_5.toInt) → (v252_5.toInt ≤ 2147483647) → I252 n (zi M) v252_1.toInt v252_2.toInt v252_3.toInt v252_4.toInt v252_5.toInt → ZW X (d + 1) 9 false none cX9_ahead (zRV N [(386, 387, 3), (386, 387, 4), (386, 387, 5), (386, 387, 6), (386, 387, 7), (386, 387, 8), (386, 387, 9)] M0 (fun M' => Q (zi M'))) (252, [some (.ref 386), some (.int v252_1), some (.int v252_2), some (.int v252_3), some (.int v252_4), some (.int v252_5)], [], M)) ∧
      (∀ (M : zM) (v282_1 : Int32) (v282_2 : Int32) (v282_3 : Int32) (v282_4 : Int32) (v282_5 : Int32), zJ N [(386, 387, 3), (386, 387, 4), (386, 387, 5), (386, 387, 6), (386, 387, 7), (386, 387, 8), (386, 387, 9)] M0 M → ((0 : Int) ≤ v282_1.toInt) → (v282_1.toInt ≤ 1599) → ((0 : Int) ≤ v282_2.toInt) → (v282_2.toInt ≤ 1) → ((0 : Int) ≤ v282_3.toInt) → (v282_3.toInt ≤ 1) → ((4 : Int) ≤ v282_4.toInt) → (v282_4.toInt ≤ 6) → ((0 : Int) ≤ v282_5.toInt) → (v282_5.toInt ≤ 2147483647) → I282 n (zi M) v282_1.toInt v282_2.toInt v282_3.toInt v282_4.toInt v282_5.toInt → ZW X (d + 1) 9 false none cX9_ahead (zRV N [(386, 387, 3), (386, 387, 4), (386, 387, 5), (386, 387, 6), (386, 387, 7), (386, 387, 8), (386, 387, 9)] M0 (fun M' => Q (zi M'))) (282, [some (.ref 386), some (.int v282_1), some (.int v282_2), some (.int v282_3), some (.int v282_4), some (.int v282_5)], [], M)) ∧
      (∀ (M : zM) (v314_1 : Int32) (v314_2 : Int32) (v314_3 : Int32) (v314_4 : Int32) (v314_5 : Int32), zJ N [(386, 387, 3), (386, 387, 4), (386, 387, 5), (386, 387, 6), (386, 387, 7), (386, 387, 8), (386, 387, 9)] M0 M → ((0 : Int) ≤ v314_1.toInt) → (v314_1.toInt ≤ 1599) → ((0 : Int) ≤ v314_2.toInt) → (v314_2.toInt ≤ 1) → ((0 : Int) ≤ v314_3.toInt) → (v314_3.toInt ≤ 1) → ((4 : Int) ≤ v314_4.toInt) → (v314_4.toInt ≤ 6) → ((0 : Int) ≤ v314_5.toInt) → (v314_5.toInt ≤ 2147483647) → I314 n (zi M) v314_1.toInt v314_2.toInt v314_3.toInt v314_4.toInt v314_5.toInt → ZW X (d + 1) 9 false none cX9_ahead (zRV N [(386, 387, 3), (386, 387, 4), (386, 387, 5), (386, 387, 6), (386, 387, 7), (386, 387, 8), (386, 387, 9)] M0 (fun M' => Q (zi M'))) (314, [some (.ref 386), some (.int v314_1), some (.int v314_2), some (.int v314_3), some (.int v314_4), some (.int v314_5)], [], M)) ∧
      (∀ (M : zM) (v323_1 : Int32) (u323_2 : Int32) (u323_3 : Int32) (u323_4 : Int32) (u323_5 : Int32), zJ N [(386, 387, 3), (386, 387, 4), (386, 387, 5), (386, 387, 6), (386, 387, 7), (386, 387, 8), (386, 387, 9)] M0 M → ((0 : Int) ≤ v323_1.toInt) → (v323_1.toInt ≤ 1600) → I323 n (zi M) v323_1.toInt → ZW X (d + 1) 9 false none cX9_ahead (zRV N [(386, 387, 3), (386, 387, 4), (386, 387, 5), (386, 387, 6), (386, 387, 7), (386, 387, 8), (386, 387, 9)] M0 (fun M' => Q (zi M'))) (323, [some (.ref 386), some (.int v323_1), some (.int u323_2), some (.int u323_3), some (.int u323_4), some (.int u323_5)], [], M)) := by
    intro n
    induction n using Nat.strongRecOn with
    | _ n ih =>
      refine ⟨?_, ?_, ?_, ?_, ?_, ?_, ?_, ?_, ?_⟩
      · intro M v5_1 o5_2 o5_3 o5_4 o5_5 hJ v5_10 v5_11 hI
        have hb : zHd _ := hb5 n (zi M) v5_1.toInt (zi_fr hJ.2) v5_10 v5_11 hI
        refine w_lo dX9_ahead_5 rfl rfl rfl rfl ?_
        refine w_lo dX9_ahead_6 rfl rfl rfl rfl ?_
        refine w_gfi dX9_ahead_7 rfl hJ.1 zs_386 (Nat.le_of_ble_eq_true rfl) zo_386_2 ?_
        intro x1 f2 h3 h4
        replace hb : zHd _ := hb x1.toInt (ziE f2) h3 h4
        rcases zcut v5_1.toInt x1.toInt with h5 | h5
        · skip
          replace hb : zHd _ := hb.1 h5
          refine w_cge_f dX9_ahead_10 (t := 41) rfl (by omega) ?_
          refine w_lo dX9_ahead_13 rfl rfl rfl rfl ?_
          refine w_gf dX9_ahead_14 rfl hJ.1.1 zs_386 (zr_386_0 hJ.1) ?_
          refine w_lo dX9_ahead_17 rfl rfl rfl rfl ?_
          refine w_iai dX9_ahead_18 hJ.1 zs_387 (by omega) (by omega) zu_387 ?_
          intro x9 f6 h7 h8
          replace hb : zHd _ := hb x9.toInt (ziEk f6 rfl) h7 h8
          refine w_bi dX9_ahead_19 (c := 32) (by decide) ?_
          rcases Int.decEq x9.toInt (32 : Int) with h10 | h10
          · skip
            replace hb : zHd _ := hb.1 h10
            refine w_ceq_f dX9_ahead_21 (t := 35) rfl (by have := zt_32; omega) ?_
            refine w_lo dX9_ahead_24 rfl rfl rfl rfl ?_
            refine w_gf dX9_ahead_25 rfl hJ.1.1 zs_386 (zr_386_0 hJ.1) ?_
            refine w_lo dX9_ahead_28 rfl rfl rfl rfl ?_
            refine w_ia dX9_ahead_29 hJ.1.1 zs_387 (znat (by omega)) f6 ?_
            refine w_bi dX9_ahead_30 (c := 10) (by decide) ?_
            rcases Int.decEq x9.toInt (10 : Int) with h14 | h14
            · skip
              replace hb : zHd _ := hb.1 h14
              refine w_cne_t dX9_ahead_32 (t := 41) rfl (by have := zt_10; omega) ?_
              obtain ⟨m, hm, hI⟩ := hb
              exact (ih m hm).2.1 M v5_1 o5_2 o5_3 o5_4 o5_5 hJ (by omega) (by omega) hI
            · skip
              replace hb : zHd _ := hb.2 h14
              refine w_cne_f dX9_ahead_32 (t := 41) rfl (by have := zt_10; omega) ?_
              refine w_inc (kk := 1) dX9_ahead_35 rfl (m := 1) (by decide) (by omega) ?_
              intro x15 h16
              refine ⟨_, rfl, ?_⟩
              replace hb : zHd _ := hb x15.toInt h16
              show ZW _ _ _ _ _ _ _ (38, [some (.ref 386), some (.int x15), o5_2, o5_3, o5_4, o5_5], [], M)
              refine w_gt dX9_ahead_38 (t := 5) rfl ?_
              obtain ⟨m, hm, hI⟩ := hb
              exact (ih m hm).1 M x15 o5_2 o5_3 o5_4 o5_5 hJ (by omega) (by omega) hI
          · skip
            replace hb : zHd _ := hb.2 h10
            refine w_ceq_t dX9_ahead_21 (t := 35) rfl (by have := zt_32; omega) ?_
            refine w_inc (kk := 1) dX9_ahead_35 rfl (m := 1) (by decide) (by omega) ?_
            intro x17 h18
            refine ⟨_, rfl, ?_⟩
            replace hb : zHd _ := hb x17.toInt h18
            show ZW _ _ _ _ _ _ _ (38, [some (.ref 386), some (.int x17), o5_2, o5_3, o5_4, o5_5], [], M)
            refine w_gt dX9_ahead_38 (t := 5) rfl ?_
            obtain ⟨m, hm, hI⟩ := hb
            exact (ih m hm).1 M x17 o5_2 o5_3 o5_4 o5_5 hJ (by omega) (by omega) hI
        · skip
          replace hb : zHd _ := hb.2 h5
          refine w_cge_t dX9_ahead_10 (t := 41) rfl (by omega) ?_
          obtain ⟨m, hm, hI⟩ := hb
          exact (ih m hm).2.1 M v5_1 o5_2 o5_3 o5_4 o5_5 hJ (by omega) (by omega) hI
      · intro M v41_1 o41_2 o41_3 o41_4 o41_5 hJ v41_10 v41_11 hI
        have hb : zHd _ := hb41 n (zi M) v41_1.toInt (zi_fr hJ.2) v41_10 v41_11 hI
        refine w_lo dX9_ahead_41 rfl rfl rfl rfl ?_
        refine w_lo dX9_ahead_42 rfl rfl rfl rfl ?_
        refine w_pfi dX9_ahead_43 rfl hJ zs_386 (Nat.le_of_ble_eq_true rfl) zo_386_4 (by omega) (by omega) (zIR_s (zIR_k (by omega) (by omega))) rfl rfl rfl ?_
        intro M19 hJ20 f21 hn22
        replace hb : zHd _ := hb (zi M19) (zi_zup hn22 f21 rfl rfl)
        refine w_lo dX9_ahead_46 rfl rfl rfl rfl ?_
        refine w_lo dX9_ahead_47 rfl rfl rfl rfl ?_
        refine w_pfi dX9_ahead_48 rfl hJ20 zs_386 (Nat.le_of_ble_eq_true rfl) zo_386_5 (by omega) (by omega) (zIR_s (zIR_s (zIR_k (by omega) (by omega)))) rfl rfl rfl ?_
        intro M24 hJ25 f26 hn27
        replace hb : zHd _ := hb (zi M24) (zi_zup hn27 f26 rfl rfl)
        refine w_lo dX9_ahead_51 rfl rfl rfl rfl ?_
        refine w_ic dX9_ahead_52 zi_0 ?_
        refine w_pfi dX9_ahead_53 rfl hJ25 zs_386 (Nat.le_of_ble_eq_true rfl) zo_386_3 (by have := zt_0; omega) (by have := zt_0; omega) (zIR_k (by omega) (by omega)) rfl rfl rfl ?_
        intro M29 hJ30 f31 hn32
        replace hb : zHd _ := hb (zi M29) (zi_zup hn32 f31 rfl zt_0)
        refine w_lo dX9_ahead_56 rfl rfl rfl rfl ?_
        refine w_lo dX9_ahead_57 rfl rfl rfl rfl ?_
        refine w_gfi dX9_ahead_58 rfl hJ30.1 zs_386 (Nat.le_of_ble_eq_true rfl) zo_386_2 ?_
        intro x34 f35 h36 h37
        replace hb : zHd _ := hb x34.toInt (ziE f35) h36 h37
        rcases zcut v41_1.toInt x34.toInt with h38 | h38
        · skip
          replace hb : zHd _ := hb.1 h38
          refine w_clt_t dX9_ahead_61 (t := 65) rfl (by omega) ?_
          refine w_lo dX9_ahead_65 rfl rfl rfl rfl ?_
          refine w_gf dX9_ahead_66 rfl hJ30.1.1 zs_386 (zr_386_0 hJ30.1) ?_
          refine w_lo dX9_ahead_69 rfl rfl rfl rfl ?_
          refine w_iai dX9_ahead_70 hJ30.1 zs_387 (by omega) (by omega) zu_387 ?_
          intro x42 f39 h40 h41
          replace hb : zHd _ := hb x42.toInt (ziEk f39 rfl) h40 h41
          refine w_ss dX9_ahead_71 rfl rfl (As := [.int x42]) rfl rfl (Nat.le_of_ble_eq_true rfl) ?_
          refine ZV.of (ini := false) rfl (Nat.le_of_ble_eq_true rfl) (by decide +kernel) ?_
          show ZW _ _ _ _ _ _ _ (0, [some (.int x42)], [], M29)
          refine w_lo dX9_isLetter_0 rfl rfl rfl rfl ?_
          refine w_bi dX9_isLetter_1 (c := 97) (by decide) ?_
          rcases zcut x42.toInt (97 : Int) with h43 | h43
          · skip
            replace hb : zHd _ := hb.1 h43
            refine w_clt_t dX9_isLetter_3 (t := 16) rfl (by have := zt_97; omega) ?_
            refine w_ic dX9_isLetter_16 zi_0 ?_
            refine w_en dX9_isLetter_17 rfl ?_
            show ZW _ _ _ _ _ _ _ (74, [some (.ref 386), some (.int v41_1), o41_2, o41_3, o41_4, o41_5], [.int 0], M29)
            refine w_lo (ml' := [some (.ref 386), some (.int v41_1), some (.int 0), o41_3, o41_4, o41_5]) dX9_ahead_74 rfl rfl rfl rfl ?_
            refine w_lo dX9_ahead_75 rfl rfl rfl rfl ?_
            refine w_gf dX9_ahead_76 rfl hJ30.1.1 zs_386 (zr_386_0 hJ30.1) ?_
            refine w_lo dX9_ahead_79 rfl rfl rfl rfl ?_
            refine w_ia dX9_ahead_80 hJ30.1.1 zs_387 (znat (by omega)) f39 ?_
            refine w_ss dX9_ahead_81 rfl rfl (As := [.int x42]) rfl rfl (Nat.le_of_ble_eq_true rfl) ?_
            refine ZV.of (ini := false) rfl (Nat.le_of_ble_eq_true rfl) (by decide +kernel) ?_
            show ZW _ _ _ _ _ _ _ (0, [some (.int x42)], [], M29)
            refine w_lo dX9_isDigit_0 rfl rfl rfl rfl ?_
            refine w_bi dX9_isDigit_1 (c := 48) (by decide) ?_
            rcases zcut x42.toInt (48 : Int) with h47 | h47
            · skip
              replace hb : zHd _ := hb.1 h47
              refine w_clt_t dX9_isDigit_3 (t := 16) rfl (by have := zt_48; omega) ?_
              refine w_ic dX9_isDigit_16 zi_0 ?_
              refine w_en dX9_isDigit_17 rfl ?_
              show ZW _ _ _ _ _ _ _ (84, [some (.ref 386), some (.int v41_1), some (.int 0), o41_3, o41_4, o41_5], [.int 0], M29)
              refine w_lo (ml' := [some (.ref 386), some (.int v41_1), some (.int 0), some (.int 0), o41_4, o41_5]) dX9_ahead_84 rfl rfl rfl rfl ?_
              obtain ⟨m, hm, hI⟩ := hb
              exact (ih m hm).2.2.1 M29 v41_1 0 0 o41_4 o41_5 hJ30 (by omega) (by omega) (by have := zt_0; omega) (by have := zt_0; omega) (by have := zt_0; omega) (by have := zt_0; omega) hI
            · skip
              replace hb : zHd _ := hb.2 h47
              refine w_clt_f dX9_isDigit_3 (t := 16) rfl (by have := zt_48; omega) ?_
              refine w_lo dX9_isDigit_6 rfl rfl rfl rfl ?_
              refine w_bi dX9_isDigit_7 (c := 57) (by decide) ?_
              rcases zcut (57 : Int) x42.toInt with h48 | h48
              · skip
                replace hb : zHd _ := hb.1 h48
                refine w_cgt_t dX9_isDigit_9 (t := 16) rfl (by have := zt_57; omega) ?_
                refine w_ic dX9_isDigit_16 zi_0 ?_
                refine w_en dX9_isDigit_17 rfl ?_
                show ZW _ _ _ _ _ _ _ (84, [some (.ref 386), some (.int v41_1), some (.int 0), o41_3, o41_4, o41_5], [.int 0], M29)
                refine w_lo (ml' := [some (.ref 386), some (.int v41_1), some (.int 0), some (.int 0), o41_4, o41_5]) dX9_ahead_84 rfl rfl rfl rfl ?_
                obtain ⟨m, hm, hI⟩ := hb
                exact (ih m hm).2.2.1 M29 v41_1 0 0 o41_4 o41_5 hJ30 (by omega) (by omega) (by have := zt_0; omega) (by have := zt_0; omega) (by have := zt_0; omega) (by have := zt_0; omega) hI
              · skip
                replace hb : zHd _ := hb.2 h48
                refine w_cgt_f dX9_isDigit_9 (t := 16) rfl (by have := zt_57; omega) ?_
                refine w_ic dX9_isDigit_12 zi_1 ?_
                refine w_gt dX9_isDigit_13 (t := 17) rfl ?_
                refine w_en dX9_isDigit_17 rfl ?_
                show ZW _ _ _ _ _ _ _ (84, [some (.ref 386), some (.int v41_1), some (.int 0), o41_3, o41_4, o41_5], [.int 1], M29)
                refine w_lo (ml' := [some (.ref 386), some (.int v41_1), some (.int 0), some (.int 1), o41_4, o41_5]) dX9_ahead_84 rfl rfl rfl rfl ?_
                obtain ⟨m, hm, hI⟩ := hb
                exact (ih m hm).2.2.1 M29 v41_1 0 1 o41_4 o41_5 hJ30 (by omega) (by omega) (by have := zt_0; omega) (by have := zt_0; omega) (by have := zt_1; omega) (by have := zt_1; omega) hI
          · skip
            replace hb : zHd _ := hb.2 h43
            refine w_clt_f dX9_isLetter_3 (t := 16) rfl (by have := zt_97; omega) ?_
            refine w_lo dX9_isLetter_6 rfl rfl rfl rfl ?_
            refine w_bi dX9_isLetter_7 (c := 122) (by decide) ?_
            rcases zcut (122 : Int) x42.toInt with h49 | h49
            · skip
              replace hb : zHd _ := hb.1 h49
              refine w_cgt_t dX9_isLetter_9 (t := 16) rfl (by have := zt_122; omega) ?_
              refine w_ic dX9_isLetter_16 zi_0 ?_
              refine w_en dX9_isLetter_17 rfl ?_
              show ZW _ _ _ _ _ _ _ (74, [some (.ref 386), some (.int v41_1), o41_2, o41_3, o41_4, o41_5], [.int 0], M29)
              refine w_lo (ml' := [some (.ref 386), some (.int v41_1), some (.int 0), o41_3, o41_4, o41_5]) dX9_ahead_74 rfl rfl rfl rfl ?_
              refine w_lo dX9_ahead_75 rfl rfl rfl rfl ?_
              refine w_gf dX9_ahead_76 rfl hJ30.1.1 zs_386 (zr_386_0 hJ30.1) ?_
              refine w_lo dX9_ahead_79 rfl rfl rfl rfl ?_
              refine w_ia dX9_ahead_80 hJ30.1.1 zs_387 (znat (by omega)) f39 ?_
              refine w_ss dX9_ahead_81 rfl rfl (As := [.int x42]) rfl rfl (Nat.le_of_ble_eq_true rfl) ?_
              refine ZV.of (ini := false) rfl (Nat.le_of_ble_eq_true rfl) (by decide +kernel) ?_
              show ZW _ _ _ _ _ _ _ (0, [some (.int x42)], [], M29)
              refine w_lo dX9_isDigit_0 rfl rfl rfl rfl ?_
              refine w_bi dX9_isDigit_1 (c := 48) (by decide) ?_
              refine w_clt_f dX9_isDigit_3 (t := 16) rfl (by have := zt_48; omega) ?_
              refine w_lo dX9_isDigit_6 rfl rfl rfl rfl ?_
              refine w_bi dX9_isDigit_7 (c := 57) (by decide) ?_
              refine w_cgt_t dX9_isDigit_9 (t := 16) rfl (by have := zt_57; omega) ?_
              refine w_ic dX9_isDigit_16 zi_0 ?_
              refine w_en dX9_isDigit_17 rfl ?_
              show ZW _ _ _ _ _ _ _ (84, [some (.ref 386), some (.int v41_1), some (.int 0), o41_3, o41_4, o41_5], [.int 0], M29)
              refine w_lo (ml' := [some (.ref 386), some (.int v41_1), some (.int 0), some (.int 0), o41_4, o41_5]) dX9_ahead_84 rfl rfl rfl rfl ?_
              obtain ⟨m, hm, hI⟩ := hb
              exact (ih m hm).2.2.1 M29 v41_1 0 0 o41_4 o41_5 hJ30 (by omega) (by omega) (by have := zt_0; omega) (by have := zt_0; omega) (by have := zt_0; omega) (by have := zt_0; omega) hI
            · skip
              replace hb : zHd _ := hb.2 h49
              refine w_cgt_f dX9_isLetter_9 (t := 16) rfl (by have := zt_122; omega) ?_
              refine w_ic dX9_isLetter_12 zi_1 ?_
              refine w_gt dX9_isLetter_13 (t := 17) rfl ?_
              refine w_en dX9_isLetter_17 rfl ?_
              show ZW _ _ _ _ _ _ _ (74, [some (.ref 386), some (.int v41_1), o41_2, o41_3, o41_4, o41_5], [.int 1], M29)
              refine w_lo (ml' := [some (.ref 386), some (.int v41_1), some (.int 1), o41_3, o41_4, o41_5]) dX9_ahead_74 rfl rfl rfl rfl ?_
              refine w_lo dX9_ahead_75 rfl rfl rfl rfl ?_
              refine w_gf dX9_ahead_76 rfl hJ30.1.1 zs_386 (zr_386_0 hJ30.1) ?_
              refine w_lo dX9_ahead_79 rfl rfl rfl rfl ?_
              refine w_ia dX9_ahead_80 hJ30.1.1 zs_387 (znat (by omega)) f39 ?_
              refine w_ss dX9_ahead_81 rfl rfl (As := [.int x42]) rfl rfl (Nat.le_of_ble_eq_true rfl) ?_
              refine ZV.of (ini := false) rfl (Nat.le_of_ble_eq_true rfl) (by decide +kernel) ?_
              show ZW _ _ _ _ _ _ _ (0, [some (.int x42)], [], M29)
              refine w_lo dX9_isDigit_0 rfl rfl rfl rfl ?_
              refine w_bi dX9_isDigit_1 (c := 48) (by decide) ?_
              refine w_clt_f dX9_isDigit_3 (t := 16) rfl (by have := zt_48; omega) ?_
              refine w_lo dX9_isDigit_6 rfl rfl rfl rfl ?_
              refine w_bi dX9_isDigit_7 (c := 57) (by decide) ?_
              refine w_cgt_t dX9_isDigit_9 (t := 16) rfl (by have := zt_57; omega) ?_
              refine w_ic dX9_isDigit_16 zi_0 ?_
              refine w_en dX9_isDigit_17 rfl ?_
              show ZW _ _ _ _ _ _ _ (84, [some (.ref 386), some (.int v41_1), some (.int 1), o41_3, o41_4, o41_5], [.int 0], M29)
              refine w_lo (ml' := [some (.ref 386), some (.int v41_1), some (.int 1), some (.int 0), o41_4, o41_5]) dX9_ahead_84 rfl rfl rfl rfl ?_
              obtain ⟨m, hm, hI⟩ := hb
              exact (ih m hm).2.2.1 M29 v41_1 1 0 o41_4 o41_5 hJ30 (by omega) (by omega) (by have := zt_1; omega) (by have := zt_1; omega) (by have := zt_0; omega) (by have := zt_0; omega) hI
        · skip
          replace hb : zHd _ := hb.2 h38
          refine w_clt_f dX9_ahead_61 (t := 65) rfl (by omega) ?_
          refine w_en dX9_ahead_64 rfl ?_
          exact ⟨_, rfl, hJ30, hb⟩
      · intro M v85_1 v85_2 v85_3 o85_4 o85_5 hJ v85_10 v85_11 v85_20 v85_21 v85_30 v85_31 hI
        have hb : zHd _ := hb85 n (zi M) v85_1.toInt v85_2.toInt v85_3.toInt (zi_fr hJ.2) v85_10 v85_11 v85_20 v85_21 v85_30 v85_31 hI
        refine w_lo dX9_ahead_85 rfl rfl rfl rfl ?_
        rcases Int.decEq v85_2.toInt (0 : Int) with h56 | h56
        · skip
          replace hb : zHd _ := hb.1 h56
          refine w_ine_t dX9_ahead_86 (t := 93) rfl (by omega) ?_
          refine w_lo dX9_ahead_93 rfl rfl rfl rfl ?_
          rcases zcut (0 : Int) v85_1.toInt with h57 | h57
          · skip
            replace hb : zHd _ := hb.1 h57
            refine w_ile_f dX9_ahead_94 (t := 131) rfl (by omega) ?_
            refine w_lo dX9_ahead_97 rfl rfl rfl rfl ?_
            refine w_gf dX9_ahead_98 rfl hJ.1.1 zs_386 (zr_386_0 hJ.1) ?_
            refine w_lo dX9_ahead_101 rfl rfl rfl rfl ?_
            refine w_ic dX9_ahead_102 zi_1 ?_
            refine w_sub dX9_ahead_103 (by have := zt_1; omega) ?_
            intro x58 h59
            have := zt_1
            replace hb : zHd _ := hb x58.toInt (by have := zt_1; omega)
            refine w_iai dX9_ahead_104 hJ.1 zs_387 (by omega) (by omega) zu_387 ?_
            intro x63 f60 h61 h62
            replace hb : zHd _ := hb x63.toInt (ziEk f60 rfl) h61 h62
            refine w_ss dX9_ahead_105 rfl rfl (As := [.int x63]) rfl rfl (Nat.le_of_ble_eq_true rfl) ?_
            refine ZV.of (ini := false) rfl (Nat.le_of_ble_eq_true rfl) (by decide +kernel) ?_
            show ZW _ _ _ _ _ _ _ (0, [some (.int x63)], [], M)
            refine w_lo dX9_isLetter_0 rfl rfl rfl rfl ?_
            refine w_bi dX9_isLetter_1 (c := 97) (by decide) ?_
            rcases zcut x63.toInt (97 : Int) with h64 | h64
            · skip
              replace hb : zHd _ := hb.1 h64
              refine w_clt_t dX9_isLetter_3 (t := 16) rfl (by have := zt_97; omega) ?_
              refine w_ic dX9_isLetter_16 zi_0 ?_
              refine w_en dX9_isLetter_17 rfl ?_
              show ZW _ _ _ _ _ _ _ (108, [some (.ref 386), some (.int v85_1), some (.int v85_2), some (.int v85_3), o85_4, o85_5], [.int 0], M)
              refine w_ine_f dX9_ahead_108 (t := 125) rfl (by have := zt_0; omega) ?_
              refine w_lo dX9_ahead_111 rfl rfl rfl rfl ?_
              refine w_gf dX9_ahead_112 rfl hJ.1.1 zs_386 (zr_386_0 hJ.1) ?_
              refine w_lo dX9_ahead_115 rfl rfl rfl rfl ?_
              refine w_ic dX9_ahead_116 zi_1 ?_
              refine w_sub dX9_ahead_117 (by have := zt_1; omega) ?_
              intro x65 h66
              have := zt_1
              replace hb : zHd _ := hb x65.toInt (by have := zt_1; omega)
              refine w_iai dX9_ahead_118 hJ.1 zs_387 (by omega) (by omega) zu_387 ?_
              intro x70 f67 h68 h69
              replace hb : zHd _ := hb x70.toInt (ziEk f67 rfl) h68 h69
              refine w_ss dX9_ahead_119 rfl rfl (As := [.int x70]) rfl rfl (Nat.le_of_ble_eq_true rfl) ?_
              refine ZV.of (ini := false) rfl (Nat.le_of_ble_eq_true rfl) (by decide +kernel) ?_
              show ZW _ _ _ _ _ _ _ (0, [some (.int x70)], [], M)
              refine w_lo dX9_isDigit_0 rfl rfl rfl rfl ?_
              refine w_bi dX9_isDigit_1 (c := 48) (by decide) ?_
              rcases zcut x70.toInt (48 : Int) with h71 | h71
              · skip
                replace hb : zHd _ := hb.1 h71
                refine w_clt_t dX9_isDigit_3 (t := 16) rfl (by have := zt_48; omega) ?_
                refine w_ic dX9_isDigit_16 zi_0 ?_
                refine w_en dX9_isDigit_17 rfl ?_
                show ZW _ _ _ _ _ _ _ (122, [some (.ref 386), some (.int v85_1), some (.int v85_2), some (.int v85_3), o85_4, o85_5], [.int 0], M)
                refine w_ieq_t dX9_ahead_122 (t := 131) rfl (by have := zt_0; omega) ?_
                obtain ⟨m, hm, hI⟩ := hb
                exact (ih m hm).2.2.2.1 M v85_1 v85_2 v85_3 o85_4 o85_5 hJ (by omega) (by omega) (by omega) (by omega) (by omega) (by omega) hI
              · skip
                replace hb : zHd _ := hb.2 h71
                refine w_clt_f dX9_isDigit_3 (t := 16) rfl (by have := zt_48; omega) ?_
                refine w_lo dX9_isDigit_6 rfl rfl rfl rfl ?_
                refine w_bi dX9_isDigit_7 (c := 57) (by decide) ?_
                rcases zcut (57 : Int) x70.toInt with h72 | h72
                · skip
                  replace hb : zHd _ := hb.1 h72
                  refine w_cgt_t dX9_isDigit_9 (t := 16) rfl (by have := zt_57; omega) ?_
                  refine w_ic dX9_isDigit_16 zi_0 ?_
                  refine w_en dX9_isDigit_17 rfl ?_
                  show ZW _ _ _ _ _ _ _ (122, [some (.ref 386), some (.int v85_1), some (.int v85_2), some (.int v85_3), o85_4, o85_5], [.int 0], M)
                  refine w_ieq_t dX9_ahead_122 (t := 131) rfl (by have := zt_0; omega) ?_
                  obtain ⟨m, hm, hI⟩ := hb
                  exact (ih m hm).2.2.2.1 M v85_1 v85_2 v85_3 o85_4 o85_5 hJ (by omega) (by omega) (by omega) (by omega) (by omega) (by omega) hI
                · skip
                  replace hb : zHd _ := hb.2 h72
                  refine w_cgt_f dX9_isDigit_9 (t := 16) rfl (by have := zt_57; omega) ?_
                  refine w_ic dX9_isDigit_12 zi_1 ?_
                  refine w_gt dX9_isDigit_13 (t := 17) rfl ?_
                  refine w_en dX9_isDigit_17 rfl ?_
                  show ZW _ _ _ _ _ _ _ (122, [some (.ref 386), some (.int v85_1), some (.int v85_2), some (.int v85_3), o85_4, o85_5], [.int 1], M)
                  refine w_ieq_f dX9_ahead_122 (t := 131) rfl (by have := zt_1; omega) ?_
                  refine w_lo dX9_ahead_125 rfl rfl rfl rfl ?_
                  refine w_ic dX9_ahead_126 zi_1 ?_
                  refine w_lo dX9_ahead_127 rfl rfl rfl rfl ?_
                  refine w_iv dX9_ahead_128 rfl rfl (As := [.int 1, .int v85_1]) rfl rfl hJ.1.1 zs_386 (Nat.le_of_ble_eq_true rfl) ?_
                  refine ZV.of (ini := false) rfl (Nat.le_of_ble_eq_true rfl) (by decide +kernel) ?_
                  show ZW _ _ _ _ _ _ _ (0, [some (.ref 386), some (.int 1), some (.int v85_1)], [], M)
                  refine w_lo dX9_blame_0 rfl rfl rfl rfl ?_
                  refine w_gfi dX9_blame_1 rfl hJ.1 zs_386 (Nat.le_of_ble_eq_true rfl) zo_386_8 ?_
                  intro x73 f74 h75 h76
                  replace hb : zHd _ := hb x73.toInt (ziE f74) h75 h76
                  rcases zcut (0 : Int) x73.toInt with h77 | h77
                  · skip
                    replace hb : zHd _ := hb.1 h77
                    refine w_ile_f dX9_blame_4 (t := 8) rfl (by omega) ?_
                    refine w_en dX9_blame_7 rfl ?_
                    show ZW _ _ _ _ _ _ _ (131, [some (.ref 386), some (.int v85_1), some (.int v85_2), some (.int v85_3), o85_4, o85_5], [], M)
                    obtain ⟨m, hm, hI⟩ := hb
                    exact (ih m hm).2.2.2.1 M v85_1 v85_2 v85_3 o85_4 o85_5 hJ (by omega) (by omega) (by omega) (by omega) (by omega) (by omega) hI
                  · skip
                    replace hb : zHd _ := hb.2 h77
                    refine w_ile_t dX9_blame_4 (t := 8) rfl (by omega) ?_
                    refine w_lo dX9_blame_8 rfl rfl rfl rfl ?_
                    refine w_lo dX9_blame_9 rfl rfl rfl rfl ?_
                    refine w_pfi dX9_blame_10 rfl hJ zs_386 (Nat.le_of_ble_eq_true rfl) zo_386_8 (by have := zt_1; omega) (by have := zt_1; omega) (zIR_s (zIR_s (zIR_s (zIR_s (zIR_s (zIR_k (by omega) (by omega))))))) rfl rfl rfl ?_
                    intro M78 hJ79 f80 hn81
                    replace hb : zHd _ := hb (zi M78) (zi_zup hn81 f80 rfl zt_1)
                    refine w_lo dX9_blame_13 rfl rfl rfl rfl ?_
                    refine w_lo dX9_blame_14 rfl rfl rfl rfl ?_
                    refine w_pfi dX9_blame_15 rfl hJ79 zs_386 (Nat.le_of_ble_eq_true rfl) zo_386_9 (by omega) (by omega) (zIR_s (zIR_s (zIR_s (zIR_s (zIR_s (zIR_s (zIR_k (by omega) (by omega)))))))) rfl rfl rfl ?_
                    intro M83 hJ84 f85 hn86
                    replace hb : zHd _ := hb (zi M83) (zi_zup hn86 f85 rfl rfl)
                    refine w_en dX9_blame_18 rfl ?_
                    show ZW _ _ _ _ _ _ _ (131, [some (.ref 386), some (.int v85_1), some (.int v85_2), some (.int v85_3), o85_4, o85_5], [], M83)
                    obtain ⟨m, hm, hI⟩ := hb
                    exact (ih m hm).2.2.2.1 M83 v85_1 v85_2 v85_3 o85_4 o85_5 hJ84 (by omega) (by omega) (by omega) (by omega) (by omega) (by omega) hI
            · skip
              replace hb : zHd _ := hb.2 h64
              refine w_clt_f dX9_isLetter_3 (t := 16) rfl (by have := zt_97; omega) ?_
              refine w_lo dX9_isLetter_6 rfl rfl rfl rfl ?_
              refine w_bi dX9_isLetter_7 (c := 122) (by decide) ?_
              rcases zcut (122 : Int) x63.toInt with h88 | h88
              · skip
                replace hb : zHd _ := hb.1 h88
                refine w_cgt_t dX9_isLetter_9 (t := 16) rfl (by have := zt_122; omega) ?_
                refine w_ic dX9_isLetter_16 zi_0 ?_
                refine w_en dX9_isLetter_17 rfl ?_
                show ZW _ _ _ _ _ _ _ (108, [some (.ref 386), some (.int v85_1), some (.int v85_2), some (.int v85_3), o85_4, o85_5], [.int 0], M)
                refine w_ine_f dX9_ahead_108 (t := 125) rfl (by have := zt_0; omega) ?_
                refine w_lo dX9_ahead_111 rfl rfl rfl rfl ?_
                refine w_gf dX9_ahead_112 rfl hJ.1.1 zs_386 (zr_386_0 hJ.1) ?_
                refine w_lo dX9_ahead_115 rfl rfl rfl rfl ?_
                refine w_ic dX9_ahead_116 zi_1 ?_
                refine w_sub dX9_ahead_117 (by have := zt_1; omega) ?_
                intro x89 h90
                have := zt_1
                replace hb : zHd _ := hb x89.toInt (by have := zt_1; omega)
                refine w_iai dX9_ahead_118 hJ.1 zs_387 (by omega) (by omega) zu_387 ?_
                intro x94 f91 h92 h93
                replace hb : zHd _ := hb x94.toInt (ziEk f91 rfl) h92 h93
                refine w_ss dX9_ahead_119 rfl rfl (As := [.int x94]) rfl rfl (Nat.le_of_ble_eq_true rfl) ?_
                refine ZV.of (ini := false) rfl (Nat.le_of_ble_eq_true rfl) (by decide +kernel) ?_
                show ZW _ _ _ _ _ _ _ (0, [some (.int x94)], [], M)
                refine w_lo dX9_isDigit_0 rfl rfl rfl rfl ?_
                refine w_bi dX9_isDigit_1 (c := 48) (by decide) ?_
                rcases zcut x94.toInt (48 : Int) with h95 | h95
                · skip
                  replace hb : zHd _ := hb.1 h95
                  refine w_clt_t dX9_isDigit_3 (t := 16) rfl (by have := zt_48; omega) ?_
                  refine w_ic dX9_isDigit_16 zi_0 ?_
                  refine w_en dX9_isDigit_17 rfl ?_
                  show ZW _ _ _ _ _ _ _ (122, [some (.ref 386), some (.int v85_1), some (.int v85_2), some (.int v85_3), o85_4, o85_5], [.int 0], M)
                  refine w_ieq_t dX9_ahead_122 (t := 131) rfl (by have := zt_0; omega) ?_
                  obtain ⟨m, hm, hI⟩ := hb
                  exact (ih m hm).2.2.2.1 M v85_1 v85_2 v85_3 o85_4 o85_5 hJ (by omega) (by omega) (by omega) (by omega) (by omega) (by omega) hI
                · skip
                  replace hb : zHd _ := hb.2 h95
                  refine w_clt_f dX9_isDigit_3 (t := 16) rfl (by have := zt_48; omega) ?_
                  refine w_lo dX9_isDigit_6 rfl rfl rfl rfl ?_
                  refine w_bi dX9_isDigit_7 (c := 57) (by decide) ?_
                  rcases zcut (57 : Int) x94.toInt with h96 | h96
                  · skip
                    replace hb : zHd _ := hb.1 h96
                    refine w_cgt_t dX9_isDigit_9 (t := 16) rfl (by have := zt_57; omega) ?_
                    refine w_ic dX9_isDigit_16 zi_0 ?_
                    refine w_en dX9_isDigit_17 rfl ?_
                    show ZW _ _ _ _ _ _ _ (122, [some (.ref 386), some (.int v85_1), some (.int v85_2), some (.int v85_3), o85_4, o85_5], [.int 0], M)
                    refine w_ieq_t dX9_ahead_122 (t := 131) rfl (by have := zt_0; omega) ?_
                    obtain ⟨m, hm, hI⟩ := hb
                    exact (ih m hm).2.2.2.1 M v85_1 v85_2 v85_3 o85_4 o85_5 hJ (by omega) (by omega) (by omega) (by omega) (by omega) (by omega) hI
                  · skip
                    replace hb : zHd _ := hb.2 h96
                    refine w_cgt_f dX9_isDigit_9 (t := 16) rfl (by have := zt_57; omega) ?_
                    refine w_ic dX9_isDigit_12 zi_1 ?_
                    refine w_gt dX9_isDigit_13 (t := 17) rfl ?_
                    refine w_en dX9_isDigit_17 rfl ?_
                    show ZW _ _ _ _ _ _ _ (122, [some (.ref 386), some (.int v85_1), some (.int v85_2), some (.int v85_3), o85_4, o85_5], [.int 1], M)
                    refine w_ieq_f dX9_ahead_122 (t := 131) rfl (by have := zt_1; omega) ?_
                    refine w_lo dX9_ahead_125 rfl rfl rfl rfl ?_
                    refine w_ic dX9_ahead_126 zi_1 ?_
                    refine w_lo dX9_ahead_127 rfl rfl rfl rfl ?_
                    refine w_iv dX9_ahead_128 rfl rfl (As := [.int 1, .int v85_1]) rfl rfl hJ.1.1 zs_386 (Nat.le_of_ble_eq_true rfl) ?_
                    refine ZV.of (ini := false) rfl (Nat.le_of_ble_eq_true rfl) (by decide +kernel) ?_
                    show ZW _ _ _ _ _ _ _ (0, [some (.ref 386), some (.int 1), some (.int v85_1)], [], M)
                    refine w_lo dX9_blame_0 rfl rfl rfl rfl ?_
                    refine w_gfi dX9_blame_1 rfl hJ.1 zs_386 (Nat.le_of_ble_eq_true rfl) zo_386_8 ?_
                    intro x97 f98 h99 h100
                    replace hb : zHd _ := hb x97.toInt (ziE f98) h99 h100
                    rcases zcut (0 : Int) x97.toInt with h101 | h101
                    · skip
                      replace hb : zHd _ := hb.1 h101
                      refine w_ile_f dX9_blame_4 (t := 8) rfl (by omega) ?_
                      refine w_en dX9_blame_7 rfl ?_
                      show ZW _ _ _ _ _ _ _ (131, [some (.ref 386), some (.int v85_1), some (.int v85_2), some (.int v85_3), o85_4, o85_5], [], M)
                      obtain ⟨m, hm, hI⟩ := hb
                      exact (ih m hm).2.2.2.1 M v85_1 v85_2 v85_3 o85_4 o85_5 hJ (by omega) (by omega) (by omega) (by omega) (by omega) (by omega) hI
                    · skip
                      replace hb : zHd _ := hb.2 h101
                      refine w_ile_t dX9_blame_4 (t := 8) rfl (by omega) ?_
                      refine w_lo dX9_blame_8 rfl rfl rfl rfl ?_
                      refine w_lo dX9_blame_9 rfl rfl rfl rfl ?_
                      refine w_pfi dX9_blame_10 rfl hJ zs_386 (Nat.le_of_ble_eq_true rfl) zo_386_8 (by have := zt_1; omega) (by have := zt_1; omega) (zIR_s (zIR_s (zIR_s (zIR_s (zIR_s (zIR_k (by omega) (by omega))))))) rfl rfl rfl ?_
                      intro M102 hJ103 f104 hn105
                      replace hb : zHd _ := hb (zi M102) (zi_zup hn105 f104 rfl zt_1)
                      refine w_lo dX9_blame_13 rfl rfl rfl rfl ?_
                      refine w_lo dX9_blame_14 rfl rfl rfl rfl ?_
                      refine w_pfi dX9_blame_15 rfl hJ103 zs_386 (Nat.le_of_ble_eq_true rfl) zo_386_9 (by omega) (by omega) (zIR_s (zIR_s (zIR_s (zIR_s (zIR_s (zIR_s (zIR_k (by omega) (by omega)))))))) rfl rfl rfl ?_
                      intro M107 hJ108 f109 hn110
                      replace hb : zHd _ := hb (zi M107) (zi_zup hn110 f109 rfl rfl)
                      refine w_en dX9_blame_18 rfl ?_
                      show ZW _ _ _ _ _ _ _ (131, [some (.ref 386), some (.int v85_1), some (.int v85_2), some (.int v85_3), o85_4, o85_5], [], M107)
                      obtain ⟨m, hm, hI⟩ := hb
                      exact (ih m hm).2.2.2.1 M107 v85_1 v85_2 v85_3 o85_4 o85_5 hJ108 (by omega) (by omega) (by omega) (by omega) (by omega) (by omega) hI
              · skip
                replace hb : zHd _ := hb.2 h88
                refine w_cgt_f dX9_isLetter_9 (t := 16) rfl (by have := zt_122; omega) ?_
                refine w_ic dX9_isLetter_12 zi_1 ?_
                refine w_gt dX9_isLetter_13 (t := 17) rfl ?_
                refine w_en dX9_isLetter_17 rfl ?_
                show ZW _ _ _ _ _ _ _ (108, [some (.ref 386), some (.int v85_1), some (.int v85_2), some (.int v85_3), o85_4, o85_5], [.int 1], M)
                refine w_ine_t dX9_ahead_108 (t := 125) rfl (by have := zt_1; omega) ?_
                refine w_lo dX9_ahead_125 rfl rfl rfl rfl ?_
                refine w_ic dX9_ahead_126 zi_1 ?_
                refine w_lo dX9_ahead_127 rfl rfl rfl rfl ?_
                refine w_iv dX9_ahead_128 rfl rfl (As := [.int 1, .int v85_1]) rfl rfl hJ.1.1 zs_386 (Nat.le_of_ble_eq_true rfl) ?_
                refine ZV.of (ini := false) rfl (Nat.le_of_ble_eq_true rfl) (by decide +kernel) ?_
                show ZW _ _ _ _ _ _ _ (0, [some (.ref 386), some (.int 1), some (.int v85_1)], [], M)
                refine w_lo dX9_blame_0 rfl rfl rfl rfl ?_
                refine w_gfi dX9_blame_1 rfl hJ.1 zs_386 (Nat.le_of_ble_eq_true rfl) zo_386_8 ?_
                intro x112 f113 h114 h115
                replace hb : zHd _ := hb x112.toInt (ziE f113) h114 h115
                rcases zcut (0 : Int) x112.toInt with h116 | h116
                · skip
                  replace hb : zHd _ := hb.1 h116
                  refine w_ile_f dX9_blame_4 (t := 8) rfl (by omega) ?_
                  refine w_en dX9_blame_7 rfl ?_
                  show ZW _ _ _ _ _ _ _ (131, [some (.ref 386), some (.int v85_1), some (.int v85_2), some (.int v85_3), o85_4, o85_5], [], M)
                  obtain ⟨m, hm, hI⟩ := hb
                  exact (ih m hm).2.2.2.1 M v85_1 v85_2 v85_3 o85_4 o85_5 hJ (by omega) (by omega) (by omega) (by omega) (by omega) (by omega) hI
                · skip
                  replace hb : zHd _ := hb.2 h116
                  refine w_ile_t dX9_blame_4 (t := 8) rfl (by omega) ?_
                  refine w_lo dX9_blame_8 rfl rfl rfl rfl ?_
                  refine w_lo dX9_blame_9 rfl rfl rfl rfl ?_
                  refine w_pfi dX9_blame_10 rfl hJ zs_386 (Nat.le_of_ble_eq_true rfl) zo_386_8 (by have := zt_1; omega) (by have := zt_1; omega) (zIR_s (zIR_s (zIR_s (zIR_s (zIR_s (zIR_k (by omega) (by omega))))))) rfl rfl rfl ?_
                  intro M117 hJ118 f119 hn120
                  replace hb : zHd _ := hb (zi M117) (zi_zup hn120 f119 rfl zt_1)
                  refine w_lo dX9_blame_13 rfl rfl rfl rfl ?_
                  refine w_lo dX9_blame_14 rfl rfl rfl rfl ?_
                  refine w_pfi dX9_blame_15 rfl hJ118 zs_386 (Nat.le_of_ble_eq_true rfl) zo_386_9 (by omega) (by omega) (zIR_s (zIR_s (zIR_s (zIR_s (zIR_s (zIR_s (zIR_k (by omega) (by omega)))))))) rfl rfl rfl ?_
                  intro M122 hJ123 f124 hn125
                  replace hb : zHd _ := hb (zi M122) (zi_zup hn125 f124 rfl rfl)
                  refine w_en dX9_blame_18 rfl ?_
                  show ZW _ _ _ _ _ _ _ (131, [some (.ref 386), some (.int v85_1), some (.int v85_2), some (.int v85_3), o85_4, o85_5], [], M122)
                  obtain ⟨m, hm, hI⟩ := hb
                  exact (ih m hm).2.2.2.1 M122 v85_1 v85_2 v85_3 o85_4 o85_5 hJ123 (by omega) (by omega) (by omega) (by omega) (by omega) (by omega) hI
          · skip
            replace hb : zHd _ := hb.2 h57
            refine w_ile_t dX9_ahead_94 (t := 131) rfl (by omega) ?_
            obtain ⟨m, hm, hI⟩ := hb
            exact (ih m hm).2.2.2.1 M v85_1 v85_2 v85_3 o85_4 o85_5 hJ (by omega) (by omega) (by omega) (by omega) (by omega) (by omega) hI
        · skip
          replace hb : zHd _ := hb.2 h56
          refine w_ine_f dX9_ahead_86 (t := 93) rfl (by omega) ?_
          refine w_lo dX9_ahead_89 rfl rfl rfl rfl ?_
          rcases Int.decEq v85_3.toInt (0 : Int) with h127 | h127
          · skip
            replace hb : zHd _ := hb.1 h127
            refine w_ieq_f dX9_ahead_90 (t := 131) rfl (by omega) ?_
            refine w_lo dX9_ahead_93 rfl rfl rfl rfl ?_
            rcases zcut (0 : Int) v85_1.toInt with h128 | h128
            · skip
              replace hb : zHd _ := hb.1 h128
              refine w_ile_f dX9_ahead_94 (t := 131) rfl (by omega) ?_
              refine w_lo dX9_ahead_97 rfl rfl rfl rfl ?_
              refine w_gf dX9_ahead_98 rfl hJ.1.1 zs_386 (zr_386_0 hJ.1) ?_
              refine w_lo dX9_ahead_101 rfl rfl rfl rfl ?_
              refine w_ic dX9_ahead_102 zi_1 ?_
              refine w_sub dX9_ahead_103 (by have := zt_1; omega) ?_
              intro x129 h130
              have := zt_1
              replace hb : zHd _ := hb x129.toInt (by have := zt_1; omega)
              refine w_iai dX9_ahead_104 hJ.1 zs_387 (by omega) (by omega) zu_387 ?_
              intro x134 f131 h132 h133
              replace hb : zHd _ := hb x134.toInt (ziEk f131 rfl) h132 h133
              refine w_ss dX9_ahead_105 rfl rfl (As := [.int x134]) rfl rfl (Nat.le_of_ble_eq_true rfl) ?_
              refine ZV.of (ini := false) rfl (Nat.le_of_ble_eq_true rfl) (by decide +kernel) ?_
              show ZW _ _ _ _ _ _ _ (0, [some (.int x134)], [], M)
              refine w_lo dX9_isLetter_0 rfl rfl rfl rfl ?_
              refine w_bi dX9_isLetter_1 (c := 97) (by decide) ?_
              rcases zcut x134.toInt (97 : Int) with h135 | h135
              · skip
                replace hb : zHd _ := hb.1 h135
                refine w_clt_t dX9_isLetter_3 (t := 16) rfl (by have := zt_97; omega) ?_
                refine w_ic dX9_isLetter_16 zi_0 ?_
                refine w_en dX9_isLetter_17 rfl ?_
                show ZW _ _ _ _ _ _ _ (108, [some (.ref 386), some (.int v85_1), some (.int v85_2), some (.int v85_3), o85_4, o85_5], [.int 0], M)
                refine w_ine_f dX9_ahead_108 (t := 125) rfl (by have := zt_0; omega) ?_
                refine w_lo dX9_ahead_111 rfl rfl rfl rfl ?_
                refine w_gf dX9_ahead_112 rfl hJ.1.1 zs_386 (zr_386_0 hJ.1) ?_
                refine w_lo dX9_ahead_115 rfl rfl rfl rfl ?_
                refine w_ic dX9_ahead_116 zi_1 ?_
                refine w_sub dX9_ahead_117 (by have := zt_1; omega) ?_
                intro x136 h137
                have := zt_1
                replace hb : zHd _ := hb x136.toInt (by have := zt_1; omega)
                refine w_iai dX9_ahead_118 hJ.1 zs_387 (by omega) (by omega) zu_387 ?_
                intro x141 f138 h139 h140
                replace hb : zHd _ := hb x141.toInt (ziEk f138 rfl) h139 h140
                refine w_ss dX9_ahead_119 rfl rfl (As := [.int x141]) rfl rfl (Nat.le_of_ble_eq_true rfl) ?_
                refine ZV.of (ini := false) rfl (Nat.le_of_ble_eq_true rfl) (by decide +kernel) ?_
                show ZW _ _ _ _ _ _ _ (0, [some (.int x141)], [], M)
                refine w_lo dX9_isDigit_0 rfl rfl rfl rfl ?_
                refine w_bi dX9_isDigit_1 (c := 48) (by decide) ?_
                rcases zcut x141.toInt (48 : Int) with h142 | h142
                · skip
                  replace hb : zHd _ := hb.1 h142
                  refine w_clt_t dX9_isDigit_3 (t := 16) rfl (by have := zt_48; omega) ?_
                  refine w_ic dX9_isDigit_16 zi_0 ?_
                  refine w_en dX9_isDigit_17 rfl ?_
                  show ZW _ _ _ _ _ _ _ (122, [some (.ref 386), some (.int v85_1), some (.int v85_2), some (.int v85_3), o85_4, o85_5], [.int 0], M)
                  refine w_ieq_t dX9_ahead_122 (t := 131) rfl (by have := zt_0; omega) ?_
                  obtain ⟨m, hm, hI⟩ := hb
                  exact (ih m hm).2.2.2.1 M v85_1 v85_2 v85_3 o85_4 o85_5 hJ (by omega) (by omega) (by omega) (by omega) (by omega) (by omega) hI
                · skip
                  replace hb : zHd _ := hb.2 h142
                  refine w_clt_f dX9_isDigit_3 (t := 16) rfl (by have := zt_48; omega) ?_
                  refine w_lo dX9_isDigit_6 rfl rfl rfl rfl ?_
                  refine w_bi dX9_isDigit_7 (c := 57) (by decide) ?_
                  rcases zcut (57 : Int) x141.toInt with h143 | h143
                  · skip
                    replace hb : zHd _ := hb.1 h143
                    refine w_cgt_t dX9_isDigit_9 (t := 16) rfl (by have := zt_57; omega) ?_
                    refine w_ic dX9_isDigit_16 zi_0 ?_
                    refine w_en dX9_isDigit_17 rfl ?_
                    show ZW _ _ _ _ _ _ _ (122, [some (.ref 386), some (.int v85_1), some (.int v85_2), some (.int v85_3), o85_4, o85_5], [.int 0], M)
                    refine w_ieq_t dX9_ahead_122 (t := 131) rfl (by have := zt_0; omega) ?_
                    obtain ⟨m, hm, hI⟩ := hb
                    exact (ih m hm).2.2.2.1 M v85_1 v85_2 v85_3 o85_4 o85_5 hJ (by omega) (by omega) (by omega) (by omega) (by omega) (by omega) hI
                  · skip
                    replace hb : zHd _ := hb.2 h143
                    refine w_cgt_f dX9_isDigit_9 (t := 16) rfl (by have := zt_57; omega) ?_
                    refine w_ic dX9_isDigit_12 zi_1 ?_
                    refine w_gt dX9_isDigit_13 (t := 17) rfl ?_
                    refine w_en dX9_isDigit_17 rfl ?_
                    show ZW _ _ _ _ _ _ _ (122, [some (.ref 386), some (.int v85_1), some (.int v85_2), some (.int v85_3), o85_4, o85_5], [.int 1], M)
                    refine w_ieq_f dX9_ahead_122 (t := 131) rfl (by have := zt_1; omega) ?_
                    refine w_lo dX9_ahead_125 rfl rfl rfl rfl ?_
                    refine w_ic dX9_ahead_126 zi_1 ?_
                    refine w_lo dX9_ahead_127 rfl rfl rfl rfl ?_
                    refine w_iv dX9_ahead_128 rfl rfl (As := [.int 1, .int v85_1]) rfl rfl hJ.1.1 zs_386 (Nat.le_of_ble_eq_true rfl) ?_
                    refine ZV.of (ini := false) rfl (Nat.le_of_ble_eq_true rfl) (by decide +kernel) ?_
                    show ZW _ _ _ _ _ _ _ (0, [some (.ref 386), some (.int 1), some (.int v85_1)], [], M)
                    refine w_lo dX9_blame_0 rfl rfl rfl rfl ?_
                    refine w_gfi dX9_blame_1 rfl hJ.1 zs_386 (Nat.le_of_ble_eq_true rfl) zo_386_8 ?_
                    intro x144 f145 h146 h147
                    replace hb : zHd _ := hb x144.toInt (ziE f145) h146 h147
                    rcases zcut (0 : Int) x144.toInt with h148 | h148
                    · skip
                      replace hb : zHd _ := hb.1 h148
                      refine w_ile_f dX9_blame_4 (t := 8) rfl (by omega) ?_
                      refine w_en dX9_blame_7 rfl ?_
                      show ZW _ _ _ _ _ _ _ (131, [some (.ref 386), some (.int v85_1), some (.int v85_2), some (.int v85_3), o85_4, o85_5], [], M)
                      obtain ⟨m, hm, hI⟩ := hb
                      exact (ih m hm).2.2.2.1 M v85_1 v85_2 v85_3 o85_4 o85_5 hJ (by omega) (by omega) (by omega) (by omega) (by omega) (by omega) hI
                    · skip
                      replace hb : zHd _ := hb.2 h148
                      refine w_ile_t dX9_blame_4 (t := 8) rfl (by omega) ?_
                      refine w_lo dX9_blame_8 rfl rfl rfl rfl ?_
                      refine w_lo dX9_blame_9 rfl rfl rfl rfl ?_
                      refine w_pfi dX9_blame_10 rfl hJ zs_386 (Nat.le_of_ble_eq_true rfl) zo_386_8 (by have := zt_1; omega) (by have := zt_1; omega) (zIR_s (zIR_s (zIR_s (zIR_s (zIR_s (zIR_k (by omega) (by omega))))))) rfl rfl rfl ?_
                      intro M149 hJ150 f151 hn152
                      replace hb : zHd _ := hb (zi M149) (zi_zup hn152 f151 rfl zt_1)
                      refine w_lo dX9_blame_13 rfl rfl rfl rfl ?_
                      refine w_lo dX9_blame_14 rfl rfl rfl rfl ?_
                      refine w_pfi dX9_blame_15 rfl hJ150 zs_386 (Nat.le_of_ble_eq_true rfl) zo_386_9 (by omega) (by omega) (zIR_s (zIR_s (zIR_s (zIR_s (zIR_s (zIR_s (zIR_k (by omega) (by omega)))))))) rfl rfl rfl ?_
                      intro M154 hJ155 f156 hn157
                      replace hb : zHd _ := hb (zi M154) (zi_zup hn157 f156 rfl rfl)
                      refine w_en dX9_blame_18 rfl ?_
                      show ZW _ _ _ _ _ _ _ (131, [some (.ref 386), some (.int v85_1), some (.int v85_2), some (.int v85_3), o85_4, o85_5], [], M154)
                      obtain ⟨m, hm, hI⟩ := hb
                      exact (ih m hm).2.2.2.1 M154 v85_1 v85_2 v85_3 o85_4 o85_5 hJ155 (by omega) (by omega) (by omega) (by omega) (by omega) (by omega) hI
              · skip
                replace hb : zHd _ := hb.2 h135
                refine w_clt_f dX9_isLetter_3 (t := 16) rfl (by have := zt_97; omega) ?_
                refine w_lo dX9_isLetter_6 rfl rfl rfl rfl ?_
                refine w_bi dX9_isLetter_7 (c := 122) (by decide) ?_
                rcases zcut (122 : Int) x134.toInt with h159 | h159
                · skip
                  replace hb : zHd _ := hb.1 h159
                  refine w_cgt_t dX9_isLetter_9 (t := 16) rfl (by have := zt_122; omega) ?_
                  refine w_ic dX9_isLetter_16 zi_0 ?_
                  refine w_en dX9_isLetter_17 rfl ?_
                  show ZW _ _ _ _ _ _ _ (108, [some (.ref 386), some (.int v85_1), some (.int v85_2), some (.int v85_3), o85_4, o85_5], [.int 0], M)
                  refine w_ine_f dX9_ahead_108 (t := 125) rfl (by have := zt_0; omega) ?_
                  refine w_lo dX9_ahead_111 rfl rfl rfl rfl ?_
                  refine w_gf dX9_ahead_112 rfl hJ.1.1 zs_386 (zr_386_0 hJ.1) ?_
                  refine w_lo dX9_ahead_115 rfl rfl rfl rfl ?_
                  refine w_ic dX9_ahead_116 zi_1 ?_
                  refine w_sub dX9_ahead_117 (by have := zt_1; omega) ?_
                  intro x160 h161
                  have := zt_1
                  replace hb : zHd _ := hb x160.toInt (by have := zt_1; omega)
                  refine w_iai dX9_ahead_118 hJ.1 zs_387 (by omega) (by omega) zu_387 ?_
                  intro x165 f162 h163 h164
                  replace hb : zHd _ := hb x165.toInt (ziEk f162 rfl) h163 h164
                  refine w_ss dX9_ahead_119 rfl rfl (As := [.int x165]) rfl rfl (Nat.le_of_ble_eq_true rfl) ?_
                  refine ZV.of (ini := false) rfl (Nat.le_of_ble_eq_true rfl) (by decide +kernel) ?_
                  show ZW _ _ _ _ _ _ _ (0, [some (.int x165)], [], M)
                  refine w_lo dX9_isDigit_0 rfl rfl rfl rfl ?_
                  refine w_bi dX9_isDigit_1 (c := 48) (by decide) ?_
                  rcases zcut x165.toInt (48 : Int) with h166 | h166
                  · skip
                    replace hb : zHd _ := hb.1 h166
                    refine w_clt_t dX9_isDigit_3 (t := 16) rfl (by have := zt_48; omega) ?_
                    refine w_ic dX9_isDigit_16 zi_0 ?_
                    refine w_en dX9_isDigit_17 rfl ?_
                    show ZW _ _ _ _ _ _ _ (122, [some (.ref 386), some (.int v85_1), some (.int v85_2), some (.int v85_3), o85_4, o85_5], [.int 0], M)
                    refine w_ieq_t dX9_ahead_122 (t := 131) rfl (by have := zt_0; omega) ?_
                    obtain ⟨m, hm, hI⟩ := hb
                    exact (ih m hm).2.2.2.1 M v85_1 v85_2 v85_3 o85_4 o85_5 hJ (by omega) (by omega) (by omega) (by omega) (by omega) (by omega) hI
                  · skip
                    replace hb : zHd _ := hb.2 h166
                    refine w_clt_f dX9_isDigit_3 (t := 16) rfl (by have := zt_48; omega) ?_
                    refine w_lo dX9_isDigit_6 rfl rfl rfl rfl ?_
                    refine w_bi dX9_isDigit_7 (c := 57) (by decide) ?_
                    rcases zcut (57 : Int) x165.toInt with h167 | h167
                    · skip
                      replace hb : zHd _ := hb.1 h167
                      refine w_cgt_t dX9_isDigit_9 (t := 16) rfl (by have := zt_57; omega) ?_
                      refine w_ic dX9_isDigit_16 zi_0 ?_
                      refine w_en dX9_isDigit_17 rfl ?_
                      show ZW _ _ _ _ _ _ _ (122, [some (.ref 386), some (.int v85_1), some (.int v85_2), some (.int v85_3), o85_4, o85_5], [.int 0], M)
                      refine w_ieq_t dX9_ahead_122 (t := 131) rfl (by have := zt_0; omega) ?_
                      obtain ⟨m, hm, hI⟩ := hb
                      exact (ih m hm).2.2.2.1 M v85_1 v85_2 v85_3 o85_4 o85_5 hJ (by omega) (by omega) (by omega) (by omega) (by omega) (by omega) hI
                    · skip
                      replace hb : zHd _ := hb.2 h167
                      refine w_cgt_f dX9_isDigit_9 (t := 16) rfl (by have := zt_57; omega) ?_
                      refine w_ic dX9_isDigit_12 zi_1 ?_
                      refine w_gt dX9_isDigit_13 (t := 17) rfl ?_
                      refine w_en dX9_isDigit_17 rfl ?_
                      show ZW _ _ _ _ _ _ _ (122, [some (.ref 386), some (.int v85_1), some (.int v85_2), some (.int v85_3), o85_4, o85_5], [.int 1], M)
                      refine w_ieq_f dX9_ahead_122 (t := 131) rfl (by have := zt_1; omega) ?_
                      refine w_lo dX9_ahead_125 rfl rfl rfl rfl ?_
                      refine w_ic dX9_ahead_126 zi_1 ?_
                      refine w_lo dX9_ahead_127 rfl rfl rfl rfl ?_
                      refine w_iv dX9_ahead_128 rfl rfl (As := [.int 1, .int v85_1]) rfl rfl hJ.1.1 zs_386 (Nat.le_of_ble_eq_true rfl) ?_
                      refine ZV.of (ini := false) rfl (Nat.le_of_ble_eq_true rfl) (by decide +kernel) ?_
                      show ZW _ _ _ _ _ _ _ (0, [some (.ref 386), some (.int 1), some (.int v85_1)], [], M)
                      refine w_lo dX9_blame_0 rfl rfl rfl rfl ?_
                      refine w_gfi dX9_blame_1 rfl hJ.1 zs_386 (Nat.le_of_ble_eq_true rfl) zo_386_8 ?_
                      intro x168 f169 h170 h171
                      replace hb : zHd _ := hb x168.toInt (ziE f169) h170 h171
                      rcases zcut (0 : Int) x168.toInt with h172 | h172
                      · skip
                        replace hb : zHd _ := hb.1 h172
                        refine w_ile_f dX9_blame_4 (t := 8) rfl (by omega) ?_
                        refine w_en dX9_blame_7 rfl ?_
                        show ZW _ _ _ _ _ _ _ (131, [some (.ref 386), some (.int v85_1), some (.int v85_2), some (.int v85_3), o85_4, o85_5], [], M)
                        obtain ⟨m, hm, hI⟩ := hb
                        exact (ih m hm).2.2.2.1 M v85_1 v85_2 v85_3 o85_4 o85_5 hJ (by omega) (by omega) (by omega) (by omega) (by omega) (by omega) hI
                      · skip
                        replace hb : zHd _ := hb.2 h172
                        refine w_ile_t dX9_blame_4 (t := 8) rfl (by omega) ?_
                        refine w_lo dX9_blame_8 rfl rfl rfl rfl ?_
                        refine w_lo dX9_blame_9 rfl rfl rfl rfl ?_
                        refine w_pfi dX9_blame_10 rfl hJ zs_386 (Nat.le_of_ble_eq_true rfl) zo_386_8 (by have := zt_1; omega) (by have := zt_1; omega) (zIR_s (zIR_s (zIR_s (zIR_s (zIR_s (zIR_k (by omega) (by omega))))))) rfl rfl rfl ?_
                        intro M173 hJ174 f175 hn176
                        replace hb : zHd _ := hb (zi M173) (zi_zup hn176 f175 rfl zt_1)
                        refine w_lo dX9_blame_13 rfl rfl rfl rfl ?_
                        refine w_lo dX9_blame_14 rfl rfl rfl rfl ?_
                        refine w_pfi dX9_blame_15 rfl hJ174 zs_386 (Nat.le_of_ble_eq_true rfl) zo_386_9 (by omega) (by omega) (zIR_s (zIR_s (zIR_s (zIR_s (zIR_s (zIR_s (zIR_k (by omega) (by omega)))))))) rfl rfl rfl ?_
                        intro M178 hJ179 f180 hn181
                        replace hb : zHd _ := hb (zi M178) (zi_zup hn181 f180 rfl rfl)
                        refine w_en dX9_blame_18 rfl ?_
                        show ZW _ _ _ _ _ _ _ (131, [some (.ref 386), some (.int v85_1), some (.int v85_2), some (.int v85_3), o85_4, o85_5], [], M178)
                        obtain ⟨m, hm, hI⟩ := hb
                        exact (ih m hm).2.2.2.1 M178 v85_1 v85_2 v85_3 o85_4 o85_5 hJ179 (by omega) (by omega) (by omega) (by omega) (by omega) (by omega) hI
                · skip
                  replace hb : zHd _ := hb.2 h159
                  refine w_cgt_f dX9_isLetter_9 (t := 16) rfl (by have := zt_122; omega) ?_
                  refine w_ic dX9_isLetter_12 zi_1 ?_
                  refine w_gt dX9_isLetter_13 (t := 17) rfl ?_
                  refine w_en dX9_isLetter_17 rfl ?_
                  show ZW _ _ _ _ _ _ _ (108, [some (.ref 386), some (.int v85_1), some (.int v85_2), some (.int v85_3), o85_4, o85_5], [.int 1], M)
                  refine w_ine_t dX9_ahead_108 (t := 125) rfl (by have := zt_1; omega) ?_
                  refine w_lo dX9_ahead_125 rfl rfl rfl rfl ?_
                  refine w_ic dX9_ahead_126 zi_1 ?_
                  refine w_lo dX9_ahead_127 rfl rfl rfl rfl ?_
                  refine w_iv dX9_ahead_128 rfl rfl (As := [.int 1, .int v85_1]) rfl rfl hJ.1.1 zs_386 (Nat.le_of_ble_eq_true rfl) ?_
                  refine ZV.of (ini := false) rfl (Nat.le_of_ble_eq_true rfl) (by decide +kernel) ?_
                  show ZW _ _ _ _ _ _ _ (0, [some (.ref 386), some (.int 1), some (.int v85_1)], [], M)
                  refine w_lo dX9_blame_0 rfl rfl rfl rfl ?_
                  refine w_gfi dX9_blame_1 rfl hJ.1 zs_386 (Nat.le_of_ble_eq_true rfl) zo_386_8 ?_
                  intro x183 f184 h185 h186
                  replace hb : zHd _ := hb x183.toInt (ziE f184) h185 h186
                  rcases zcut (0 : Int) x183.toInt with h187 | h187
                  · skip
                    replace hb : zHd _ := hb.1 h187
                    refine w_ile_f dX9_blame_4 (t := 8) rfl (by omega) ?_
                    refine w_en dX9_blame_7 rfl ?_
                    show ZW _ _ _ _ _ _ _ (131, [some (.ref 386), some (.int v85_1), some (.int v85_2), some (.int v85_3), o85_4, o85_5], [], M)
                    obtain ⟨m, hm, hI⟩ := hb
                    exact (ih m hm).2.2.2.1 M v85_1 v85_2 v85_3 o85_4 o85_5 hJ (by omega) (by omega) (by omega) (by omega) (by omega) (by omega) hI
                  · skip
                    replace hb : zHd _ := hb.2 h187
                    refine w_ile_t dX9_blame_4 (t := 8) rfl (by omega) ?_
                    refine w_lo dX9_blame_8 rfl rfl rfl rfl ?_
                    refine w_lo dX9_blame_9 rfl rfl rfl rfl ?_
                    refine w_pfi dX9_blame_10 rfl hJ zs_386 (Nat.le_of_ble_eq_true rfl) zo_386_8 (by have := zt_1; omega) (by have := zt_1; omega) (zIR_s (zIR_s (zIR_s (zIR_s (zIR_s (zIR_k (by omega) (by omega))))))) rfl rfl rfl ?_
                    intro M188 hJ189 f190 hn191
                    replace hb : zHd _ := hb (zi M188) (zi_zup hn191 f190 rfl zt_1)
                    refine w_lo dX9_blame_13 rfl rfl rfl rfl ?_
                    refine w_lo dX9_blame_14 rfl rfl rfl rfl ?_
                    refine w_pfi dX9_blame_15 rfl hJ189 zs_386 (Nat.le_of_ble_eq_true rfl) zo_386_9 (by omega) (by omega) (zIR_s (zIR_s (zIR_s (zIR_s (zIR_s (zIR_s (zIR_k (by omega) (by omega)))))))) rfl rfl rfl ?_
                    intro M193 hJ194 f195 hn196
                    replace hb : zHd _ := hb (zi M193) (zi_zup hn196 f195 rfl rfl)
                    refine w_en dX9_blame_18 rfl ?_
                    show ZW _ _ _ _ _ _ _ (131, [some (.ref 386), some (.int v85_1), some (.int v85_2), some (.int v85_3), o85_4, o85_5], [], M193)
                    obtain ⟨m, hm, hI⟩ := hb
                    exact (ih m hm).2.2.2.1 M193 v85_1 v85_2 v85_3 o85_4 o85_5 hJ194 (by omega) (by omega) (by omega) (by omega) (by omega) (by omega) hI
            · skip
              replace hb : zHd _ := hb.2 h128
              refine w_ile_t dX9_ahead_94 (t := 131) rfl (by omega) ?_
              obtain ⟨m, hm, hI⟩ := hb
              exact (ih m hm).2.2.2.1 M v85_1 v85_2 v85_3 o85_4 o85_5 hJ (by omega) (by omega) (by omega) (by omega) (by omega) (by omega) hI
          · skip
            replace hb : zHd _ := hb.2 h127
            refine w_ieq_t dX9_ahead_90 (t := 131) rfl (by omega) ?_
            obtain ⟨m, hm, hI⟩ := hb
            exact (ih m hm).2.2.2.1 M v85_1 v85_2 v85_3 o85_4 o85_5 hJ (by omega) (by omega) (by omega) (by omega) (by omega) (by omega) hI
      · intro M v131_1 v131_2 v131_3 o131_4 o131_5 hJ v131_10 v131_11 v131_20 v131_21 v131_30 v131_31 hI
        have hb : zHd _ := hb131 n (zi M) v131_1.toInt v131_2.toInt v131_3.toInt (zi_fr hJ.2) v131_10 v131_11 v131_20 v131_21 v131_30 v131_31 hI
        refine w_lo dX9_ahead_131 rfl rfl rfl rfl ?_
        refine w_ic dX9_ahead_132 zi_0 ?_
        refine w_pfi dX9_ahead_133 rfl hJ zs_386 (Nat.le_of_ble_eq_true rfl) zo_386_6 (zbot _) (ztop _) (zIR_s (zIR_s (zIR_s (zIR_k (by omega) (by omega))))) rfl rfl rfl ?_
        intro M198 hJ199 f200 hn201
        replace hb : zHd _ := hb (zi M198) (zi_zup hn201 f200 rfl zt_0)
        refine w_lo dX9_ahead_136 rfl rfl rfl rfl ?_
        refine w_lc dX9_ahead_137 (c := (0 : Int64)) (by decide) ?_
        refine w_pfl dX9_ahead_138 rfl hJ199 zs_386 (Nat.le_of_ble_eq_true rfl) zo_386_7 (zlbot _) (zltop _) (zIR_s (zIR_s (zIR_s (zIR_s (zIR_k (by omega) (by omega)))))) rfl rfl rfl ?_
        intro M203 hJ204 f205 hn206
        replace hb : zHd _ := hb (zi M203) (zi_zupL hn206 f205 rfl ztl_0)
        refine w_lo dX9_ahead_141 rfl rfl rfl rfl ?_
        refine w_ic dX9_ahead_142 zi_3 ?_
        refine w_pfi dX9_ahead_143 rfl hJ204 zs_386 (Nat.le_of_ble_eq_true rfl) zo_386_3 (by have := zt_3; omega) (by have := zt_3; omega) (zIR_k (by omega) (by omega)) rfl rfl rfl ?_
        intro M208 hJ209 f210 hn211
        replace hb : zHd _ := hb (zi M208) (zi_zup hn211 f210 rfl zt_3)
        refine w_lo dX9_ahead_146 rfl rfl rfl rfl ?_
        refine w_lo dX9_ahead_147 rfl rfl rfl rfl ?_
        refine w_ic dX9_ahead_148 zi_1 ?_
        refine w_add dX9_ahead_149 (by have := zt_1; omega) ?_
        intro x213 h214
        have := zt_1
        replace hb : zHd _ := hb x213.toInt (by have := zt_1; omega)
        refine w_pfi dX9_ahead_150 rfl hJ209 zs_386 (Nat.le_of_ble_eq_true rfl) zo_386_5 (by omega) (by omega) (zIR_s (zIR_s (zIR_k (by omega) (by omega)))) rfl rfl rfl ?_
        intro M215 hJ216 f217 hn218
        replace hb : zHd _ := hb (zi M215) (zi_zup hn218 f217 rfl rfl)
        refine w_lo dX9_ahead_153 rfl rfl rfl rfl ?_
        rcases Int.decEq v131_2.toInt (0 : Int) with h220 | h220
        · skip
          replace hb : zHd _ := hb.1 h220
          refine w_ine_t dX9_ahead_154 (t := 172) rfl (by omega) ?_
          refine w_lo dX9_ahead_172 rfl rfl rfl rfl ?_
          refine w_lo dX9_ahead_173 rfl rfl rfl rfl ?_
          refine w_ieq_f dX9_ahead_174 (t := 181) rfl (by omega) ?_
          refine w_ic dX9_ahead_177 zi_1 ?_
          refine w_gt dX9_ahead_178 (t := 182) rfl ?_
          refine w_pfi dX9_ahead_182 rfl hJ216 zs_386 (Nat.le_of_ble_eq_true rfl) zo_386_3 (by have := zt_1; omega) (by have := zt_1; omega) (zIR_k (by omega) (by omega)) rfl rfl rfl ?_
          intro M221 hJ222 f223 hn224
          replace hb : zHd _ := hb (zi M221) (zi_zup hn224 f223 rfl zt_1)
          refine w_lo dX9_ahead_185 rfl rfl rfl rfl ?_
          refine w_ieq_f dX9_ahead_186 (t := 194) rfl (by omega) ?_
          refine w_bi dX9_ahead_189 (c := 6) (by decide) ?_
          refine w_gt dX9_ahead_191 (t := 195) rfl ?_
          refine w_lo (ml' := [some (.ref 386), some (.int v131_1), some (.int v131_2), some (.int v131_3), some (.int 6), o131_5]) dX9_ahead_195 rfl rfl rfl rfl ?_
          refine w_ic dX9_ahead_197 zi_0 ?_
          refine w_lo (ml' := [some (.ref 386), some (.int v131_1), some (.int v131_2), some (.int v131_3), some (.int 6), some (.int 0)]) dX9_ahead_198 rfl rfl rfl rfl ?_
          obtain ⟨m, hm, hI⟩ := hb
          exact (ih m hm).2.2.2.2.1 M221 v131_1 v131_2 v131_3 6 0 hJ222 (by omega) (by omega) (by omega) (by omega) (by omega) (by omega) (by have := zt_6; omega) (by have := zt_6; omega) (by have := zt_0; omega) (ztop _) hI
        · skip
          replace hb : zHd _ := hb.2 h220
          refine w_ine_f dX9_ahead_154 (t := 172) rfl (by omega) ?_
          refine w_lo dX9_ahead_157 rfl rfl rfl rfl ?_
          rcases Int.decEq v131_3.toInt (0 : Int) with h226 | h226
          · skip
            replace hb : zHd _ := hb.1 h226
            refine w_ine_t dX9_ahead_158 (t := 172) rfl (by omega) ?_
            refine w_lo dX9_ahead_172 rfl rfl rfl rfl ?_
            refine w_lo dX9_ahead_173 rfl rfl rfl rfl ?_
            refine w_ieq_t dX9_ahead_174 (t := 181) rfl (by omega) ?_
            refine w_ic dX9_ahead_181 zi_2 ?_
            refine w_pfi dX9_ahead_182 rfl hJ216 zs_386 (Nat.le_of_ble_eq_true rfl) zo_386_3 (by have := zt_2; omega) (by have := zt_2; omega) (zIR_k (by omega) (by omega)) rfl rfl rfl ?_
            intro M227 hJ228 f229 hn230
            replace hb : zHd _ := hb (zi M227) (zi_zup hn230 f229 rfl zt_2)
            refine w_lo dX9_ahead_185 rfl rfl rfl rfl ?_
            refine w_ieq_t dX9_ahead_186 (t := 194) rfl (by omega) ?_
            refine w_ic dX9_ahead_194 zi_4 ?_
            refine w_lo (ml' := [some (.ref 386), some (.int v131_1), some (.int v131_2), some (.int v131_3), some (.int 4), o131_5]) dX9_ahead_195 rfl rfl rfl rfl ?_
            refine w_ic dX9_ahead_197 zi_0 ?_
            refine w_lo (ml' := [some (.ref 386), some (.int v131_1), some (.int v131_2), some (.int v131_3), some (.int 4), some (.int 0)]) dX9_ahead_198 rfl rfl rfl rfl ?_
            obtain ⟨m, hm, hI⟩ := hb
            exact (ih m hm).2.2.2.2.1 M227 v131_1 v131_2 v131_3 4 0 hJ228 (by omega) (by omega) (by omega) (by omega) (by omega) (by omega) (by have := zt_4; omega) (by have := zt_4; omega) (by have := zt_0; omega) (ztop _) hI
          · skip
            replace hb : zHd _ := hb.2 h226
            refine w_ine_f dX9_ahead_158 (t := 172) rfl (by omega) ?_
            refine w_lo dX9_ahead_161 rfl rfl rfl rfl ?_
            refine w_lo dX9_ahead_162 rfl rfl rfl rfl ?_
            refine w_gf dX9_ahead_163 rfl hJ216.1.1 zs_386 (zr_386_0 hJ216.1) ?_
            refine w_lo dX9_ahead_166 rfl rfl rfl rfl ?_
            refine w_iai dX9_ahead_167 hJ216.1 zs_387 (by omega) (by omega) zu_387 ?_
            intro x235 f232 h233 h234
            replace hb : zHd _ := hb x235.toInt (ziEk f232 rfl) h233 h234
            refine w_pfi dX9_ahead_168 rfl hJ216 zs_386 (Nat.le_of_ble_eq_true rfl) zo_386_6 (zbot _) (ztop _) (zIR_s (zIR_s (zIR_s (zIR_k (by omega) (by omega))))) rfl rfl rfl ?_
            intro M236 hJ237 f238 hn239
            replace hb : zHd _ := hb (zi M236) (zi_zup hn239 f238 rfl rfl)
            refine w_en dX9_ahead_171 rfl ?_
            exact ⟨_, rfl, hJ237, hb⟩
      · intro M v200_1 v200_2 v200_3 v200_4 v200_5 hJ v200_10 v200_11 v200_20 v200_21 v200_30 v200_31 v200_40 v200_41 v200_50 v200_51 hI
        have hb : zHd _ := hb200 n (zi M) v200_1.toInt v200_2.toInt v200_3.toInt v200_4.toInt v200_5.toInt (zi_fr hJ.2) v200_10 v200_11 v200_20 v200_21 v200_30 v200_31 v200_40 v200_41 v200_50 hI
        refine w_lo dX9_ahead_200 rfl rfl rfl rfl ?_
        refine w_lo dX9_ahead_201 rfl rfl rfl rfl ?_
        refine w_gfi dX9_ahead_202 rfl hJ.1 zs_386 (Nat.le_of_ble_eq_true rfl) zo_386_2 ?_
        intro x241 f242 h243 h244
        replace hb : zHd _ := hb x241.toInt (ziE f242) h243 h244
        rcases zcut v200_1.toInt x241.toInt with h245 | h245
        · skip
          replace hb : zHd _ := hb.1 h245
          refine w_cge_f dX9_ahead_205 (t := 323) rfl (by omega) ?_
          refine w_lo dX9_ahead_208 rfl rfl rfl rfl ?_
          rcases Int.decEq v200_2.toInt (0 : Int) with h246 | h246
          · skip
            replace hb : zHd _ := hb.1 h246
            refine w_ieq_f dX9_ahead_209 (t := 227) rfl (by omega) ?_
            refine w_lo dX9_ahead_212 rfl rfl rfl rfl ?_
            refine w_gf dX9_ahead_213 rfl hJ.1.1 zs_386 (zr_386_0 hJ.1) ?_
            refine w_lo dX9_ahead_216 rfl rfl rfl rfl ?_
            refine w_iai dX9_ahead_217 hJ.1 zs_387 (by omega) (by omega) zu_387 ?_
            intro x250 f247 h248 h249
            replace hb : zHd _ := hb x250.toInt (ziEk f247 rfl) h248 h249
            refine w_ss dX9_ahead_218 rfl rfl (As := [.int x250]) rfl rfl (Nat.le_of_ble_eq_true rfl) ?_
            refine ZV.of (ini := false) rfl (Nat.le_of_ble_eq_true rfl) (by decide +kernel) ?_
            show ZW _ _ _ _ _ _ _ (0, [some (.int x250)], [], M)
            refine w_lo dX9_isLetter_0 rfl rfl rfl rfl ?_
            refine w_bi dX9_isLetter_1 (c := 97) (by decide) ?_
            rcases zcut x250.toInt (97 : Int) with h251 | h251
            · skip
              replace hb : zHd _ := hb.1 h251
              refine w_clt_t dX9_isLetter_3 (t := 16) rfl (by have := zt_97; omega) ?_
              refine w_ic dX9_isLetter_16 zi_0 ?_
              refine w_en dX9_isLetter_17 rfl ?_
              show ZW _ _ _ _ _ _ _ (221, [some (.ref 386), some (.int v200_1), some (.int v200_2), some (.int v200_3), some (.int v200_4), some (.int v200_5)], [.int 0], M)
              refine w_ieq_t dX9_ahead_221 (t := 323) rfl (by have := zt_0; omega) ?_
              obtain ⟨m, hm, hI⟩ := hb
              exact (ih m hm).2.2.2.2.2.2.2.2 M v200_1 v200_2 v200_3 v200_4 v200_5 hJ (by omega) (by omega) hI
            · skip
              replace hb : zHd _ := hb.2 h251
              refine w_clt_f dX9_isLetter_3 (t := 16) rfl (by have := zt_97; omega) ?_
              refine w_lo dX9_isLetter_6 rfl rfl rfl rfl ?_
              refine w_bi dX9_isLetter_7 (c := 122) (by decide) ?_
              rcases zcut (122 : Int) x250.toInt with h252 | h252
              · skip
                replace hb : zHd _ := hb.1 h252
                refine w_cgt_t dX9_isLetter_9 (t := 16) rfl (by have := zt_122; omega) ?_
                refine w_ic dX9_isLetter_16 zi_0 ?_
                refine w_en dX9_isLetter_17 rfl ?_
                show ZW _ _ _ _ _ _ _ (221, [some (.ref 386), some (.int v200_1), some (.int v200_2), some (.int v200_3), some (.int v200_4), some (.int v200_5)], [.int 0], M)
                refine w_ieq_t dX9_ahead_221 (t := 323) rfl (by have := zt_0; omega) ?_
                obtain ⟨m, hm, hI⟩ := hb
                exact (ih m hm).2.2.2.2.2.2.2.2 M v200_1 v200_2 v200_3 v200_4 v200_5 hJ (by omega) (by omega) hI
              · skip
                replace hb : zHd _ := hb.2 h252
                refine w_cgt_f dX9_isLetter_9 (t := 16) rfl (by have := zt_122; omega) ?_
                refine w_ic dX9_isLetter_12 zi_1 ?_
                refine w_gt dX9_isLetter_13 (t := 17) rfl ?_
                refine w_en dX9_isLetter_17 rfl ?_
                show ZW _ _ _ _ _ _ _ (221, [some (.ref 386), some (.int v200_1), some (.int v200_2), some (.int v200_3), some (.int v200_4), some (.int v200_5)], [.int 1], M)
                refine w_ieq_f dX9_ahead_221 (t := 323) rfl (by have := zt_1; omega) ?_
                refine w_gt dX9_ahead_224 (t := 239) rfl ?_
                refine w_lo dX9_ahead_239 rfl rfl rfl rfl ?_
                refine w_lo dX9_ahead_241 rfl rfl rfl rfl ?_
                rcases Int.decEq v200_5.toInt v200_4.toInt with h253 | h253
                · skip
                  replace hb : zHd _ := hb.1 h253
                  refine w_cne_t dX9_ahead_243 (t := 252) rfl (by omega) ?_
                  obtain ⟨m, hm, hI⟩ := hb
                  exact (ih m hm).2.2.2.2.2.1 M v200_1 v200_2 v200_3 v200_4 v200_5 hJ (by omega) (by omega) (by omega) (by omega) (by omega) (by omega) (by omega) (by omega) (by omega) (ztop _) hI
                · skip
                  replace hb : zHd _ := hb.2 h253
                  refine w_cne_f dX9_ahead_243 (t := 252) rfl (by omega) ?_
                  refine w_lo dX9_ahead_246 rfl rfl rfl rfl ?_
                  refine w_ic dX9_ahead_247 zi_1 ?_
                  refine w_lo dX9_ahead_248 rfl rfl rfl rfl ?_
                  refine w_iv dX9_ahead_249 rfl rfl (As := [.int 1, .int v200_1]) rfl rfl hJ.1.1 zs_386 (Nat.le_of_ble_eq_true rfl) ?_
                  refine ZV.of (ini := false) rfl (Nat.le_of_ble_eq_true rfl) (by decide +kernel) ?_
                  show ZW _ _ _ _ _ _ _ (0, [some (.ref 386), some (.int 1), some (.int v200_1)], [], M)
                  refine w_lo dX9_blame_0 rfl rfl rfl rfl ?_
                  refine w_gfi dX9_blame_1 rfl hJ.1 zs_386 (Nat.le_of_ble_eq_true rfl) zo_386_8 ?_
                  intro x254 f255 h256 h257
                  replace hb : zHd _ := hb x254.toInt (ziE f255) h256 h257
                  rcases zcut (0 : Int) x254.toInt with h258 | h258
                  · skip
                    replace hb : zHd _ := hb.1 h258
                    refine w_ile_f dX9_blame_4 (t := 8) rfl (by omega) ?_
                    refine w_en dX9_blame_7 rfl ?_
                    show ZW _ _ _ _ _ _ _ (252, [some (.ref 386), some (.int v200_1), some (.int v200_2), some (.int v200_3), some (.int v200_4), some (.int v200_5)], [], M)
                    obtain ⟨m, hm, hI⟩ := hb
                    exact (ih m hm).2.2.2.2.2.1 M v200_1 v200_2 v200_3 v200_4 v200_5 hJ (by omega) (by omega) (by omega) (by omega) (by omega) (by omega) (by omega) (by omega) (by omega) (ztop _) hI
                  · skip
                    replace hb : zHd _ := hb.2 h258
                    refine w_ile_t dX9_blame_4 (t := 8) rfl (by omega) ?_
                    refine w_lo dX9_blame_8 rfl rfl rfl rfl ?_
                    refine w_lo dX9_blame_9 rfl rfl rfl rfl ?_
                    refine w_pfi dX9_blame_10 rfl hJ zs_386 (Nat.le_of_ble_eq_true rfl) zo_386_8 (by have := zt_1; omega) (by have := zt_1; omega) (zIR_s (zIR_s (zIR_s (zIR_s (zIR_s (zIR_k (by omega) (by omega))))))) rfl rfl rfl ?_
                    intro M259 hJ260 f261 hn262
                    replace hb : zHd _ := hb (zi M259) (zi_zup hn262 f261 rfl zt_1)
                    refine w_lo dX9_blame_13 rfl rfl rfl rfl ?_
                    refine w_lo dX9_blame_14 rfl rfl rfl rfl ?_
                    refine w_pfi dX9_blame_15 rfl hJ260 zs_386 (Nat.le_of_ble_eq_true rfl) zo_386_9 (by omega) (by omega) (zIR_s (zIR_s (zIR_s (zIR_s (zIR_s (zIR_s (zIR_k (by omega) (by omega)))))))) rfl rfl rfl ?_
                    intro M264 hJ265 f266 hn267
                    replace hb : zHd _ := hb (zi M264) (zi_zup hn267 f266 rfl rfl)
                    refine w_en dX9_blame_18 rfl ?_
                    show ZW _ _ _ _ _ _ _ (252, [some (.ref 386), some (.int v200_1), some (.int v200_2), some (.int v200_3), some (.int v200_4), some (.int v200_5)], [], M264)
                    obtain ⟨m, hm, hI⟩ := hb
                    exact (ih m hm).2.2.2.2.2.1 M264 v200_1 v200_2 v200_3 v200_4 v200_5 hJ265 (by omega) (by omega) (by omega) (by omega) (by omega) (by omega) (by omega) (by omega) (by omega) (ztop _) hI
          · skip
            replace hb : zHd _ := hb.2 h246
            refine w_ieq_t dX9_ahead_209 (t := 227) rfl (by omega) ?_
            refine w_lo dX9_ahead_227 rfl rfl rfl rfl ?_
            refine w_gf dX9_ahead_228 rfl hJ.1.1 zs_386 (zr_386_0 hJ.1) ?_
            refine w_lo dX9_ahead_231 rfl rfl rfl rfl ?_
            refine w_iai dX9_ahead_232 hJ.1 zs_387 (by omega) (by omega) zu_387 ?_
            intro x272 f269 h270 h271
            replace hb : zHd _ := hb x272.toInt (ziEk f269 rfl) h270 h271
            refine w_ss dX9_ahead_233 rfl rfl (As := [.int x272]) rfl rfl (Nat.le_of_ble_eq_true rfl) ?_
            refine ZV.of (ini := false) rfl (Nat.le_of_ble_eq_true rfl) (by decide +kernel) ?_
            show ZW _ _ _ _ _ _ _ (0, [some (.int x272)], [], M)
            refine w_lo dX9_isDigit_0 rfl rfl rfl rfl ?_
            refine w_bi dX9_isDigit_1 (c := 48) (by decide) ?_
            rcases zcut x272.toInt (48 : Int) with h273 | h273
            · skip
              replace hb : zHd _ := hb.1 h273
              refine w_clt_t dX9_isDigit_3 (t := 16) rfl (by have := zt_48; omega) ?_
              refine w_ic dX9_isDigit_16 zi_0 ?_
              refine w_en dX9_isDigit_17 rfl ?_
              show ZW _ _ _ _ _ _ _ (236, [some (.ref 386), some (.int v200_1), some (.int v200_2), some (.int v200_3), some (.int v200_4), some (.int v200_5)], [.int 0], M)
              refine w_ieq_t dX9_ahead_236 (t := 323) rfl (by have := zt_0; omega) ?_
              obtain ⟨m, hm, hI⟩ := hb
              exact (ih m hm).2.2.2.2.2.2.2.2 M v200_1 v200_2 v200_3 v200_4 v200_5 hJ (by omega) (by omega) hI
            · skip
              replace hb : zHd _ := hb.2 h273
              refine w_clt_f dX9_isDigit_3 (t := 16) rfl (by have := zt_48; omega) ?_
              refine w_lo dX9_isDigit_6 rfl rfl rfl rfl ?_
              refine w_bi dX9_isDigit_7 (c := 57) (by decide) ?_
              rcases zcut (57 : Int) x272.toInt with h274 | h274
              · skip
                replace hb : zHd _ := hb.1 h274
                refine w_cgt_t dX9_isDigit_9 (t := 16) rfl (by have := zt_57; omega) ?_
                refine w_ic dX9_isDigit_16 zi_0 ?_
                refine w_en dX9_isDigit_17 rfl ?_
                show ZW _ _ _ _ _ _ _ (236, [some (.ref 386), some (.int v200_1), some (.int v200_2), some (.int v200_3), some (.int v200_4), some (.int v200_5)], [.int 0], M)
                refine w_ieq_t dX9_ahead_236 (t := 323) rfl (by have := zt_0; omega) ?_
                obtain ⟨m, hm, hI⟩ := hb
                exact (ih m hm).2.2.2.2.2.2.2.2 M v200_1 v200_2 v200_3 v200_4 v200_5 hJ (by omega) (by omega) hI
              · skip
                replace hb : zHd _ := hb.2 h274
                refine w_cgt_f dX9_isDigit_9 (t := 16) rfl (by have := zt_57; omega) ?_
                refine w_ic dX9_isDigit_12 zi_1 ?_
                refine w_gt dX9_isDigit_13 (t := 17) rfl ?_
                refine w_en dX9_isDigit_17 rfl ?_
                show ZW _ _ _ _ _ _ _ (236, [some (.ref 386), some (.int v200_1), some (.int v200_2), some (.int v200_3), some (.int v200_4), some (.int v200_5)], [.int 1], M)
                refine w_ieq_f dX9_ahead_236 (t := 323) rfl (by have := zt_1; omega) ?_
                refine w_lo dX9_ahead_239 rfl rfl rfl rfl ?_
                refine w_lo dX9_ahead_241 rfl rfl rfl rfl ?_
                rcases Int.decEq v200_5.toInt v200_4.toInt with h275 | h275
                · skip
                  replace hb : zHd _ := hb.1 h275
                  refine w_cne_t dX9_ahead_243 (t := 252) rfl (by omega) ?_
                  obtain ⟨m, hm, hI⟩ := hb
                  exact (ih m hm).2.2.2.2.2.1 M v200_1 v200_2 v200_3 v200_4 v200_5 hJ (by omega) (by omega) (by omega) (by omega) (by omega) (by omega) (by omega) (by omega) (by omega) (ztop _) hI
                · skip
                  replace hb : zHd _ := hb.2 h275
                  refine w_cne_f dX9_ahead_243 (t := 252) rfl (by omega) ?_
                  refine w_lo dX9_ahead_246 rfl rfl rfl rfl ?_
                  refine w_ic dX9_ahead_247 zi_1 ?_
                  refine w_lo dX9_ahead_248 rfl rfl rfl rfl ?_
                  refine w_iv dX9_ahead_249 rfl rfl (As := [.int 1, .int v200_1]) rfl rfl hJ.1.1 zs_386 (Nat.le_of_ble_eq_true rfl) ?_
                  refine ZV.of (ini := false) rfl (Nat.le_of_ble_eq_true rfl) (by decide +kernel) ?_
                  show ZW _ _ _ _ _ _ _ (0, [some (.ref 386), some (.int 1), some (.int v200_1)], [], M)
                  refine w_lo dX9_blame_0 rfl rfl rfl rfl ?_
                  refine w_gfi dX9_blame_1 rfl hJ.1 zs_386 (Nat.le_of_ble_eq_true rfl) zo_386_8 ?_
                  intro x276 f277 h278 h279
                  replace hb : zHd _ := hb x276.toInt (ziE f277) h278 h279
                  rcases zcut (0 : Int) x276.toInt with h280 | h280
                  · skip
                    replace hb : zHd _ := hb.1 h280
                    refine w_ile_f dX9_blame_4 (t := 8) rfl (by omega) ?_
                    refine w_en dX9_blame_7 rfl ?_
                    show ZW _ _ _ _ _ _ _ (252, [some (.ref 386), some (.int v200_1), some (.int v200_2), some (.int v200_3), some (.int v200_4), some (.int v200_5)], [], M)
                    obtain ⟨m, hm, hI⟩ := hb
                    exact (ih m hm).2.2.2.2.2.1 M v200_1 v200_2 v200_3 v200_4 v200_5 hJ (by omega) (by omega) (by omega) (by omega) (by omega) (by omega) (by omega) (by omega) (by omega) (ztop _) hI
                  · skip
                    replace hb : zHd _ := hb.2 h280
                    refine w_ile_t dX9_blame_4 (t := 8) rfl (by omega) ?_
                    refine w_lo dX9_blame_8 rfl rfl rfl rfl ?_
                    refine w_lo dX9_blame_9 rfl rfl rfl rfl ?_
                    refine w_pfi dX9_blame_10 rfl hJ zs_386 (Nat.le_of_ble_eq_true rfl) zo_386_8 (by have := zt_1; omega) (by have := zt_1; omega) (zIR_s (zIR_s (zIR_s (zIR_s (zIR_s (zIR_k (by omega) (by omega))))))) rfl rfl rfl ?_
                    intro M281 hJ282 f283 hn284
                    replace hb : zHd _ := hb (zi M281) (zi_zup hn284 f283 rfl zt_1)
                    refine w_lo dX9_blame_13 rfl rfl rfl rfl ?_
                    refine w_lo dX9_blame_14 rfl rfl rfl rfl ?_
                    refine w_pfi dX9_blame_15 rfl hJ282 zs_386 (Nat.le_of_ble_eq_true rfl) zo_386_9 (by omega) (by omega) (zIR_s (zIR_s (zIR_s (zIR_s (zIR_s (zIR_s (zIR_k (by omega) (by omega)))))))) rfl rfl rfl ?_
                    intro M286 hJ287 f288 hn289
                    replace hb : zHd _ := hb (zi M286) (zi_zup hn289 f288 rfl rfl)
                    refine w_en dX9_blame_18 rfl ?_
                    show ZW _ _ _ _ _ _ _ (252, [some (.ref 386), some (.int v200_1), some (.int v200_2), some (.int v200_3), some (.int v200_4), some (.int v200_5)], [], M286)
                    obtain ⟨m, hm, hI⟩ := hb
                    exact (ih m hm).2.2.2.2.2.1 M286 v200_1 v200_2 v200_3 v200_4 v200_5 hJ287 (by omega) (by omega) (by omega) (by omega) (by omega) (by omega) (by omega) (by omega) (by omega) (ztop _) hI
        · skip
          replace hb : zHd _ := hb.2 h245
          refine w_cge_t dX9_ahead_205 (t := 323) rfl (by omega) ?_
          obtain ⟨m, hm, hI⟩ := hb
          exact (ih m hm).2.2.2.2.2.2.2.2 M v200_1 v200_2 v200_3 v200_4 v200_5 hJ (by omega) (by omega) hI
      · intro M v252_1 v252_2 v252_3 v252_4 v252_5 hJ v252_10 v252_11 v252_20 v252_21 v252_30 v252_31 v252_40 v252_41 v252_50 v252_51 hI
        have hb : zHd _ := hb252 n (zi M) v252_1.toInt v252_2.toInt v252_3.toInt v252_4.toInt v252_5.toInt (zi_fr hJ.2) v252_10 v252_11 v252_20 v252_21 v252_30 v252_31 v252_40 v252_41 v252_50 hI
        refine w_lo dX9_ahead_252 rfl rfl rfl rfl ?_
        refine w_lo dX9_ahead_254 rfl rfl rfl rfl ?_
        rcases zcut v252_5.toInt v252_4.toInt with h291 | h291
        · skip
          replace hb : zHd _ := hb.1 h291
          refine w_cge_f dX9_ahead_256 (t := 282) rfl (by omega) ?_
          refine w_lo dX9_ahead_259 rfl rfl rfl rfl ?_
          rcases Int.decEq v252_2.toInt (0 : Int) with h292 | h292
          · skip
            replace hb : zHd _ := hb.1 h292
            refine w_ieq_f dX9_ahead_260 (t := 282) rfl (by omega) ?_
            refine w_lo dX9_ahead_263 rfl rfl rfl rfl ?_
            refine w_lo dX9_ahead_264 rfl rfl rfl rfl ?_
            refine w_gfl dX9_ahead_265 rfl hJ.1 zs_386 (Nat.le_of_ble_eq_true rfl) zo_386_7 ?_
            intro y296 f293 h294 h295
            replace hb : zHd _ := hb y296.toInt (ziL f293)
            refine w_bi dX9_ahead_268 (c := 8) (by decide) ?_
            have h297 := hb.1
            replace hb : zHd _ := hb.2
            refine w_lsh8 dX9_ahead_270 rfl (by omega) (by omega) ?_
            intro y298 h299
            replace hb : zHd _ := hb y298.toInt h299
            refine w_lo dX9_ahead_271 rfl rfl rfl rfl ?_
            refine w_gf dX9_ahead_272 rfl hJ.1.1 zs_386 (zr_386_0 hJ.1) ?_
            refine w_lo dX9_ahead_275 rfl rfl rfl rfl ?_
            refine w_iai dX9_ahead_276 hJ.1 zs_387 (by omega) (by omega) zu_387 ?_
            intro x303 f300 h301 h302
            replace hb : zHd _ := hb x303.toInt (ziEk f300 rfl) h301 h302
            refine w_i2l dX9_ahead_277 ?_
            intro y304 h305
            have := ztop x303; have := zbot x303
            replace hb : zHd _ := hb y304.toInt (by omega)
            have h306 := hb.1
            replace hb : zHd _ := hb.2
            refine w_lor8 dX9_ahead_278 h306.1 h306.2.1 h306.2.2.1 h306.2.2.2 ?_
            intro y307 h308
            replace hb : zHd _ := hb y307.toInt h308
            refine w_pfl dX9_ahead_279 rfl hJ zs_386 (Nat.le_of_ble_eq_true rfl) zo_386_7 (zlbot _) (zltop _) (zIR_s (zIR_s (zIR_s (zIR_s (zIR_k (by omega) (by omega)))))) rfl rfl rfl ?_
            intro M309 hJ310 f311 hn312
            replace hb : zHd _ := hb (zi M309) (zi_zupL hn312 f311 rfl rfl)
            obtain ⟨m, hm, hI⟩ := hb
            exact (ih m hm).2.2.2.2.2.2.1 M309 v252_1 v252_2 v252_3 v252_4 v252_5 hJ310 (by omega) (by omega) (by omega) (by omega) (by omega) (by omega) (by omega) (by omega) (by omega) (ztop _) hI
          · skip
            replace hb : zHd _ := hb.2 h292
            refine w_ieq_t dX9_ahead_260 (t := 282) rfl (by omega) ?_
            obtain ⟨m, hm, hI⟩ := hb
            exact (ih m hm).2.2.2.2.2.2.1 M v252_1 v252_2 v252_3 v252_4 v252_5 hJ (by omega) (by omega) (by omega) (by omega) (by omega) (by omega) (by omega) (by omega) (by omega) (ztop _) hI
        · skip
          replace hb : zHd _ := hb.2 h291
          refine w_cge_t dX9_ahead_256 (t := 282) rfl (by omega) ?_
          obtain ⟨m, hm, hI⟩ := hb
          exact (ih m hm).2.2.2.2.2.2.1 M v252_1 v252_2 v252_3 v252_4 v252_5 hJ (by omega) (by omega) (by omega) (by omega) (by omega) (by omega) (by omega) (by omega) (by omega) (ztop _) hI
      · intro M v282_1 v282_2 v282_3 v282_4 v282_5 hJ v282_10 v282_11 v282_20 v282_21 v282_30 v282_31 v282_40 v282_41 v282_50 v282_51 hI
        have hb : zHd _ := hb282 n (zi M) v282_1.toInt v282_2.toInt v282_3.toInt v282_4.toInt v282_5.toInt (zi_fr hJ.2) v282_10 v282_11 v282_20 v282_21 v282_30 v282_31 v282_40 v282_41 v282_50 hI
        refine w_lo dX9_ahead_282 rfl rfl rfl rfl ?_
        refine w_lo dX9_ahead_284 rfl rfl rfl rfl ?_
        rcases zcut v282_5.toInt v282_4.toInt with h314 | h314
        · skip
          replace hb : zHd _ := hb.1 h314
          refine w_cge_f dX9_ahead_286 (t := 314) rfl (by omega) ?_
          refine w_lo dX9_ahead_289 rfl rfl rfl rfl ?_
          rcases Int.decEq v282_3.toInt (0 : Int) with h315 | h315
          · skip
            replace hb : zHd _ := hb.1 h315
            refine w_ieq_f dX9_ahead_290 (t := 314) rfl (by omega) ?_
            refine w_lo dX9_ahead_293 rfl rfl rfl rfl ?_
            refine w_bi dX9_ahead_294 (c := 10) (by decide) ?_
            refine w_lo dX9_ahead_296 rfl rfl rfl rfl ?_
            refine w_gfi dX9_ahead_297 rfl hJ.1 zs_386 (Nat.le_of_ble_eq_true rfl) zo_386_6 ?_
            intro x316 f317 h318 h319
            replace hb : zHd _ := hb x316.toInt (ziE f317)
            refine w_exE dX9_ahead_300 rfl rfl ?_
            intro x321 h320
            replace hb : zHd _ := hb x321.toInt (by rw [h320, zxmul_i, zt_10])
            refine w_lo dX9_ahead_301 rfl rfl rfl rfl ?_
            refine w_gf dX9_ahead_302 rfl hJ.1.1 zs_386 (zr_386_0 hJ.1) ?_
            refine w_lo dX9_ahead_305 rfl rfl rfl rfl ?_
            refine w_iai dX9_ahead_306 hJ.1 zs_387 (by omega) (by omega) zu_387 ?_
            intro x325 f322 h323 h324
            replace hb : zHd _ := hb x325.toInt (ziEk f322 rfl) h323 h324
            refine w_exE dX9_ahead_307 rfl rfl ?_
            intro x327 h326
            replace hb : zHd _ := hb x327.toInt (by rw [h326, zxadd_i])
            refine w_bi dX9_ahead_308 (c := 48) (by decide) ?_
            refine w_exE dX9_ahead_310 rfl rfl ?_
            intro x329 h328
            replace hb : zHd _ := hb x329.toInt (by rw [h328, zxsub_i, zt_48])
            refine w_pfi dX9_ahead_311 rfl hJ zs_386 (Nat.le_of_ble_eq_true rfl) zo_386_6 (zbot _) (ztop _) (zIR_s (zIR_s (zIR_s (zIR_k (by omega) (by omega))))) rfl rfl rfl ?_
            intro M330 hJ331 f332 hn333
            replace hb : zHd _ := hb (zi M330) (zi_zup hn333 f332 rfl rfl)
            obtain ⟨m, hm, hI⟩ := hb
            exact (ih m hm).2.2.2.2.2.2.2.1 M330 v282_1 v282_2 v282_3 v282_4 v282_5 hJ331 (by omega) (by omega) (by omega) (by omega) (by omega) (by omega) (by omega) (by omega) (by omega) (ztop _) hI
          · skip
            replace hb : zHd _ := hb.2 h315
            refine w_ieq_t dX9_ahead_290 (t := 314) rfl (by omega) ?_
            obtain ⟨m, hm, hI⟩ := hb
            exact (ih m hm).2.2.2.2.2.2.2.1 M v282_1 v282_2 v282_3 v282_4 v282_5 hJ (by omega) (by omega) (by omega) (by omega) (by omega) (by omega) (by omega) (by omega) (by omega) (ztop _) hI
        · skip
          replace hb : zHd _ := hb.2 h314
          refine w_cge_t dX9_ahead_286 (t := 314) rfl (by omega) ?_
          obtain ⟨m, hm, hI⟩ := hb
          exact (ih m hm).2.2.2.2.2.2.2.1 M v282_1 v282_2 v282_3 v282_4 v282_5 hJ (by omega) (by omega) (by omega) (by omega) (by omega) (by omega) (by omega) (by omega) (by omega) (ztop _) hI
      · intro M v314_1 v314_2 v314_3 v314_4 v314_5 hJ v314_10 v314_11 v314_20 v314_21 v314_30 v314_31 v314_40 v314_41 v314_50 v314_51 hI
        have hb : zHd _ := hb314 n (zi M) v314_1.toInt v314_2.toInt v314_3.toInt v314_4.toInt v314_5.toInt (zi_fr hJ.2) v314_10 v314_11 v314_20 v314_21 v314_30 v314_31 v314_40 v314_41 v314_50 hI
        have h335 := hb.1
        replace hb : zHd _ := hb.2
        refine w_inc (kk := 5) dX9_ahead_314 rfl (m := 1) (by decide) (by omega) ?_
        intro x336 h337
        refine ⟨_, rfl, ?_⟩
        replace hb : zHd _ := hb x336.toInt h337
        show ZW _ _ _ _ _ _ _ (317, [some (.ref 386), some (.int v314_1), some (.int v314_2), some (.int v314_3), some (.int v314_4), some (.int x336)], [], M)
        refine w_inc (kk := 1) dX9_ahead_317 rfl (m := 1) (by decide) (by omega) ?_
        intro x338 h339
        refine ⟨_, rfl, ?_⟩
        replace hb : zHd _ := hb x338.toInt h339
        show ZW _ _ _ _ _ _ _ (320, [some (.ref 386), some (.int x338), some (.int v314_2), some (.int v314_3), some (.int v314_4), some (.int x336)], [], M)
        refine w_gt dX9_ahead_320 (t := 200) rfl ?_
        obtain ⟨m, hm, hI⟩ := hb
        exact (ih m hm).2.2.2.2.1 M x338 v314_2 v314_3 v314_4 x336 hJ (by omega) (by omega) (by omega) (by omega) (by omega) (by omega) (by omega) (by omega) (by omega) (ztop _) hI
      · intro M v323_1 u323_2 u323_3 u323_4 u323_5 hJ v323_10 v323_11 hI
        have hb : zHd _ := hb323 n (zi M) v323_1.toInt (zi_fr hJ.2) v323_10 v323_11 hI
        refine w_lo dX9_ahead_323 rfl rfl rfl rfl ?_
        refine w_lo dX9_ahead_324 rfl rfl rfl rfl ?_
        refine w_pfi dX9_ahead_325 rfl hJ zs_386 (Nat.le_of_ble_eq_true rfl) zo_386_5 (by omega) (by omega) (zIR_s (zIR_s (zIR_k (by omega) (by omega)))) rfl rfl rfl ?_
        intro M340 hJ341 f342 hn343
        replace hb : zHd _ := hb (zi M340) (zi_zup hn343 f342 rfl rfl)
        refine w_en dX9_ahead_328 rfl ?_
        exact ⟨_, rfl, hJ341, hb⟩
  have hb : zHd _ := hbE
  show ZW _ _ _ _ _ _ _ (0, [some (.ref 386), none, none, none, none, none], [], M0)
  refine w_lo dX9_ahead_0 rfl rfl rfl rfl ?_
  refine w_gfi dX9_ahead_1 rfl hJ0.1 zs_386 (Nat.le_of_ble_eq_true rfl) zo_386_5 ?_
  intro x345 f346 h347 h348
  replace hb : zHd _ := hb x345.toInt (ziE f346) h347 h348
  refine w_lo (ml' := [some (.ref 386), some (.int x345), none, none, none, none]) dX9_ahead_4 rfl rfl rfl rfl ?_
  obtain ⟨m, hI⟩ := hb
  exact (main m).1 M0 x345 none none none none hJ0 (by omega) (by omega) hI
set_option maxRecDepth 100000 in
theorem u_2319 {X : List Int32} {d N : Nat} {M0 : zM} (a0 : Int64) (hN : N ≤ 600) (hB0 : zB N M0) {Q : Int → zF → Prop} (hb : b_2319 (zi M0) a0.toInt Q) : ZV X (d + 1) 2319 [.ref 386, .long a0] M0 (zRI N [] M0 (0) (1) (fun v M' => Q v.toInt (zi M'))) := by
  have hJ0 : zJ N [] M0 M0 := zJ_refl hB0
  refine ZV.of (ini := false) rfl (Nat.le_of_ble_eq_true rfl) (by decide +kernel) ?_
  unfold b_2319 at hb
  replace hb : zHd _ := hb
  show ZW _ _ _ _ _ _ _ (0, [some (.ref 386), some (.long a0), none], [], M0)
  refine w_lo dX9_isOwn_0 rfl rfl rfl rfl ?_
  refine w_me (st' := [.long (6451065 : Int64), .long a0]) dX9_isOwn_1 rfl rfl rfl rfl rfl ?_
  refine w_lcm dX9_isOwn_4 ?_
  intro x1 h2
  have := ztl_6451065
  replace hb : zHd _ := hb x1.toInt (by omega)
  rcases Int.decEq x1.toInt (0 : Int) with h3 | h3
  · skip
    replace hb : zHd _ := hb.1 h3
    refine w_ieq_f dX9_isOwn_5 (t := 40) rfl (by omega) ?_
    refine w_lo dX9_isOwn_8 rfl rfl rfl rfl ?_
    refine w_me (st' := [.long (131277443786868 : Int64), .long a0]) dX9_isOwn_9 rfl rfl rfl rfl rfl ?_
    refine w_lcm dX9_isOwn_12 ?_
    intro x4 h5
    have := ztl_131277443786868
    replace hb : zHd _ := hb x4.toInt (by omega)
    rcases Int.decEq x4.toInt (0 : Int) with h6 | h6
    · skip
      replace hb : zHd _ := hb.1 h6
      refine w_ieq_f dX9_isOwn_13 (t := 40) rfl (by omega) ?_
      refine w_lo dX9_isOwn_16 rfl rfl rfl rfl ?_
      refine w_me (st' := [.long (431198598248 : Int64), .long a0]) dX9_isOwn_17 rfl rfl rfl rfl rfl ?_
      refine w_lcm dX9_isOwn_20 ?_
      intro x7 h8
      have := ztl_431198598248
      replace hb : zHd _ := hb x7.toInt (by omega)
      rcases Int.decEq x7.toInt (0 : Int) with h9 | h9
      · skip
        replace hb : zHd _ := hb.1 h9
        refine w_ieq_f dX9_isOwn_21 (t := 40) rfl (by omega) ?_
        refine w_lo dX9_isOwn_24 rfl rfl rfl rfl ?_
        refine w_me (st' := [.long (1868850291 : Int64), .long a0]) dX9_isOwn_25 rfl rfl rfl rfl rfl ?_
        refine w_lcm dX9_isOwn_28 ?_
        intro x10 h11
        have := ztl_1868850291
        replace hb : zHd _ := hb x10.toInt (by omega)
        rcases Int.decEq x10.toInt (0 : Int) with h12 | h12
        · skip
          replace hb : zHd _ := hb.1 h12
          refine w_ieq_f dX9_isOwn_29 (t := 40) rfl (by omega) ?_
          refine w_lo dX9_isOwn_32 rfl rfl rfl rfl ?_
          refine w_me (st' := [.long (483006377075 : Int64), .long a0]) dX9_isOwn_33 rfl rfl rfl rfl rfl ?_
          refine w_lcm dX9_isOwn_36 ?_
          intro x13 h14
          have := ztl_483006377075
          replace hb : zHd _ := hb x13.toInt (by omega)
          rcases Int.decEq x13.toInt (0 : Int) with h15 | h15
          · skip
            replace hb : zHd _ := hb.1 h15
            refine w_ine_t dX9_isOwn_37 (t := 42) rfl (by omega) ?_
            refine w_lo dX9_isOwn_42 rfl rfl rfl rfl ?_
            refine w_me (st' := [.long (126918153364851 : Int64), .long a0]) dX9_isOwn_43 rfl rfl rfl rfl rfl ?_
            refine w_lcm dX9_isOwn_46 ?_
            intro x16 h17
            have := ztl_126918153364851
            replace hb : zHd _ := hb x16.toInt (by omega)
            rcases Int.decEq x16.toInt (0 : Int) with h18 | h18
            · skip
              replace hb : zHd _ := hb.1 h18
              refine w_ieq_f dX9_isOwn_47 (t := 82) rfl (by omega) ?_
              refine w_lo dX9_isOwn_50 rfl rfl rfl rfl ?_
              refine w_me (st' := [.long (444133766004 : Int64), .long a0]) dX9_isOwn_51 rfl rfl rfl rfl rfl ?_
              refine w_lcm dX9_isOwn_54 ?_
              intro x19 h20
              have := ztl_444133766004
              replace hb : zHd _ := hb x19.toInt (by omega)
              rcases Int.decEq x19.toInt (0 : Int) with h21 | h21
              · skip
                replace hb : zHd _ := hb.1 h21
                refine w_ieq_f dX9_isOwn_55 (t := 82) rfl (by omega) ?_
                refine w_lo dX9_isOwn_58 rfl rfl rfl rfl ?_
                refine w_me (st' := [.long (495739560811 : Int64), .long a0]) dX9_isOwn_59 rfl rfl rfl rfl rfl ?_
                refine w_lcm dX9_isOwn_62 ?_
                intro x22 h23
                have := ztl_495739560811
                replace hb : zHd _ := hb x22.toInt (by omega)
                rcases Int.decEq x22.toInt (0 : Int) with h24 | h24
                · skip
                  replace hb : zHd _ := hb.1 h24
                  refine w_ieq_f dX9_isOwn_63 (t := 82) rfl (by omega) ?_
                  refine w_lo dX9_isOwn_66 rfl rfl rfl rfl ?_
                  refine w_me (st' := [.long (24948 : Int64), .long a0]) dX9_isOwn_67 rfl rfl rfl rfl rfl ?_
                  refine w_lcm dX9_isOwn_70 ?_
                  intro x25 h26
                  have := ztl_24948
                  replace hb : zHd _ := hb x25.toInt (by omega)
                  rcases Int.decEq x25.toInt (0 : Int) with h27 | h27
                  · skip
                    replace hb : zHd _ := hb.1 h27
                    refine w_ieq_f dX9_isOwn_71 (t := 82) rfl (by omega) ?_
                    refine w_lo dX9_isOwn_74 rfl rfl rfl rfl ?_
                    refine w_me (st' := [.long (431415976301 : Int64), .long a0]) dX9_isOwn_75 rfl rfl rfl rfl rfl ?_
                    refine w_lcm dX9_isOwn_78 ?_
                    intro x28 h29
                    have := ztl_431415976301
                    replace hb : zHd _ := hb x28.toInt (by omega)
                    rcases Int.decEq x28.toInt (0 : Int) with h30 | h30
                    · skip
                      replace hb : zHd _ := hb.1 h30
                      refine w_ine_t dX9_isOwn_79 (t := 84) rfl (by omega) ?_
                      refine w_lo dX9_isOwn_84 rfl rfl rfl rfl ?_
                      refine w_me (st' := [.long (7632231 : Int64), .long a0]) dX9_isOwn_85 rfl rfl rfl rfl rfl ?_
                      refine w_lcm dX9_isOwn_88 ?_
                      intro x31 h32
                      have := ztl_7632231
                      replace hb : zHd _ := hb x31.toInt (by omega)
                      rcases Int.decEq x31.toInt (0 : Int) with h33 | h33
                      · skip
                        replace hb : zHd _ := hb.1 h33
                        refine w_ieq_f dX9_isOwn_89 (t := 124) rfl (by omega) ?_
                        refine w_lo dX9_isOwn_92 rfl rfl rfl rfl ?_
                        refine w_me (st' := [.long (465491424371 : Int64), .long a0]) dX9_isOwn_93 rfl rfl rfl rfl rfl ?_
                        refine w_lcm dX9_isOwn_96 ?_
                        intro x34 h35
                        have := ztl_465491424371
                        replace hb : zHd _ := hb x34.toInt (by omega)
                        rcases Int.decEq x34.toInt (0 : Int) with h36 | h36
                        · skip
                          replace hb : zHd _ := hb.1 h36
                          refine w_ieq_f dX9_isOwn_97 (t := 124) rfl (by omega) ?_
                          refine w_lo dX9_isOwn_100 rfl rfl rfl rfl ?_
                          refine w_me (st' := [.long (123563851081075 : Int64), .long a0]) dX9_isOwn_101 rfl rfl rfl rfl rfl ?_
                          refine w_lcm dX9_isOwn_104 ?_
                          intro x37 h38
                          have := ztl_123563851081075
                          replace hb : zHd _ := hb x37.toInt (by omega)
                          rcases Int.decEq x37.toInt (0 : Int) with h39 | h39
                          · skip
                            replace hb : zHd _ := hb.1 h39
                            refine w_ieq_f dX9_isOwn_105 (t := 124) rfl (by omega) ?_
                            refine w_lo dX9_isOwn_108 rfl rfl rfl rfl ?_
                            refine w_me (st' := [.long (1885434739 : Int64), .long a0]) dX9_isOwn_109 rfl rfl rfl rfl rfl ?_
                            refine w_lcm dX9_isOwn_112 ?_
                            intro x40 h41
                            have := ztl_1885434739
                            replace hb : zHd _ := hb x40.toInt (by omega)
                            rcases Int.decEq x40.toInt (0 : Int) with h42 | h42
                            · skip
                              replace hb : zHd _ := hb.1 h42
                              refine w_ieq_f dX9_isOwn_113 (t := 124) rfl (by omega) ?_
                              refine w_lo dX9_isOwn_116 rfl rfl rfl rfl ?_
                              refine w_me (st' := [.long (1684366704 : Int64), .long a0]) dX9_isOwn_117 rfl rfl rfl rfl rfl ?_
                              refine w_lcm dX9_isOwn_120 ?_
                              intro x43 h44
                              have := ztl_1684366704
                              replace hb : zHd _ := hb x43.toInt (by omega)
                              rcases Int.decEq x43.toInt (0 : Int) with h45 | h45
                              · skip
                                replace hb : zHd _ := hb.1 h45
                                refine w_ine_t dX9_isOwn_121 (t := 126) rfl (by omega) ?_
                                refine w_lo dX9_isOwn_126 rfl rfl rfl rfl ?_
                                refine w_me (st' := [.long (2003330414 : Int64), .long a0]) dX9_isOwn_127 rfl rfl rfl rfl rfl ?_
                                refine w_lcm dX9_isOwn_130 ?_
                                intro x46 h47
                                have := ztl_2003330414
                                replace hb : zHd _ := hb x46.toInt (by omega)
                                rcases Int.decEq x46.toInt (0 : Int) with h48 | h48
                                · skip
                                  replace hb : zHd _ := hb.1 h48
                                  refine w_ieq_f dX9_isOwn_131 (t := 166) rfl (by omega) ?_
                                  refine w_lo dX9_isOwn_134 rfl rfl rfl rfl ?_
                                  refine w_me (st' := [.long (28530 : Int64), .long a0]) dX9_isOwn_135 rfl rfl rfl rfl rfl ?_
                                  refine w_lcm dX9_isOwn_138 ?_
                                  intro x49 h50
                                  have := ztl_28530
                                  replace hb : zHd _ := hb x49.toInt (by omega)
                                  rcases Int.decEq x49.toInt (0 : Int) with h51 | h51
                                  · skip
                                    replace hb : zHd _ := hb.1 h51
                                    refine w_ieq_f dX9_isOwn_139 (t := 166) rfl (by omega) ?_
                                    refine w_lo dX9_isOwn_142 rfl rfl rfl rfl ?_
                                    refine w_me (st' := [.long (6385252 : Int64), .long a0]) dX9_isOwn_143 rfl rfl rfl rfl rfl ?_
                                    refine w_lcm dX9_isOwn_146 ?_
                                    intro x52 h53
                                    have := ztl_6385252
                                    replace hb : zHd _ := hb x52.toInt (by omega)
                                    rcases Int.decEq x52.toInt (0 : Int) with h54 | h54
                                    · skip
                                      replace hb : zHd _ := hb.1 h54
                                      refine w_ieq_f dX9_isOwn_147 (t := 166) rfl (by omega) ?_
                                      refine w_lo dX9_isOwn_150 rfl rfl rfl rfl ?_
                                      refine w_me (st' := [.long (7237492 : Int64), .long a0]) dX9_isOwn_151 rfl rfl rfl rfl rfl ?_
                                      refine w_lcm dX9_isOwn_154 ?_
                                      intro x55 h56
                                      have := ztl_7237492
                                      replace hb : zHd _ := hb x55.toInt (by omega)
                                      rcases Int.decEq x55.toInt (0 : Int) with h57 | h57
                                      · skip
                                        replace hb : zHd _ := hb.1 h57
                                        refine w_ieq_f dX9_isOwn_155 (t := 166) rfl (by omega) ?_
                                        refine w_lo dX9_isOwn_158 rfl rfl rfl rfl ?_
                                        refine w_me (st' := [.long (6384748 : Int64), .long a0]) dX9_isOwn_159 rfl rfl rfl rfl rfl ?_
                                        refine w_lcm dX9_isOwn_162 ?_
                                        intro x58 h59
                                        have := ztl_6384748
                                        replace hb : zHd _ := hb x58.toInt (by omega)
                                        rcases Int.decEq x58.toInt (0 : Int) with h60 | h60
                                        · skip
                                          replace hb : zHd _ := hb.1 h60
                                          refine w_ine_t dX9_isOwn_163 (t := 168) rfl (by omega) ?_
                                          refine w_lo dX9_isOwn_168 rfl rfl rfl rfl ?_
                                          refine w_me (st' := [.long (439956431717 : Int64), .long a0]) dX9_isOwn_169 rfl rfl rfl rfl rfl ?_
                                          refine w_lcm dX9_isOwn_172 ?_
                                          intro x61 h62
                                          have := ztl_439956431717
                                          replace hb : zHd _ := hb x61.toInt (by omega)
                                          rcases Int.decEq x61.toInt (0 : Int) with h63 | h63
                                          · skip
                                            replace hb : zHd _ := hb.1 h63
                                            refine w_ieq_f dX9_isOwn_173 (t := 208) rfl (by omega) ?_
                                            refine w_lo dX9_isOwn_176 rfl rfl rfl rfl ?_
                                            refine w_me (st' := [.long (482854658917 : Int64), .long a0]) dX9_isOwn_177 rfl rfl rfl rfl rfl ?_
                                            refine w_lcm dX9_isOwn_180 ?_
                                            intro x64 h65
                                            have := ztl_482854658917
                                            replace hb : zHd _ := hb x64.toInt (by omega)
                                            rcases Int.decEq x64.toInt (0 : Int) with h66 | h66
                                            · skip
                                              replace hb : zHd _ := hb.1 h66
                                              refine w_ieq_f dX9_isOwn_181 (t := 208) rfl (by omega) ?_
                                              refine w_lo dX9_isOwn_184 rfl rfl rfl rfl ?_
                                              refine w_me (st' := [.long (120299592184933 : Int64), .long a0]) dX9_isOwn_185 rfl rfl rfl rfl rfl ?_
                                              refine w_lcm dX9_isOwn_188 ?_
                                              intro x67 h68
                                              have := ztl_120299592184933
                                              replace hb : zHd _ := hb x67.toInt (by omega)
                                              rcases Int.decEq x67.toInt (0 : Int) with h69 | h69
                                              · skip
                                                replace hb : zHd _ := hb.1 h69
                                                refine w_ieq_f dX9_isOwn_189 (t := 208) rfl (by omega) ?_
                                                refine w_lo dX9_isOwn_192 rfl rfl rfl rfl ?_
                                                refine w_me (st' := [.long (108187867505765 : Int64), .long a0]) dX9_isOwn_193 rfl rfl rfl rfl rfl ?_
                                                refine w_lcm dX9_isOwn_196 ?_
                                                intro x70 h71
                                                have := ztl_108187867505765
                                                replace hb : zHd _ := hb x70.toInt (by omega)
                                                rcases Int.decEq x70.toInt (0 : Int) with h72 | h72
                                                · skip
                                                  replace hb : zHd _ := hb.1 h72
                                                  refine w_ieq_f dX9_isOwn_197 (t := 208) rfl (by omega) ?_
                                                  refine w_lo dX9_isOwn_200 rfl rfl rfl rfl ?_
                                                  refine w_me (st' := [.long (1717922932 : Int64), .long a0]) dX9_isOwn_201 rfl rfl rfl rfl rfl ?_
                                                  refine w_lcm dX9_isOwn_204 ?_
                                                  intro x73 h74
                                                  have := ztl_1717922932
                                                  replace hb : zHd _ := hb x73.toInt (by omega)
                                                  rcases Int.decEq x73.toInt (0 : Int) with h75 | h75
                                                  · skip
                                                    replace hb : zHd _ := hb.1 h75
                                                    refine w_ine_t dX9_isOwn_205 (t := 210) rfl (by omega) ?_
                                                    refine w_lo dX9_isOwn_210 rfl rfl rfl rfl ?_
                                                    refine w_me (st' := [.long (7170414 : Int64), .long a0]) dX9_isOwn_211 rfl rfl rfl rfl rfl ?_
                                                    refine w_lcm dX9_isOwn_214 ?_
                                                    intro x76 h77
                                                    have := ztl_7170414
                                                    replace hb : zHd _ := hb x76.toInt (by omega)
                                                    rcases Int.decEq x76.toInt (0 : Int) with h78 | h78
                                                    · skip
                                                      replace hb : zHd _ := hb.1 h78
                                                      refine w_ieq_f dX9_isOwn_215 (t := 226) rfl (by omega) ?_
                                                      refine w_lo dX9_isOwn_218 rfl rfl rfl rfl ?_
                                                      refine w_me (st' := [.long (7168376 : Int64), .long a0]) dX9_isOwn_219 rfl rfl rfl rfl rfl ?_
                                                      refine w_lcm dX9_isOwn_222 ?_
                                                      intro x79 h80
                                                      have := ztl_7168376
                                                      replace hb : zHd _ := hb x79.toInt (by omega)
                                                      rcases Int.decEq x79.toInt (0 : Int) with h81 | h81
                                                      · skip
                                                        replace hb : zHd _ := hb.1 h81
                                                        refine w_ine_t dX9_isOwn_223 (t := 228) rfl (by omega) ?_
                                                        refine w_ic dX9_isOwn_228 zi_0 ?_
                                                        refine w_en dX9_isOwn_229 rfl ?_
                                                        exact ⟨_, _, rfl, (by have := zt_0; omega), (by have := zt_0; omega), hJ0, hb⟩
                                                      · skip
                                                        replace hb : zHd _ := hb.2 h81
                                                        refine w_ine_f dX9_isOwn_223 (t := 228) rfl (by omega) ?_
                                                        refine w_ic dX9_isOwn_226 zi_1 ?_
                                                        refine w_en dX9_isOwn_227 rfl ?_
                                                        exact ⟨_, _, rfl, (by have := zt_1; omega), (by have := zt_1; omega), hJ0, hb⟩
                                                    · skip
                                                      replace hb : zHd _ := hb.2 h78
                                                      refine w_ieq_t dX9_isOwn_215 (t := 226) rfl (by omega) ?_
                                                      refine w_ic dX9_isOwn_226 zi_1 ?_
                                                      refine w_en dX9_isOwn_227 rfl ?_
                                                      exact ⟨_, _, rfl, (by have := zt_1; omega), (by have := zt_1; omega), hJ0, hb⟩
                                                  · skip
                                                    replace hb : zHd _ := hb.2 h75
                                                    refine w_ine_f dX9_isOwn_205 (t := 210) rfl (by omega) ?_
                                                    refine w_ic dX9_isOwn_208 zi_1 ?_
                                                    refine w_en dX9_isOwn_209 rfl ?_
                                                    exact ⟨_, _, rfl, (by have := zt_1; omega), (by have := zt_1; omega), hJ0, hb⟩
                                                · skip
                                                  replace hb : zHd _ := hb.2 h72
                                                  refine w_ieq_t dX9_isOwn_197 (t := 208) rfl (by omega) ?_
                                                  refine w_ic dX9_isOwn_208 zi_1 ?_
                                                  refine w_en dX9_isOwn_209 rfl ?_
                                                  exact ⟨_, _, rfl, (by have := zt_1; omega), (by have := zt_1; omega), hJ0, hb⟩
                                              · skip
                                                replace hb : zHd _ := hb.2 h69
                                                refine w_ieq_t dX9_isOwn_189 (t := 208) rfl (by omega) ?_
                                                refine w_ic dX9_isOwn_208 zi_1 ?_
                                                refine w_en dX9_isOwn_209 rfl ?_
                                                exact ⟨_, _, rfl, (by have := zt_1; omega), (by have := zt_1; omega), hJ0, hb⟩
                                            · skip
                                              replace hb : zHd _ := hb.2 h66
                                              refine w_ieq_t dX9_isOwn_181 (t := 208) rfl (by omega) ?_
                                              refine w_ic dX9_isOwn_208 zi_1 ?_
                                              refine w_en dX9_isOwn_209 rfl ?_
                                              exact ⟨_, _, rfl, (by have := zt_1; omega), (by have := zt_1; omega), hJ0, hb⟩
                                          · skip
                                            replace hb : zHd _ := hb.2 h63
                                            refine w_ieq_t dX9_isOwn_173 (t := 208) rfl (by omega) ?_
                                            refine w_ic dX9_isOwn_208 zi_1 ?_
                                            refine w_en dX9_isOwn_209 rfl ?_
                                            exact ⟨_, _, rfl, (by have := zt_1; omega), (by have := zt_1; omega), hJ0, hb⟩
                                        · skip
                                          replace hb : zHd _ := hb.2 h60
                                          refine w_ine_f dX9_isOwn_163 (t := 168) rfl (by omega) ?_
                                          refine w_ic dX9_isOwn_166 zi_1 ?_
                                          refine w_en dX9_isOwn_167 rfl ?_
                                          exact ⟨_, _, rfl, (by have := zt_1; omega), (by have := zt_1; omega), hJ0, hb⟩
                                      · skip
                                        replace hb : zHd _ := hb.2 h57
                                        refine w_ieq_t dX9_isOwn_155 (t := 166) rfl (by omega) ?_
                                        refine w_ic dX9_isOwn_166 zi_1 ?_
                                        refine w_en dX9_isOwn_167 rfl ?_
                                        exact ⟨_, _, rfl, (by have := zt_1; omega), (by have := zt_1; omega), hJ0, hb⟩
                                    · skip
                                      replace hb : zHd _ := hb.2 h54
                                      refine w_ieq_t dX9_isOwn_147 (t := 166) rfl (by omega) ?_
                                      refine w_ic dX9_isOwn_166 zi_1 ?_
                                      refine w_en dX9_isOwn_167 rfl ?_
                                      exact ⟨_, _, rfl, (by have := zt_1; omega), (by have := zt_1; omega), hJ0, hb⟩
                                  · skip
                                    replace hb : zHd _ := hb.2 h51
                                    refine w_ieq_t dX9_isOwn_139 (t := 166) rfl (by omega) ?_
                                    refine w_ic dX9_isOwn_166 zi_1 ?_
                                    refine w_en dX9_isOwn_167 rfl ?_
                                    exact ⟨_, _, rfl, (by have := zt_1; omega), (by have := zt_1; omega), hJ0, hb⟩
                                · skip
                                  replace hb : zHd _ := hb.2 h48
                                  refine w_ieq_t dX9_isOwn_131 (t := 166) rfl (by omega) ?_
                                  refine w_ic dX9_isOwn_166 zi_1 ?_
                                  refine w_en dX9_isOwn_167 rfl ?_
                                  exact ⟨_, _, rfl, (by have := zt_1; omega), (by have := zt_1; omega), hJ0, hb⟩
                              · skip
                                replace hb : zHd _ := hb.2 h45
                                refine w_ine_f dX9_isOwn_121 (t := 126) rfl (by omega) ?_
                                refine w_ic dX9_isOwn_124 zi_1 ?_
                                refine w_en dX9_isOwn_125 rfl ?_
                                exact ⟨_, _, rfl, (by have := zt_1; omega), (by have := zt_1; omega), hJ0, hb⟩
                            · skip
                              replace hb : zHd _ := hb.2 h42
                              refine w_ieq_t dX9_isOwn_113 (t := 124) rfl (by omega) ?_
                              refine w_ic dX9_isOwn_124 zi_1 ?_
                              refine w_en dX9_isOwn_125 rfl ?_
                              exact ⟨_, _, rfl, (by have := zt_1; omega), (by have := zt_1; omega), hJ0, hb⟩
                          · skip
                            replace hb : zHd _ := hb.2 h39
                            refine w_ieq_t dX9_isOwn_105 (t := 124) rfl (by omega) ?_
                            refine w_ic dX9_isOwn_124 zi_1 ?_
                            refine w_en dX9_isOwn_125 rfl ?_
                            exact ⟨_, _, rfl, (by have := zt_1; omega), (by have := zt_1; omega), hJ0, hb⟩
                        · skip
                          replace hb : zHd _ := hb.2 h36
                          refine w_ieq_t dX9_isOwn_97 (t := 124) rfl (by omega) ?_
                          refine w_ic dX9_isOwn_124 zi_1 ?_
                          refine w_en dX9_isOwn_125 rfl ?_
                          exact ⟨_, _, rfl, (by have := zt_1; omega), (by have := zt_1; omega), hJ0, hb⟩
                      · skip
                        replace hb : zHd _ := hb.2 h33
                        refine w_ieq_t dX9_isOwn_89 (t := 124) rfl (by omega) ?_
                        refine w_ic dX9_isOwn_124 zi_1 ?_
                        refine w_en dX9_isOwn_125 rfl ?_
                        exact ⟨_, _, rfl, (by have := zt_1; omega), (by have := zt_1; omega), hJ0, hb⟩
                    · skip
                      replace hb : zHd _ := hb.2 h30
                      refine w_ine_f dX9_isOwn_79 (t := 84) rfl (by omega) ?_
                      refine w_ic dX9_isOwn_82 zi_1 ?_
                      refine w_en dX9_isOwn_83 rfl ?_
                      exact ⟨_, _, rfl, (by have := zt_1; omega), (by have := zt_1; omega), hJ0, hb⟩
                  · skip
                    replace hb : zHd _ := hb.2 h27
                    refine w_ieq_t dX9_isOwn_71 (t := 82) rfl (by omega) ?_
                    refine w_ic dX9_isOwn_82 zi_1 ?_
                    refine w_en dX9_isOwn_83 rfl ?_
                    exact ⟨_, _, rfl, (by have := zt_1; omega), (by have := zt_1; omega), hJ0, hb⟩
                · skip
                  replace hb : zHd _ := hb.2 h24
                  refine w_ieq_t dX9_isOwn_63 (t := 82) rfl (by omega) ?_
                  refine w_ic dX9_isOwn_82 zi_1 ?_
                  refine w_en dX9_isOwn_83 rfl ?_
                  exact ⟨_, _, rfl, (by have := zt_1; omega), (by have := zt_1; omega), hJ0, hb⟩
              · skip
                replace hb : zHd _ := hb.2 h21
                refine w_ieq_t dX9_isOwn_55 (t := 82) rfl (by omega) ?_
                refine w_ic dX9_isOwn_82 zi_1 ?_
                refine w_en dX9_isOwn_83 rfl ?_
                exact ⟨_, _, rfl, (by have := zt_1; omega), (by have := zt_1; omega), hJ0, hb⟩
            · skip
              replace hb : zHd _ := hb.2 h18
              refine w_ieq_t dX9_isOwn_47 (t := 82) rfl (by omega) ?_
              refine w_ic dX9_isOwn_82 zi_1 ?_
              refine w_en dX9_isOwn_83 rfl ?_
              exact ⟨_, _, rfl, (by have := zt_1; omega), (by have := zt_1; omega), hJ0, hb⟩
          · skip
            replace hb : zHd _ := hb.2 h15
            refine w_ine_f dX9_isOwn_37 (t := 42) rfl (by omega) ?_
            refine w_ic dX9_isOwn_40 zi_1 ?_
            refine w_en dX9_isOwn_41 rfl ?_
            exact ⟨_, _, rfl, (by have := zt_1; omega), (by have := zt_1; omega), hJ0, hb⟩
        · skip
          replace hb : zHd _ := hb.2 h12
          refine w_ieq_t dX9_isOwn_29 (t := 40) rfl (by omega) ?_
          refine w_ic dX9_isOwn_40 zi_1 ?_
          refine w_en dX9_isOwn_41 rfl ?_
          exact ⟨_, _, rfl, (by have := zt_1; omega), (by have := zt_1; omega), hJ0, hb⟩
      · skip
        replace hb : zHd _ := hb.2 h9
        refine w_ieq_t dX9_isOwn_21 (t := 40) rfl (by omega) ?_
        refine w_ic dX9_isOwn_40 zi_1 ?_
        refine w_en dX9_isOwn_41 rfl ?_
        exact ⟨_, _, rfl, (by have := zt_1; omega), (by have := zt_1; omega), hJ0, hb⟩
    · skip
      replace hb : zHd _ := hb.2 h6
      refine w_ieq_t dX9_isOwn_13 (t := 40) rfl (by omega) ?_
      refine w_ic dX9_isOwn_40 zi_1 ?_
      refine w_en dX9_isOwn_41 rfl ?_
      exact ⟨_, _, rfl, (by have := zt_1; omega), (by have := zt_1; omega), hJ0, hb⟩
  · skip
    replace hb : zHd _ := hb.2 h3
    refine w_ieq_t dX9_isOwn_5 (t := 40) rfl (by omega) ?_
    refine w_ic dX9_isOwn_40 zi_1 ?_
    refine w_en dX9_isOwn_41 rfl ?_
    exact ⟨_, _, rfl, (by have := zt_1; omega), (by have := zt_1; omega), hJ0, hb⟩
set_option maxRecDepth 100000 in
theorem u_2320 {X : List Int32} {d N : Nat} {M0 : zM} (a0 : Int64) (hN : N ≤ 600) (hB0 : zB N M0) {Q : Int → zF → Prop} (hb : b_2320 (zi M0) a0.toInt Q) : ZV X (d + 1) 2320 [.ref 386, .long a0] M0 (zRI N [] M0 (0) (1) (fun v M' => Q v.toInt (zi M'))) := by
  have hJ0 : zJ N [] M0 M0 := zJ_refl hB0
  refine ZV.of (ini := false) rfl (Nat.le_of_ble_eq_true rfl) (by decide +kernel) ?_
  obtain ⟨I2, I44, hbE, hb2, hb44⟩ := hb
  replace hbE : zHd _ := hbE
  replace hb2 : zHd _ := hb2
  replace hb44 : zHd _ := hb44
  have main : ∀ n : Nat,
      (∀ (M : zM) (y2_1 : Int64) (v2_3 : Int32), zJ N [] M0 M → ((-9223372036854775808 : Int) ≤ y2_1.toInt) → (y2_1.toInt ≤ 9223372036854775807) → ((0 : Int) ≤ v2_3.toInt) → (v2_3.toInt ≤ 12) → I2 n (zi M) y2_1.toInt v2_3.toInt → ZW X (d + 0) 9 false (some .boolean) cX9_isThere (zRI N [] M0 (0) (1) (fun v M' => Q v.toInt (zi M'))) (2, [some (.ref 386), some (.long y2_1), none, some (.int v2_3)], [], M)) ∧
      (∀ (M : zM) (y44_1 : Int64) (v44_3 : Int32), zJ N [] M0 M → ((-9223372036854775808 : Int) ≤ y44_1.toInt) → (y44_1.toInt ≤ 9223372036854775807) → ((0 : Int) ≤ v44_3.toInt) → (v44_3.toInt ≤ 6) → I44 n (zi M) y44_1.toInt v44_3.toInt → ZW X (d + 0) 9 false (some .boolean) cX9_isThere (zRI N [] M0 (0) (1) (fun v M' => Q v.toInt (zi M'))) (44, [some (.ref 386), some (.long y44_1), none, some (.int v44_3)], [], M)) := by
    intro n
    induction n using Nat.strongRecOn with
    | _ n ih =>
      refine ⟨?_, ?_⟩
      · intro M y2_1 v2_3 hJ y2_10 y2_11 v2_30 v2_31 hI
        have hb : zHd _ := hb2 n (zi M) y2_1.toInt v2_3.toInt (zi_fr hJ.2) v2_30 v2_31 hI
        refine w_lo dX9_isThere_2 rfl rfl rfl rfl ?_
        refine w_lo dX9_isThere_3 rfl rfl rfl rfl ?_
        refine w_gf dX9_isThere_4 rfl hJ.1.1 zs_386 (zr_386_13 hJ.1) ?_
        refine w_lo dX9_isThere_7 rfl rfl rfl rfl ?_
        refine w_gfi dX9_isThere_8 rfl hJ.1 zs_386 (Nat.le_of_ble_eq_true rfl) zo_386_35 ?_
        intro x1 f2 h3 h4
        replace hb : zHd _ := hb x1.toInt (ziE f2) h3 h4
        refine w_iai dX9_isThere_11 hJ.1 zs_388 (by omega) (by omega) zu_388 ?_
        intro x8 f5 h6 h7
        replace hb : zHd _ := hb x8.toInt (ziEk f5 rfl) h6 h7
        rcases zcut v2_3.toInt x8.toInt with h9 | h9
        · skip
          replace hb : zHd _ := hb.1 h9
          refine w_cge_f dX9_isThere_12 (t := 42) rfl (by omega) ?_
          refine w_lo dX9_isThere_15 rfl rfl rfl rfl ?_
          refine w_gf dX9_isThere_16 rfl hJ.1.1 zs_386 (zr_386_14 hJ.1) ?_
          refine w_bi dX9_isThere_19 (c := 12) (by decide) ?_
          refine w_lo dX9_isThere_21 rfl rfl rfl rfl ?_
          refine w_gf dX9_isThere_22 rfl hJ.1.1 zs_386 f2 ?_
          refine w_mulc dX9_isThere_25 zt_12 (by have := zt_12; omega) ?_
          intro x10 h11
          have := zt_12
          replace hb : zHd _ := hb x10.toInt (by have := zt_12; omega)
          refine w_lo dX9_isThere_26 rfl rfl rfl rfl ?_
          refine w_add dX9_isThere_27 (by omega) ?_
          intro x12 h13
          replace hb : zHd _ := hb x12.toInt (by omega)
          refine w_lal dX9_isThere_28 hJ.1 zs_389 (by omega) (by omega) zu_389 ?_
          intro y17 f14
          replace hb : zHd _ := hb y17.toInt (ziLk f14 rfl)
          refine w_lo dX9_isThere_29 rfl rfl rfl rfl ?_
          refine w_lcm dX9_isThere_30 ?_
          intro x18 h19
          skip
          replace hb : zHd _ := hb x18.toInt (by omega)
          rcases Int.decEq x18.toInt (0 : Int) with h20 | h20
          · skip
            replace hb : zHd _ := hb.1 h20
            refine w_ine_t dX9_isThere_31 (t := 36) rfl (by omega) ?_
            refine w_inc (kk := 3) dX9_isThere_36 rfl (m := 1) (by decide) (by omega) ?_
            intro x21 h22
            refine ⟨_, rfl, ?_⟩
            replace hb : zHd _ := hb x21.toInt h22
            show ZW _ _ _ _ _ _ _ (39, [some (.ref 386), some (.long y2_1), none, some (.int x21)], [], M)
            refine w_gt dX9_isThere_39 (t := 2) rfl ?_
            obtain ⟨m, hm, hI⟩ := hb
            exact (ih m hm).1 M y2_1 x21 hJ (zlbot _) (zltop _) (by omega) (by omega) hI
          · skip
            replace hb : zHd _ := hb.2 h20
            refine w_ine_f dX9_isThere_31 (t := 36) rfl (by omega) ?_
            refine w_ic dX9_isThere_34 zi_1 ?_
            refine w_en dX9_isThere_35 rfl ?_
            exact ⟨_, _, rfl, (by have := zt_1; omega), (by have := zt_1; omega), hJ, hb⟩
        · skip
          replace hb : zHd _ := hb.2 h9
          refine w_cge_t dX9_isThere_12 (t := 42) rfl (by omega) ?_
          refine w_ic dX9_isThere_42 zi_0 ?_
          refine w_lo (ml' := [some (.ref 386), some (.long y2_1), none, some (.int 0)]) dX9_isThere_43 rfl rfl rfl rfl ?_
          obtain ⟨m, hm, hI⟩ := hb
          exact (ih m hm).2 M y2_1 0 hJ (zlbot _) (zltop _) (by have := zt_0; omega) (by have := zt_0; omega) hI
      · intro M y44_1 v44_3 hJ y44_10 y44_11 v44_30 v44_31 hI
        have hb : zHd _ := hb44 n (zi M) y44_1.toInt v44_3.toInt (zi_fr hJ.2) v44_30 v44_31 hI
        refine w_lo dX9_isThere_44 rfl rfl rfl rfl ?_
        refine w_lo dX9_isThere_45 rfl rfl rfl rfl ?_
        refine w_gf dX9_isThere_46 rfl hJ.1.1 zs_386 (zr_386_21 hJ.1) ?_
        refine w_lo dX9_isThere_49 rfl rfl rfl rfl ?_
        refine w_gfi dX9_isThere_50 rfl hJ.1 zs_386 (Nat.le_of_ble_eq_true rfl) zo_386_35 ?_
        intro x23 f24 h25 h26
        replace hb : zHd _ := hb x23.toInt (ziE f24) h25 h26
        refine w_iai dX9_isThere_53 hJ.1 zs_396 (by omega) (by omega) zu_396 ?_
        intro x30 f27 h28 h29
        replace hb : zHd _ := hb x30.toInt (ziEk f27 rfl) h28 h29
        rcases zcut v44_3.toInt x30.toInt with h31 | h31
        · skip
          replace hb : zHd _ := hb.1 h31
          refine w_cge_f dX9_isThere_54 (t := 84) rfl (by omega) ?_
          refine w_lo dX9_isThere_57 rfl rfl rfl rfl ?_
          refine w_gf dX9_isThere_58 rfl hJ.1.1 zs_386 (zr_386_22 hJ.1) ?_
          refine w_bi dX9_isThere_61 (c := 6) (by decide) ?_
          refine w_lo dX9_isThere_63 rfl rfl rfl rfl ?_
          refine w_gf dX9_isThere_64 rfl hJ.1.1 zs_386 f24 ?_
          refine w_mulc dX9_isThere_67 zt_6 (by have := zt_6; omega) ?_
          intro x32 h33
          have := zt_6
          replace hb : zHd _ := hb x32.toInt (by have := zt_6; omega)
          refine w_lo dX9_isThere_68 rfl rfl rfl rfl ?_
          refine w_add dX9_isThere_69 (by omega) ?_
          intro x34 h35
          replace hb : zHd _ := hb x34.toInt (by omega)
          refine w_lal dX9_isThere_70 hJ.1 zs_397 (by omega) (by omega) zu_397 ?_
          intro y39 f36
          replace hb : zHd _ := hb y39.toInt (ziLk f36 rfl)
          refine w_lo dX9_isThere_71 rfl rfl rfl rfl ?_
          refine w_lcm dX9_isThere_72 ?_
          intro x40 h41
          skip
          replace hb : zHd _ := hb x40.toInt (by omega)
          rcases Int.decEq x40.toInt (0 : Int) with h42 | h42
          · skip
            replace hb : zHd _ := hb.1 h42
            refine w_ine_t dX9_isThere_73 (t := 78) rfl (by omega) ?_
            refine w_inc (kk := 3) dX9_isThere_78 rfl (m := 1) (by decide) (by omega) ?_
            intro x43 h44
            refine ⟨_, rfl, ?_⟩
            replace hb : zHd _ := hb x43.toInt h44
            show ZW _ _ _ _ _ _ _ (81, [some (.ref 386), some (.long y44_1), none, some (.int x43)], [], M)
            refine w_gt dX9_isThere_81 (t := 44) rfl ?_
            obtain ⟨m, hm, hI⟩ := hb
            exact (ih m hm).2 M y44_1 x43 hJ (zlbot _) (zltop _) (by omega) (by omega) hI
          · skip
            replace hb : zHd _ := hb.2 h42
            refine w_ine_f dX9_isThere_73 (t := 78) rfl (by omega) ?_
            refine w_ic dX9_isThere_76 zi_1 ?_
            refine w_en dX9_isThere_77 rfl ?_
            exact ⟨_, _, rfl, (by have := zt_1; omega), (by have := zt_1; omega), hJ, hb⟩
        · skip
          replace hb : zHd _ := hb.2 h31
          refine w_cge_t dX9_isThere_54 (t := 84) rfl (by omega) ?_
          refine w_ic dX9_isThere_84 zi_0 ?_
          refine w_en dX9_isThere_85 rfl ?_
          exact ⟨_, _, rfl, (by have := zt_0; omega), (by have := zt_0; omega), hJ, hb⟩
  have hb : zHd _ := hbE
  show ZW _ _ _ _ _ _ _ (0, [some (.ref 386), some (.long a0), none, none], [], M0)
  refine w_ic dX9_isThere_0 zi_0 ?_
  refine w_lo (ml' := [some (.ref 386), some (.long a0), none, some (.int 0)]) dX9_isThere_1 rfl rfl rfl rfl ?_
  obtain ⟨m, hI⟩ := hb
  exact (main m).1 M0 a0 0 hJ0 (zlbot _) (zltop _) (by have := zt_0; omega) (by have := zt_0; omega) hI
set_option maxRecDepth 100000 in
theorem u_2318 {X : List Int32} {d N : Nat} {M0 : zM}  (hN : N ≤ 600) (hB0 : zB N M0) {Q : Int → zF → Prop} (hb : b_2318 (zi M0) Q) : ZV X (d + 3) 2318 [.ref 386] M0 (zRG N [(386, 387, 3), (386, 387, 4), (386, 387, 5), (386, 387, 6), (386, 387, 7), (386, 387, 8), (386, 387, 9)] M0 (fun v M' => Q v.toInt (zi M'))) := by
  have hJ0 : zJ N [(386, 387, 3), (386, 387, 4), (386, 387, 5), (386, 387, 6), (386, 387, 7), (386, 387, 8), (386, 387, 9)] M0 M0 := zJ_refl hB0
  refine ZV.of (ini := false) rfl (Nat.le_of_ble_eq_true rfl) (by decide +kernel) ?_
  unfold b_2318 at hb
  replace hb : zHd _ := hb
  show ZW _ _ _ _ _ _ _ (0, [some (.ref 386), none, none], [], M0)
  refine w_lo dX9_fresh_0 rfl rfl rfl rfl ?_
  refine w_gfi dX9_fresh_1 rfl hJ0.1 zs_386 (Nat.le_of_ble_eq_true rfl) zo_386_8 ?_
  intro x1 f2 h3 h4
  replace hb : zHd _ := hb x1.toInt (ziE f2) h3 h4
  rcases zcut (0 : Int) x1.toInt with h5 | h5
  · skip
    replace hb : zHd _ := hb.1 h5
    refine w_ile_f dX9_fresh_4 (t := 9) rfl (by omega) ?_
    refine w_lc dX9_fresh_7 (c := (0 : Int64)) (by decide) ?_
    refine w_en dX9_fresh_8 rfl ?_
    exact ⟨_, _, rfl, hJ0, hb⟩
  · skip
    replace hb : zHd _ := hb.2 h5
    refine w_ile_t dX9_fresh_4 (t := 9) rfl (by omega) ?_
    refine w_lo dX9_fresh_9 rfl rfl rfl rfl ?_
    refine w_gfi dX9_fresh_10 rfl hJ0.1 zs_386 (Nat.le_of_ble_eq_true rfl) zo_386_3 ?_
    intro x6 f7 h8 h9
    replace hb : zHd _ := hb x6.toInt (ziE f7) h8 h9
    refine w_ic dX9_fresh_13 zi_1 ?_
    rcases Int.decEq x6.toInt (1 : Int) with h10 | h10
    · skip
      replace hb : zHd _ := hb.1 h10
      refine w_cne_t dX9_fresh_14 (t := 28) rfl (by have := zt_1; omega) ?_
      refine w_lo dX9_fresh_28 rfl rfl rfl rfl ?_
      refine w_ic dX9_fresh_29 zi_1 ?_
      refine w_lo dX9_fresh_30 rfl rfl rfl rfl ?_
      refine w_gfi dX9_fresh_31 rfl hJ0.1 zs_386 (Nat.le_of_ble_eq_true rfl) zo_386_4 ?_
      intro x11 f12 h13 h14
      replace hb : zHd _ := hb x11.toInt (ziE f12) h13 h14
      refine w_iv dX9_fresh_34 rfl rfl (As := [.int 1, .int x11]) rfl rfl hJ0.1.1 zs_386 (Nat.le_of_ble_eq_true rfl) ?_
      refine ZV.of (ini := false) rfl (Nat.le_of_ble_eq_true rfl) (by decide +kernel) ?_
      show ZW _ _ _ _ _ _ _ (0, [some (.ref 386), some (.int 1), some (.int x11)], [], M0)
      refine w_lo dX9_blame_0 rfl rfl rfl rfl ?_
      refine w_gf dX9_blame_1 rfl hJ0.1.1 zs_386 f2 ?_
      refine w_ile_t dX9_blame_4 (t := 8) rfl (by omega) ?_
      refine w_lo dX9_blame_8 rfl rfl rfl rfl ?_
      refine w_lo dX9_blame_9 rfl rfl rfl rfl ?_
      refine w_pfi dX9_blame_10 rfl hJ0 zs_386 (Nat.le_of_ble_eq_true rfl) zo_386_8 (by have := zt_1; omega) (by have := zt_1; omega) (zIR_s (zIR_s (zIR_s (zIR_s (zIR_s (zIR_k (by omega) (by omega))))))) rfl rfl rfl ?_
      intro M15 hJ16 f17 hn18
      replace hb : zHd _ := hb (zi M15) (zi_zup hn18 f17 rfl zt_1)
      refine w_lo dX9_blame_13 rfl rfl rfl rfl ?_
      refine w_lo dX9_blame_14 rfl rfl rfl rfl ?_
      refine w_pfi dX9_blame_15 rfl hJ16 zs_386 (Nat.le_of_ble_eq_true rfl) zo_386_9 (by omega) (by omega) (zIR_s (zIR_s (zIR_s (zIR_s (zIR_s (zIR_s (zIR_k (by omega) (by omega)))))))) rfl rfl rfl ?_
      intro M20 hJ21 f22 hn23
      replace hb : zHd _ := hb (zi M20) (zi_zup hn23 f22 rfl rfl)
      refine w_en dX9_blame_18 rfl ?_
      show ZW _ _ _ _ _ _ _ (37, [some (.ref 386), none, none], [], M20)
      refine w_lo dX9_fresh_37 rfl rfl rfl rfl ?_
      have f25 := (hn23 (386) 8 (Or.inr (by decide))).trans (f17)
      refine w_gf dX9_fresh_38 rfl hJ21.1.1 zs_386 f25 ?_
      refine w_ine_t dX9_fresh_41 (t := 64) rfl (by have := zt_1; omega) ?_
      refine w_lo dX9_fresh_64 rfl rfl rfl rfl ?_
      refine w_gfl dX9_fresh_65 rfl hJ21.1 zs_386 (Nat.le_of_ble_eq_true rfl) zo_386_7 ?_
      intro y29 f26 h27 h28
      replace hb : zHd _ := hb y29.toInt (ziL f26)
      refine w_lo (ml' := [some (.ref 386), some (.long y29), none]) dX9_fresh_68 rfl rfl rfl rfl ?_
      refine w_lo dX9_fresh_69 rfl rfl rfl rfl ?_
      refine w_gf dX9_fresh_70 rfl hJ21.1.1 zs_386 f25 ?_
      refine w_ine_t dX9_fresh_73 (t := 80) rfl (by have := zt_1; omega) ?_
      refine w_lo dX9_fresh_80 rfl rfl rfl rfl ?_
      refine w_en dX9_fresh_81 rfl ?_
      exact ⟨_, _, rfl, hJ21, hb⟩
    · skip
      replace hb : zHd _ := hb.2 h10
      refine w_cne_f dX9_fresh_14 (t := 28) rfl (by have := zt_1; omega) ?_
      refine w_lo dX9_fresh_17 rfl rfl rfl rfl ?_
      refine w_lo dX9_fresh_18 rfl rfl rfl rfl ?_
      refine w_gfl dX9_fresh_19 rfl hJ0.1 zs_386 (Nat.le_of_ble_eq_true rfl) zo_386_7 ?_
      intro y33 f30 h31 h32
      replace hb : zHd _ := hb y33.toInt (ziL f30)
      refine w_iv dX9_fresh_22 rfl rfl (As := [.long y33]) rfl rfl hJ0.1.1 zs_386 (Nat.le_of_ble_eq_true rfl) ?_
      obtain ⟨P36, hp37, hb⟩ := hb
      replace hb : zHd _ := hb
      refine ZV.imp (u_2319 y33 hN hJ0.1 hp37) ?_
      rintro _ ⟨x39, M34, rfl, h40, h41, hJ35, hq38⟩
      replace hb : zHd _ := hb x39.toInt h40 h41 (zi M34) (zi_fr hJ35.2) hq38
      have hJ43 := zJ_trans hJ0 hJ35 zSub_nil
      show ZW _ _ _ _ _ _ _ (25, [some (.ref 386), none, none], [.int x39], M34)
      rcases Int.decEq x39.toInt (0 : Int) with h44 | h44
      · skip
        replace hb : zHd _ := hb.1 h44
        refine w_ieq_f dX9_fresh_25 (t := 37) rfl (by omega) ?_
        refine w_lo dX9_fresh_28 rfl rfl rfl rfl ?_
        refine w_ic dX9_fresh_29 zi_1 ?_
        refine w_lo dX9_fresh_30 rfl rfl rfl rfl ?_
        refine w_gfi dX9_fresh_31 rfl hJ43.1 zs_386 (Nat.le_of_ble_eq_true rfl) zo_386_4 ?_
        intro x45 f46 h47 h48
        replace hb : zHd _ := hb x45.toInt (ziE f46) h47 h48
        refine w_iv dX9_fresh_34 rfl rfl (As := [.int 1, .int x45]) rfl rfl hJ43.1.1 zs_386 (Nat.le_of_ble_eq_true rfl) ?_
        refine ZV.of (ini := false) rfl (Nat.le_of_ble_eq_true rfl) (by decide +kernel) ?_
        show ZW _ _ _ _ _ _ _ (0, [some (.ref 386), some (.int 1), some (.int x45)], [], M34)
        refine w_lo dX9_blame_0 rfl rfl rfl rfl ?_
        have f49 := (hJ35.2 (386) 8 zNI_nil).trans (f2)
        refine w_gf dX9_blame_1 rfl hJ43.1.1 zs_386 f49 ?_
        refine w_ile_t dX9_blame_4 (t := 8) rfl (by omega) ?_
        refine w_lo dX9_blame_8 rfl rfl rfl rfl ?_
        refine w_lo dX9_blame_9 rfl rfl rfl rfl ?_
        refine w_pfi dX9_blame_10 rfl hJ43 zs_386 (Nat.le_of_ble_eq_true rfl) zo_386_8 (by have := zt_1; omega) (by have := zt_1; omega) (zIR_s (zIR_s (zIR_s (zIR_s (zIR_s (zIR_k (by omega) (by omega))))))) rfl rfl rfl ?_
        intro M50 hJ51 f52 hn53
        replace hb : zHd _ := hb (zi M50) (zi_zup hn53 f52 rfl zt_1)
        refine w_lo dX9_blame_13 rfl rfl rfl rfl ?_
        refine w_lo dX9_blame_14 rfl rfl rfl rfl ?_
        refine w_pfi dX9_blame_15 rfl hJ51 zs_386 (Nat.le_of_ble_eq_true rfl) zo_386_9 (by omega) (by omega) (zIR_s (zIR_s (zIR_s (zIR_s (zIR_s (zIR_s (zIR_k (by omega) (by omega)))))))) rfl rfl rfl ?_
        intro M55 hJ56 f57 hn58
        replace hb : zHd _ := hb (zi M55) (zi_zup hn58 f57 rfl rfl)
        refine w_en dX9_blame_18 rfl ?_
        show ZW _ _ _ _ _ _ _ (37, [some (.ref 386), none, none], [], M55)
        refine w_lo dX9_fresh_37 rfl rfl rfl rfl ?_
        have f60 := (hn58 (386) 8 (Or.inr (by decide))).trans (f52)
        refine w_gf dX9_fresh_38 rfl hJ56.1.1 zs_386 f60 ?_
        refine w_ine_t dX9_fresh_41 (t := 64) rfl (by have := zt_1; omega) ?_
        refine w_lo dX9_fresh_64 rfl rfl rfl rfl ?_
        have f61 := (hn58 (386) 7 (Or.inr (by decide))).trans ((hn53 (386) 7 (Or.inr (by decide))).trans ((hJ35.2 (386) 7 zNI_nil).trans (f30)))
        refine w_gf dX9_fresh_65 rfl hJ56.1.1 zs_386 f61 ?_
        refine w_lo (ml' := [some (.ref 386), some (.long y33), none]) dX9_fresh_68 rfl rfl rfl rfl ?_
        refine w_lo dX9_fresh_69 rfl rfl rfl rfl ?_
        refine w_gf dX9_fresh_70 rfl hJ56.1.1 zs_386 f60 ?_
        refine w_ine_t dX9_fresh_73 (t := 80) rfl (by have := zt_1; omega) ?_
        refine w_lo dX9_fresh_80 rfl rfl rfl rfl ?_
        refine w_en dX9_fresh_81 rfl ?_
        exact ⟨_, _, rfl, hJ56, hb⟩
      · skip
        replace hb : zHd _ := hb.2 h44
        refine w_ieq_t dX9_fresh_25 (t := 37) rfl (by omega) ?_
        refine w_lo dX9_fresh_37 rfl rfl rfl rfl ?_
        have f62 := (hJ35.2 (386) 8 zNI_nil).trans (f2)
        refine w_gf dX9_fresh_38 rfl hJ43.1.1 zs_386 f62 ?_
        refine w_ine_f dX9_fresh_41 (t := 64) rfl (by omega) ?_
        refine w_lo dX9_fresh_44 rfl rfl rfl rfl ?_
        refine w_lo dX9_fresh_45 rfl rfl rfl rfl ?_
        have f63 := (hJ35.2 (386) 7 zNI_nil).trans (f30)
        refine w_gf dX9_fresh_46 rfl hJ43.1.1 zs_386 f63 ?_
        refine w_iv dX9_fresh_49 rfl rfl (As := [.long y33]) rfl rfl hJ43.1.1 zs_386 (Nat.le_of_ble_eq_true rfl) ?_
        obtain ⟨P66, hp67, hb⟩ := hb
        replace hb : zHd _ := hb
        refine ZV.imp (u_2320 y33 hN hJ43.1 hp67) ?_
        rintro _ ⟨x69, M64, rfl, h70, h71, hJ65, hq68⟩
        replace hb : zHd _ := hb x69.toInt h70 h71 (zi M64) (zi_fr hJ65.2) hq68
        have hJ73 := zJ_trans hJ43 hJ65 zSub_nil
        show ZW _ _ _ _ _ _ _ (52, [some (.ref 386), none, none], [.int x69], M64)
        rcases Int.decEq x69.toInt (0 : Int) with h74 | h74
        · skip
          replace hb : zHd _ := hb.1 h74
          refine w_ieq_f dX9_fresh_52 (t := 64) rfl (by omega) ?_
          refine w_lo dX9_fresh_55 rfl rfl rfl rfl ?_
          refine w_ic dX9_fresh_56 zi_2 ?_
          refine w_lo dX9_fresh_57 rfl rfl rfl rfl ?_
          refine w_gfi dX9_fresh_58 rfl hJ73.1 zs_386 (Nat.le_of_ble_eq_true rfl) zo_386_4 ?_
          intro x75 f76 h77 h78
          replace hb : zHd _ := hb x75.toInt (ziE f76) h77 h78
          refine w_iv dX9_fresh_61 rfl rfl (As := [.int 2, .int x75]) rfl rfl hJ73.1.1 zs_386 (Nat.le_of_ble_eq_true rfl) ?_
          refine ZV.of (ini := false) rfl (Nat.le_of_ble_eq_true rfl) (by decide +kernel) ?_
          show ZW _ _ _ _ _ _ _ (0, [some (.ref 386), some (.int 2), some (.int x75)], [], M64)
          refine w_lo dX9_blame_0 rfl rfl rfl rfl ?_
          have f79 := (hJ65.2 (386) 8 zNI_nil).trans (f62)
          refine w_gf dX9_blame_1 rfl hJ73.1.1 zs_386 f79 ?_
          refine w_ile_t dX9_blame_4 (t := 8) rfl (by omega) ?_
          refine w_lo dX9_blame_8 rfl rfl rfl rfl ?_
          refine w_lo dX9_blame_9 rfl rfl rfl rfl ?_
          refine w_pfi dX9_blame_10 rfl hJ73 zs_386 (Nat.le_of_ble_eq_true rfl) zo_386_8 (by have := zt_2; omega) (by have := zt_2; omega) (zIR_s (zIR_s (zIR_s (zIR_s (zIR_s (zIR_k (by omega) (by omega))))))) rfl rfl rfl ?_
          intro M80 hJ81 f82 hn83
          replace hb : zHd _ := hb (zi M80) (zi_zup hn83 f82 rfl zt_2)
          refine w_lo dX9_blame_13 rfl rfl rfl rfl ?_
          refine w_lo dX9_blame_14 rfl rfl rfl rfl ?_
          refine w_pfi dX9_blame_15 rfl hJ81 zs_386 (Nat.le_of_ble_eq_true rfl) zo_386_9 (by omega) (by omega) (zIR_s (zIR_s (zIR_s (zIR_s (zIR_s (zIR_s (zIR_k (by omega) (by omega)))))))) rfl rfl rfl ?_
          intro M85 hJ86 f87 hn88
          replace hb : zHd _ := hb (zi M85) (zi_zup hn88 f87 rfl rfl)
          refine w_en dX9_blame_18 rfl ?_
          show ZW _ _ _ _ _ _ _ (64, [some (.ref 386), none, none], [], M85)
          refine w_lo dX9_fresh_64 rfl rfl rfl rfl ?_
          have f90 := (hn88 (386) 7 (Or.inr (by decide))).trans ((hn83 (386) 7 (Or.inr (by decide))).trans ((hJ65.2 (386) 7 zNI_nil).trans (f63)))
          refine w_gf dX9_fresh_65 rfl hJ86.1.1 zs_386 f90 ?_
          refine w_lo (ml' := [some (.ref 386), some (.long y33), none]) dX9_fresh_68 rfl rfl rfl rfl ?_
          refine w_lo dX9_fresh_69 rfl rfl rfl rfl ?_
          have f91 := (hn88 (386) 8 (Or.inr (by decide))).trans (f82)
          refine w_gf dX9_fresh_70 rfl hJ86.1.1 zs_386 f91 ?_
          refine w_ine_t dX9_fresh_73 (t := 80) rfl (by have := zt_2; omega) ?_
          refine w_lo dX9_fresh_80 rfl rfl rfl rfl ?_
          refine w_en dX9_fresh_81 rfl ?_
          exact ⟨_, _, rfl, hJ86, hb⟩
        · skip
          replace hb : zHd _ := hb.2 h74
          refine w_ieq_t dX9_fresh_52 (t := 64) rfl (by omega) ?_
          refine w_lo dX9_fresh_64 rfl rfl rfl rfl ?_
          have f92 := (hJ65.2 (386) 7 zNI_nil).trans (f63)
          refine w_gf dX9_fresh_65 rfl hJ73.1.1 zs_386 f92 ?_
          refine w_lo (ml' := [some (.ref 386), some (.long y33), none]) dX9_fresh_68 rfl rfl rfl rfl ?_
          refine w_lo dX9_fresh_69 rfl rfl rfl rfl ?_
          have f93 := (hJ65.2 (386) 8 zNI_nil).trans (f62)
          refine w_gf dX9_fresh_70 rfl hJ73.1.1 zs_386 f93 ?_
          refine w_ine_f dX9_fresh_73 (t := 80) rfl (by omega) ?_
          refine w_lo dX9_fresh_76 rfl rfl rfl rfl ?_
          refine w_iv dX9_fresh_77 rfl rfl (As := []) rfl rfl hJ73.1.1 zs_386 (Nat.le_of_ble_eq_true rfl) ?_
          obtain ⟨P96, hp97, hb⟩ := hb
          replace hb : zHd _ := hb
          refine ZV.imp (u_2310 hN hJ73.1 hp97) ?_
          rintro _ ⟨M94, rfl, hJ95, hq98⟩
          replace hb : zHd _ := hb  (zi M94) (zi_fr hJ95.2) hq98
          have hJ100 := zJ_trans hJ73 hJ95 (zSub_cons (fun _ _ h h' hk => zIR_e (by omega) (by omega) hk) (zSub_cons (fun _ _ h h' hk => zIR_s (zIR_e (by omega) (by omega) hk)) (zSub_cons (fun _ _ h h' hk => zIR_s (zIR_s (zIR_e (by omega) (by omega) hk))) (zSub_cons (fun _ _ h h' hk => zIR_s (zIR_s (zIR_s (zIR_e (by omega) (by omega) hk)))) (zSub_cons (fun _ _ h h' hk => zIR_s (zIR_s (zIR_s (zIR_s (zIR_e (by omega) (by omega) hk))))) (zSub_cons (fun _ _ h h' hk => zIR_s (zIR_s (zIR_s (zIR_s (zIR_s (zIR_e (by omega) (by omega) hk)))))) (zSub_cons (fun _ _ h h' hk => zIR_s (zIR_s (zIR_s (zIR_s (zIR_s (zIR_s (zIR_e (by omega) (by omega) hk))))))) zSub_nil)))))))
          show ZW _ _ _ _ _ _ _ (80, [some (.ref 386), some (.long y33), none], [], M94)
          refine w_lo dX9_fresh_80 rfl rfl rfl rfl ?_
          refine w_en dX9_fresh_81 rfl ?_
          exact ⟨_, _, rfl, hJ100, hb⟩
set_option maxRecDepth 100000 in
theorem u_2321 {X : List Int32} {d N : Nat} {M0 : zM} (a0 : Int64) (hN : N ≤ 600) (hB0 : zB N M0) {Q : zF → Prop} (hb : b_2321 (zi M0) a0.toInt Q) : ZV X (d + 3) 2321 [.ref 386, .long a0] M0 (zRV N [(386, 387, 3), (386, 387, 4), (386, 387, 5), (386, 387, 6), (386, 387, 7), (386, 387, 8), (386, 387, 9)] M0 (fun M' => Q (zi M'))) := by
  have hJ0 : zJ N [(386, 387, 3), (386, 387, 4), (386, 387, 5), (386, 387, 6), (386, 387, 7), (386, 387, 8), (386, 387, 9)] M0 M0 := zJ_refl hB0
  refine ZV.of (ini := false) rfl (Nat.le_of_ble_eq_true rfl) (by decide +kernel) ?_
  unfold b_2321 at hb
  replace hb : zHd _ := hb
  show ZW _ _ _ _ _ _ _ (0, [some (.ref 386), some (.long a0), none], [], M0)
  refine w_lo dX9_must__0 rfl rfl rfl rfl ?_
  refine w_gfi dX9_must__1 rfl hJ0.1 zs_386 (Nat.le_of_ble_eq_true rfl) zo_386_8 ?_
  intro x1 f2 h3 h4
  replace hb : zHd _ := hb x1.toInt (ziE f2) h3 h4
  rcases zcut (0 : Int) x1.toInt with h5 | h5
  · skip
    replace hb : zHd _ := hb.1 h5
    refine w_ile_f dX9_must__4 (t := 8) rfl (by omega) ?_
    refine w_en dX9_must__7 rfl ?_
    exact ⟨_, rfl, hJ0, hb⟩
  · skip
    replace hb : zHd _ := hb.2 h5
    refine w_ile_t dX9_must__4 (t := 8) rfl (by omega) ?_
    refine w_lo dX9_must__8 rfl rfl rfl rfl ?_
    refine w_lo dX9_must__9 rfl rfl rfl rfl ?_
    refine w_iv dX9_must__10 rfl rfl (As := [.long a0]) rfl rfl hJ0.1.1 zs_386 (Nat.le_of_ble_eq_true rfl) ?_
    refine ZV.of (ini := false) rfl (Nat.le_of_ble_eq_true rfl) (by decide +kernel) ?_
    show ZW _ _ _ _ _ _ _ (0, [some (.ref 386), some (.long a0), none], [], M0)
    refine w_lo dX9_isWord_0 rfl rfl rfl rfl ?_
    refine w_gfi dX9_isWord_1 rfl hJ0.1 zs_386 (Nat.le_of_ble_eq_true rfl) zo_386_3 ?_
    intro x6 f7 h8 h9
    replace hb : zHd _ := hb x6.toInt (ziE f7) h8 h9
    refine w_ic dX9_isWord_4 zi_1 ?_
    rcases Int.decEq x6.toInt (1 : Int) with h10 | h10
    · skip
      replace hb : zHd _ := hb.1 h10
      refine w_cne_t dX9_isWord_5 (t := 21) rfl (by have := zt_1; omega) ?_
      refine w_ic dX9_isWord_21 zi_0 ?_
      refine w_en dX9_isWord_22 rfl ?_
      show ZW _ _ _ _ _ _ _ (13, [some (.ref 386), some (.long a0), none], [.int 0], M0)
      refine w_ine_f dX9_must__13 (t := 25) rfl (by have := zt_0; omega) ?_
      refine w_lo dX9_must__16 rfl rfl rfl rfl ?_
      refine w_ic dX9_must__17 zi_1 ?_
      refine w_lo dX9_must__18 rfl rfl rfl rfl ?_
      refine w_gfi dX9_must__19 rfl hJ0.1 zs_386 (Nat.le_of_ble_eq_true rfl) zo_386_4 ?_
      intro x11 f12 h13 h14
      replace hb : zHd _ := hb x11.toInt (ziE f12) h13 h14
      refine w_iv dX9_must__22 rfl rfl (As := [.int 1, .int x11]) rfl rfl hJ0.1.1 zs_386 (Nat.le_of_ble_eq_true rfl) ?_
      refine ZV.of (ini := false) rfl (Nat.le_of_ble_eq_true rfl) (by decide +kernel) ?_
      show ZW _ _ _ _ _ _ _ (0, [some (.ref 386), some (.int 1), some (.int x11)], [], M0)
      refine w_lo dX9_blame_0 rfl rfl rfl rfl ?_
      refine w_gf dX9_blame_1 rfl hJ0.1.1 zs_386 f2 ?_
      refine w_ile_t dX9_blame_4 (t := 8) rfl (by omega) ?_
      refine w_lo dX9_blame_8 rfl rfl rfl rfl ?_
      refine w_lo dX9_blame_9 rfl rfl rfl rfl ?_
      refine w_pfi dX9_blame_10 rfl hJ0 zs_386 (Nat.le_of_ble_eq_true rfl) zo_386_8 (by have := zt_1; omega) (by have := zt_1; omega) (zIR_s (zIR_s (zIR_s (zIR_s (zIR_s (zIR_k (by omega) (by omega))))))) rfl rfl rfl ?_
      intro M15 hJ16 f17 hn18
      replace hb : zHd _ := hb (zi M15) (zi_zup hn18 f17 rfl zt_1)
      refine w_lo dX9_blame_13 rfl rfl rfl rfl ?_
      refine w_lo dX9_blame_14 rfl rfl rfl rfl ?_
      refine w_pfi dX9_blame_15 rfl hJ16 zs_386 (Nat.le_of_ble_eq_true rfl) zo_386_9 (by omega) (by omega) (zIR_s (zIR_s (zIR_s (zIR_s (zIR_s (zIR_s (zIR_k (by omega) (by omega)))))))) rfl rfl rfl ?_
      intro M20 hJ21 f22 hn23
      replace hb : zHd _ := hb (zi M20) (zi_zup hn23 f22 rfl rfl)
      refine w_en dX9_blame_18 rfl ?_
      show ZW _ _ _ _ _ _ _ (25, [some (.ref 386), some (.long a0), none], [], M20)
      refine w_lo dX9_must__25 rfl rfl rfl rfl ?_
      have f25 := (hn23 (386) 8 (Or.inr (by decide))).trans (f17)
      refine w_gf dX9_must__26 rfl hJ21.1.1 zs_386 f25 ?_
      refine w_ine_t dX9_must__29 (t := 36) rfl (by have := zt_1; omega) ?_
      refine w_en dX9_must__36 rfl ?_
      exact ⟨_, rfl, hJ21, hb⟩
    · skip
      replace hb : zHd _ := hb.2 h10
      refine w_cne_f dX9_isWord_5 (t := 21) rfl (by have := zt_1; omega) ?_
      refine w_lo dX9_isWord_8 rfl rfl rfl rfl ?_
      refine w_gfl dX9_isWord_9 rfl hJ0.1 zs_386 (Nat.le_of_ble_eq_true rfl) zo_386_7 ?_
      intro y29 f26 h27 h28
      replace hb : zHd _ := hb y29.toInt (ziL f26)
      refine w_lo dX9_isWord_12 rfl rfl rfl rfl ?_
      refine w_lcm dX9_isWord_13 ?_
      intro x30 h31
      skip
      replace hb : zHd _ := hb x30.toInt (by omega)
      rcases Int.decEq x30.toInt (0 : Int) with h32 | h32
      · skip
        replace hb : zHd _ := hb.1 h32
        refine w_ine_t dX9_isWord_14 (t := 21) rfl (by omega) ?_
        refine w_ic dX9_isWord_21 zi_0 ?_
        refine w_en dX9_isWord_22 rfl ?_
        show ZW _ _ _ _ _ _ _ (13, [some (.ref 386), some (.long a0), none], [.int 0], M0)
        refine w_ine_f dX9_must__13 (t := 25) rfl (by have := zt_0; omega) ?_
        refine w_lo dX9_must__16 rfl rfl rfl rfl ?_
        refine w_ic dX9_must__17 zi_1 ?_
        refine w_lo dX9_must__18 rfl rfl rfl rfl ?_
        refine w_gfi dX9_must__19 rfl hJ0.1 zs_386 (Nat.le_of_ble_eq_true rfl) zo_386_4 ?_
        intro x33 f34 h35 h36
        replace hb : zHd _ := hb x33.toInt (ziE f34) h35 h36
        refine w_iv dX9_must__22 rfl rfl (As := [.int 1, .int x33]) rfl rfl hJ0.1.1 zs_386 (Nat.le_of_ble_eq_true rfl) ?_
        refine ZV.of (ini := false) rfl (Nat.le_of_ble_eq_true rfl) (by decide +kernel) ?_
        show ZW _ _ _ _ _ _ _ (0, [some (.ref 386), some (.int 1), some (.int x33)], [], M0)
        refine w_lo dX9_blame_0 rfl rfl rfl rfl ?_
        refine w_gf dX9_blame_1 rfl hJ0.1.1 zs_386 f2 ?_
        refine w_ile_t dX9_blame_4 (t := 8) rfl (by omega) ?_
        refine w_lo dX9_blame_8 rfl rfl rfl rfl ?_
        refine w_lo dX9_blame_9 rfl rfl rfl rfl ?_
        refine w_pfi dX9_blame_10 rfl hJ0 zs_386 (Nat.le_of_ble_eq_true rfl) zo_386_8 (by have := zt_1; omega) (by have := zt_1; omega) (zIR_s (zIR_s (zIR_s (zIR_s (zIR_s (zIR_k (by omega) (by omega))))))) rfl rfl rfl ?_
        intro M37 hJ38 f39 hn40
        replace hb : zHd _ := hb (zi M37) (zi_zup hn40 f39 rfl zt_1)
        refine w_lo dX9_blame_13 rfl rfl rfl rfl ?_
        refine w_lo dX9_blame_14 rfl rfl rfl rfl ?_
        refine w_pfi dX9_blame_15 rfl hJ38 zs_386 (Nat.le_of_ble_eq_true rfl) zo_386_9 (by omega) (by omega) (zIR_s (zIR_s (zIR_s (zIR_s (zIR_s (zIR_s (zIR_k (by omega) (by omega)))))))) rfl rfl rfl ?_
        intro M42 hJ43 f44 hn45
        replace hb : zHd _ := hb (zi M42) (zi_zup hn45 f44 rfl rfl)
        refine w_en dX9_blame_18 rfl ?_
        show ZW _ _ _ _ _ _ _ (25, [some (.ref 386), some (.long a0), none], [], M42)
        refine w_lo dX9_must__25 rfl rfl rfl rfl ?_
        have f47 := (hn45 (386) 8 (Or.inr (by decide))).trans (f39)
        refine w_gf dX9_must__26 rfl hJ43.1.1 zs_386 f47 ?_
        refine w_ine_t dX9_must__29 (t := 36) rfl (by have := zt_1; omega) ?_
        refine w_en dX9_must__36 rfl ?_
        exact ⟨_, rfl, hJ43, hb⟩
      · skip
        replace hb : zHd _ := hb.2 h32
        refine w_ine_f dX9_isWord_14 (t := 21) rfl (by omega) ?_
        refine w_ic dX9_isWord_17 zi_1 ?_
        refine w_gt dX9_isWord_18 (t := 22) rfl ?_
        refine w_en dX9_isWord_22 rfl ?_
        show ZW _ _ _ _ _ _ _ (13, [some (.ref 386), some (.long a0), none], [.int 1], M0)
        refine w_ine_t dX9_must__13 (t := 25) rfl (by have := zt_1; omega) ?_
        refine w_lo dX9_must__25 rfl rfl rfl rfl ?_
        refine w_gf dX9_must__26 rfl hJ0.1.1 zs_386 f2 ?_
        refine w_ine_f dX9_must__29 (t := 36) rfl (by omega) ?_
        refine w_lo dX9_must__32 rfl rfl rfl rfl ?_
        refine w_iv dX9_must__33 rfl rfl (As := []) rfl rfl hJ0.1.1 zs_386 (Nat.le_of_ble_eq_true rfl) ?_
        obtain ⟨P50, hp51, hb⟩ := hb
        replace hb : zHd _ := hb
        refine ZV.imp (u_2310 hN hJ0.1 hp51) ?_
        rintro _ ⟨M48, rfl, hJ49, hq52⟩
        replace hb : zHd _ := hb  (zi M48) (zi_fr hJ49.2) hq52
        have hJ54 := zJ_trans hJ0 hJ49 (zSub_cons (fun _ _ h h' hk => zIR_e (by omega) (by omega) hk) (zSub_cons (fun _ _ h h' hk => zIR_s (zIR_e (by omega) (by omega) hk)) (zSub_cons (fun _ _ h h' hk => zIR_s (zIR_s (zIR_e (by omega) (by omega) hk))) (zSub_cons (fun _ _ h h' hk => zIR_s (zIR_s (zIR_s (zIR_e (by omega) (by omega) hk)))) (zSub_cons (fun _ _ h h' hk => zIR_s (zIR_s (zIR_s (zIR_s (zIR_e (by omega) (by omega) hk))))) (zSub_cons (fun _ _ h h' hk => zIR_s (zIR_s (zIR_s (zIR_s (zIR_s (zIR_e (by omega) (by omega) hk)))))) (zSub_cons (fun _ _ h h' hk => zIR_s (zIR_s (zIR_s (zIR_s (zIR_s (zIR_s (zIR_e (by omega) (by omega) hk))))))) zSub_nil)))))))
        show ZW _ _ _ _ _ _ _ (36, [some (.ref 386), some (.long a0), none], [], M48)
        refine w_en dX9_must__36 rfl ?_
        exact ⟨_, rfl, hJ54, hb⟩
set_option maxRecDepth 100000 in
theorem u_2322 {X : List Int32} {d N : Nat} {M0 : zM} (a0 : Int32) (a1 : Int32) (hN : N ≤ 600) (hB0 : zB N M0) {Q : Int → zF → Prop} (hb : b_2322 (zi M0) a0.toInt a1.toInt Q) : ZV X (d + 3) 2322 [.ref 386, .int a0, .int a1] M0 (zRI N [(386, 387, 3), (386, 387, 4), (386, 387, 5), (386, 387, 6), (386, 387, 7), (386, 387, 8), (386, 387, 9)] M0 (-2147483648) (2147483647) (fun v M' => Q v.toInt (zi M'))) := by
  have hJ0 : zJ N [(386, 387, 3), (386, 387, 4), (386, 387, 5), (386, 387, 6), (386, 387, 7), (386, 387, 8), (386, 387, 9)] M0 M0 := zJ_refl hB0
  refine ZV.of (ini := false) rfl (Nat.le_of_ble_eq_true rfl) (by decide +kernel) ?_
  unfold b_2322 at hb
  replace hb : zHd _ := hb
  show ZW _ _ _ _ _ _ _ (0, [some (.ref 386), some (.int a0), some (.int a1), none], [], M0)
  refine w_lo dX9_number_0 rfl rfl rfl rfl ?_
  refine w_gfi dX9_number_1 rfl hJ0.1 zs_386 (Nat.le_of_ble_eq_true rfl) zo_386_8 ?_
  intro x1 f2 h3 h4
  replace hb : zHd _ := hb x1.toInt (ziE f2) h3 h4
  rcases zcut (0 : Int) x1.toInt with h5 | h5
  · skip
    replace hb : zHd _ := hb.1 h5
    refine w_ile_f dX9_number_4 (t := 9) rfl (by omega) ?_
    refine w_ic dX9_number_7 zi_0 ?_
    refine w_en dX9_number_8 rfl ?_
    exact ⟨_, _, rfl, (zbot _), (ztop _), hJ0, hb⟩
  · skip
    replace hb : zHd _ := hb.2 h5
    refine w_ile_t dX9_number_4 (t := 9) rfl (by omega) ?_
    refine w_lo dX9_number_9 rfl rfl rfl rfl ?_
    refine w_gfi dX9_number_10 rfl hJ0.1 zs_386 (Nat.le_of_ble_eq_true rfl) zo_386_3 ?_
    intro x6 f7 h8 h9
    replace hb : zHd _ := hb x6.toInt (ziE f7) h8 h9
    refine w_ic dX9_number_13 zi_2 ?_
    rcases Int.decEq x6.toInt (2 : Int) with h10 | h10
    · skip
      replace hb : zHd _ := hb.1 h10
      refine w_ceq_f dX9_number_14 (t := 26) rfl (by have := zt_2; omega) ?_
      refine w_lo dX9_number_17 rfl rfl rfl rfl ?_
      refine w_ic dX9_number_18 zi_1 ?_
      refine w_lo dX9_number_19 rfl rfl rfl rfl ?_
      refine w_gfi dX9_number_20 rfl hJ0.1 zs_386 (Nat.le_of_ble_eq_true rfl) zo_386_4 ?_
      intro x11 f12 h13 h14
      replace hb : zHd _ := hb x11.toInt (ziE f12) h13 h14
      refine w_iv dX9_number_23 rfl rfl (As := [.int 1, .int x11]) rfl rfl hJ0.1.1 zs_386 (Nat.le_of_ble_eq_true rfl) ?_
      refine ZV.of (ini := false) rfl (Nat.le_of_ble_eq_true rfl) (by decide +kernel) ?_
      show ZW _ _ _ _ _ _ _ (0, [some (.ref 386), some (.int 1), some (.int x11)], [], M0)
      refine w_lo dX9_blame_0 rfl rfl rfl rfl ?_
      refine w_gf dX9_blame_1 rfl hJ0.1.1 zs_386 f2 ?_
      refine w_ile_t dX9_blame_4 (t := 8) rfl (by omega) ?_
      refine w_lo dX9_blame_8 rfl rfl rfl rfl ?_
      refine w_lo dX9_blame_9 rfl rfl rfl rfl ?_
      refine w_pfi dX9_blame_10 rfl hJ0 zs_386 (Nat.le_of_ble_eq_true rfl) zo_386_8 (by have := zt_1; omega) (by have := zt_1; omega) (zIR_s (zIR_s (zIR_s (zIR_s (zIR_s (zIR_k (by omega) (by omega))))))) rfl rfl rfl ?_
      intro M15 hJ16 f17 hn18
      replace hb : zHd _ := hb (zi M15) (zi_zup hn18 f17 rfl zt_1)
      refine w_lo dX9_blame_13 rfl rfl rfl rfl ?_
      refine w_lo dX9_blame_14 rfl rfl rfl rfl ?_
      refine w_pfi dX9_blame_15 rfl hJ16 zs_386 (Nat.le_of_ble_eq_true rfl) zo_386_9 (by omega) (by omega) (zIR_s (zIR_s (zIR_s (zIR_s (zIR_s (zIR_s (zIR_k (by omega) (by omega)))))))) rfl rfl rfl ?_
      intro M20 hJ21 f22 hn23
      replace hb : zHd _ := hb (zi M20) (zi_zup hn23 f22 rfl rfl)
      refine w_en dX9_blame_18 rfl ?_
      show ZW _ _ _ _ _ _ _ (26, [some (.ref 386), some (.int a0), some (.int a1), none], [], M20)
      refine w_lo dX9_number_26 rfl rfl rfl rfl ?_
      have f25 := (hn23 (386) 8 (Or.inr (by decide))).trans (f17)
      refine w_gf dX9_number_27 rfl hJ21.1.1 zs_386 f25 ?_
      refine w_ine_t dX9_number_30 (t := 54) rfl (by have := zt_1; omega) ?_
      refine w_lo dX9_number_54 rfl rfl rfl rfl ?_
      refine w_gfi dX9_number_55 rfl hJ21.1 zs_386 (Nat.le_of_ble_eq_true rfl) zo_386_6 ?_
      intro x26 f27 h28 h29
      replace hb : zHd _ := hb x26.toInt (ziE f27)
      refine w_lo (ml' := [some (.ref 386), some (.int a0), some (.int a1), some (.int x26)]) dX9_number_58 rfl rfl rfl rfl ?_
      refine w_lo dX9_number_59 rfl rfl rfl rfl ?_
      refine w_gf dX9_number_60 rfl hJ21.1.1 zs_386 f25 ?_
      refine w_ine_t dX9_number_63 (t := 70) rfl (by have := zt_1; omega) ?_
      refine w_lo dX9_number_70 rfl rfl rfl rfl ?_
      refine w_eni dX9_number_71 rfl rfl ?_
      exact ⟨_, _, rfl, (zbot _), (ztop _), hJ21, hb⟩
    · skip
      replace hb : zHd _ := hb.2 h10
      refine w_ceq_t dX9_number_14 (t := 26) rfl (by have := zt_2; omega) ?_
      refine w_lo dX9_number_26 rfl rfl rfl rfl ?_
      refine w_gf dX9_number_27 rfl hJ0.1.1 zs_386 f2 ?_
      refine w_ine_f dX9_number_30 (t := 54) rfl (by omega) ?_
      refine w_lo dX9_number_33 rfl rfl rfl rfl ?_
      refine w_gfi dX9_number_34 rfl hJ0.1 zs_386 (Nat.le_of_ble_eq_true rfl) zo_386_6 ?_
      intro x30 f31 h32 h33
      replace hb : zHd _ := hb x30.toInt (ziE f31)
      refine w_lo dX9_number_37 rfl rfl rfl rfl ?_
      refine w_lo dX9_number_38 rfl rfl rfl rfl ?_
      refine w_ss dX9_number_39 rfl rfl (As := [.int x30, .int a0, .int a1]) rfl rfl (Nat.le_of_ble_eq_true rfl) ?_
      refine ZV.of (ini := false) rfl (Nat.le_of_ble_eq_true rfl) (by decide +kernel) ?_
      show ZW _ _ _ _ _ _ _ (0, [some (.int x30), some (.int a0), some (.int a1)], [], M0)
      refine w_lo dX9_is_0 rfl rfl rfl rfl ?_
      refine w_lo dX9_is_1 rfl rfl rfl rfl ?_
      rcases zcut x30.toInt a0.toInt with h34 | h34
      · skip
        replace hb : zHd _ := hb.1 h34
        refine w_clt_t dX9_is_2 (t := 14) rfl (by omega) ?_
        refine w_ic dX9_is_14 zi_0 ?_
        refine w_en dX9_is_15 rfl ?_
        show ZW _ _ _ _ _ _ _ (42, [some (.ref 386), some (.int a0), some (.int a1), none], [.int 0], M0)
        refine w_ine_f dX9_number_42 (t := 54) rfl (by have := zt_0; omega) ?_
        refine w_lo dX9_number_45 rfl rfl rfl rfl ?_
        refine w_ic dX9_number_46 zi_4 ?_
        refine w_lo dX9_number_47 rfl rfl rfl rfl ?_
        refine w_gfi dX9_number_48 rfl hJ0.1 zs_386 (Nat.le_of_ble_eq_true rfl) zo_386_4 ?_
        intro x35 f36 h37 h38
        replace hb : zHd _ := hb x35.toInt (ziE f36) h37 h38
        refine w_iv dX9_number_51 rfl rfl (As := [.int 4, .int x35]) rfl rfl hJ0.1.1 zs_386 (Nat.le_of_ble_eq_true rfl) ?_
        refine ZV.of (ini := false) rfl (Nat.le_of_ble_eq_true rfl) (by decide +kernel) ?_
        show ZW _ _ _ _ _ _ _ (0, [some (.ref 386), some (.int 4), some (.int x35)], [], M0)
        refine w_lo dX9_blame_0 rfl rfl rfl rfl ?_
        refine w_gf dX9_blame_1 rfl hJ0.1.1 zs_386 f2 ?_
        refine w_ile_t dX9_blame_4 (t := 8) rfl (by omega) ?_
        refine w_lo dX9_blame_8 rfl rfl rfl rfl ?_
        refine w_lo dX9_blame_9 rfl rfl rfl rfl ?_
        refine w_pfi dX9_blame_10 rfl hJ0 zs_386 (Nat.le_of_ble_eq_true rfl) zo_386_8 (by have := zt_4; omega) (by have := zt_4; omega) (zIR_s (zIR_s (zIR_s (zIR_s (zIR_s (zIR_k (by omega) (by omega))))))) rfl rfl rfl ?_
        intro M39 hJ40 f41 hn42
        replace hb : zHd _ := hb (zi M39) (zi_zup hn42 f41 rfl zt_4)
        refine w_lo dX9_blame_13 rfl rfl rfl rfl ?_
        refine w_lo dX9_blame_14 rfl rfl rfl rfl ?_
        refine w_pfi dX9_blame_15 rfl hJ40 zs_386 (Nat.le_of_ble_eq_true rfl) zo_386_9 (by omega) (by omega) (zIR_s (zIR_s (zIR_s (zIR_s (zIR_s (zIR_s (zIR_k (by omega) (by omega)))))))) rfl rfl rfl ?_
        intro M44 hJ45 f46 hn47
        replace hb : zHd _ := hb (zi M44) (zi_zup hn47 f46 rfl rfl)
        refine w_en dX9_blame_18 rfl ?_
        show ZW _ _ _ _ _ _ _ (54, [some (.ref 386), some (.int a0), some (.int a1), none], [], M44)
        refine w_lo dX9_number_54 rfl rfl rfl rfl ?_
        have f49 := (hn47 (386) 6 (Or.inr (by decide))).trans ((hn42 (386) 6 (Or.inr (by decide))).trans (f31))
        refine w_gf dX9_number_55 rfl hJ45.1.1 zs_386 f49 ?_
        refine w_lo (ml' := [some (.ref 386), some (.int a0), some (.int a1), some (.int x30)]) dX9_number_58 rfl rfl rfl rfl ?_
        refine w_lo dX9_number_59 rfl rfl rfl rfl ?_
        have f50 := (hn47 (386) 8 (Or.inr (by decide))).trans (f41)
        refine w_gf dX9_number_60 rfl hJ45.1.1 zs_386 f50 ?_
        refine w_ine_t dX9_number_63 (t := 70) rfl (by have := zt_4; omega) ?_
        refine w_lo dX9_number_70 rfl rfl rfl rfl ?_
        refine w_eni dX9_number_71 rfl rfl ?_
        exact ⟨_, _, rfl, (zbot _), (ztop _), hJ45, hb⟩
      · skip
        replace hb : zHd _ := hb.2 h34
        refine w_clt_f dX9_is_2 (t := 14) rfl (by omega) ?_
        refine w_lo dX9_is_5 rfl rfl rfl rfl ?_
        refine w_lo dX9_is_6 rfl rfl rfl rfl ?_
        rcases zcut a1.toInt x30.toInt with h51 | h51
        · skip
          replace hb : zHd _ := hb.1 h51
          refine w_cgt_t dX9_is_7 (t := 14) rfl (by omega) ?_
          refine w_ic dX9_is_14 zi_0 ?_
          refine w_en dX9_is_15 rfl ?_
          show ZW _ _ _ _ _ _ _ (42, [some (.ref 386), some (.int a0), some (.int a1), none], [.int 0], M0)
          refine w_ine_f dX9_number_42 (t := 54) rfl (by have := zt_0; omega) ?_
          refine w_lo dX9_number_45 rfl rfl rfl rfl ?_
          refine w_ic dX9_number_46 zi_4 ?_
          refine w_lo dX9_number_47 rfl rfl rfl rfl ?_
          refine w_gfi dX9_number_48 rfl hJ0.1 zs_386 (Nat.le_of_ble_eq_true rfl) zo_386_4 ?_
          intro x52 f53 h54 h55
          replace hb : zHd _ := hb x52.toInt (ziE f53) h54 h55
          refine w_iv dX9_number_51 rfl rfl (As := [.int 4, .int x52]) rfl rfl hJ0.1.1 zs_386 (Nat.le_of_ble_eq_true rfl) ?_
          refine ZV.of (ini := false) rfl (Nat.le_of_ble_eq_true rfl) (by decide +kernel) ?_
          show ZW _ _ _ _ _ _ _ (0, [some (.ref 386), some (.int 4), some (.int x52)], [], M0)
          refine w_lo dX9_blame_0 rfl rfl rfl rfl ?_
          refine w_gf dX9_blame_1 rfl hJ0.1.1 zs_386 f2 ?_
          refine w_ile_t dX9_blame_4 (t := 8) rfl (by omega) ?_
          refine w_lo dX9_blame_8 rfl rfl rfl rfl ?_
          refine w_lo dX9_blame_9 rfl rfl rfl rfl ?_
          refine w_pfi dX9_blame_10 rfl hJ0 zs_386 (Nat.le_of_ble_eq_true rfl) zo_386_8 (by have := zt_4; omega) (by have := zt_4; omega) (zIR_s (zIR_s (zIR_s (zIR_s (zIR_s (zIR_k (by omega) (by omega))))))) rfl rfl rfl ?_
          intro M56 hJ57 f58 hn59
          replace hb : zHd _ := hb (zi M56) (zi_zup hn59 f58 rfl zt_4)
          refine w_lo dX9_blame_13 rfl rfl rfl rfl ?_
          refine w_lo dX9_blame_14 rfl rfl rfl rfl ?_
          refine w_pfi dX9_blame_15 rfl hJ57 zs_386 (Nat.le_of_ble_eq_true rfl) zo_386_9 (by omega) (by omega) (zIR_s (zIR_s (zIR_s (zIR_s (zIR_s (zIR_s (zIR_k (by omega) (by omega)))))))) rfl rfl rfl ?_
          intro M61 hJ62 f63 hn64
          replace hb : zHd _ := hb (zi M61) (zi_zup hn64 f63 rfl rfl)
          refine w_en dX9_blame_18 rfl ?_
          show ZW _ _ _ _ _ _ _ (54, [some (.ref 386), some (.int a0), some (.int a1), none], [], M61)
          refine w_lo dX9_number_54 rfl rfl rfl rfl ?_
          have f66 := (hn64 (386) 6 (Or.inr (by decide))).trans ((hn59 (386) 6 (Or.inr (by decide))).trans (f31))
          refine w_gf dX9_number_55 rfl hJ62.1.1 zs_386 f66 ?_
          refine w_lo (ml' := [some (.ref 386), some (.int a0), some (.int a1), some (.int x30)]) dX9_number_58 rfl rfl rfl rfl ?_
          refine w_lo dX9_number_59 rfl rfl rfl rfl ?_
          have f67 := (hn64 (386) 8 (Or.inr (by decide))).trans (f58)
          refine w_gf dX9_number_60 rfl hJ62.1.1 zs_386 f67 ?_
          refine w_ine_t dX9_number_63 (t := 70) rfl (by have := zt_4; omega) ?_
          refine w_lo dX9_number_70 rfl rfl rfl rfl ?_
          refine w_eni dX9_number_71 rfl rfl ?_
          exact ⟨_, _, rfl, (zbot _), (ztop _), hJ62, hb⟩
        · skip
          replace hb : zHd _ := hb.2 h51
          refine w_cgt_f dX9_is_7 (t := 14) rfl (by omega) ?_
          refine w_ic dX9_is_10 zi_1 ?_
          refine w_gt dX9_is_11 (t := 15) rfl ?_
          refine w_en dX9_is_15 rfl ?_
          show ZW _ _ _ _ _ _ _ (42, [some (.ref 386), some (.int a0), some (.int a1), none], [.int 1], M0)
          refine w_ine_t dX9_number_42 (t := 54) rfl (by have := zt_1; omega) ?_
          refine w_lo dX9_number_54 rfl rfl rfl rfl ?_
          refine w_gf dX9_number_55 rfl hJ0.1.1 zs_386 f31 ?_
          refine w_lo (ml' := [some (.ref 386), some (.int a0), some (.int a1), some (.int x30)]) dX9_number_58 rfl rfl rfl rfl ?_
          refine w_lo dX9_number_59 rfl rfl rfl rfl ?_
          refine w_gf dX9_number_60 rfl hJ0.1.1 zs_386 f2 ?_
          refine w_ine_f dX9_number_63 (t := 70) rfl (by omega) ?_
          refine w_lo dX9_number_66 rfl rfl rfl rfl ?_
          refine w_iv dX9_number_67 rfl rfl (As := []) rfl rfl hJ0.1.1 zs_386 (Nat.le_of_ble_eq_true rfl) ?_
          obtain ⟨P70, hp71, hb⟩ := hb
          replace hb : zHd _ := hb
          refine ZV.imp (u_2310 hN hJ0.1 hp71) ?_
          rintro _ ⟨M68, rfl, hJ69, hq72⟩
          replace hb : zHd _ := hb  (zi M68) (zi_fr hJ69.2) hq72
          have hJ74 := zJ_trans hJ0 hJ69 (zSub_cons (fun _ _ h h' hk => zIR_e (by omega) (by omega) hk) (zSub_cons (fun _ _ h h' hk => zIR_s (zIR_e (by omega) (by omega) hk)) (zSub_cons (fun _ _ h h' hk => zIR_s (zIR_s (zIR_e (by omega) (by omega) hk))) (zSub_cons (fun _ _ h h' hk => zIR_s (zIR_s (zIR_s (zIR_e (by omega) (by omega) hk)))) (zSub_cons (fun _ _ h h' hk => zIR_s (zIR_s (zIR_s (zIR_s (zIR_e (by omega) (by omega) hk))))) (zSub_cons (fun _ _ h h' hk => zIR_s (zIR_s (zIR_s (zIR_s (zIR_s (zIR_e (by omega) (by omega) hk)))))) (zSub_cons (fun _ _ h h' hk => zIR_s (zIR_s (zIR_s (zIR_s (zIR_s (zIR_s (zIR_e (by omega) (by omega) hk))))))) zSub_nil)))))))
          show ZW _ _ _ _ _ _ _ (70, [some (.ref 386), some (.int a0), some (.int a1), some (.int x30)], [], M68)
          refine w_lo dX9_number_70 rfl rfl rfl rfl ?_
          refine w_eni dX9_number_71 rfl rfl ?_
          exact ⟨_, _, rfl, (zbot _), (ztop _), hJ74, hb⟩
set_option maxRecDepth 100000 in
theorem u_2324 {X : List Int32} {d N : Nat} {M0 : zM} (a0 : Int32) (hN : N ≤ 600) (hB0 : zB N M0) {Q : zF → Prop} (hb : b_2324 (zi M0) a0.toInt Q) : ZV X (d + 3) 2324 [.ref 386, .int a0] M0 (zRV N [(394, 395, 1000), (386, 387, 3), (386, 387, 4), (386, 387, 5), (386, 387, 6), (386, 387, 7), (386, 387, 8), (386, 387, 9)] M0 (fun M' => Q (zi M'))) := by
  have hJ0 : zJ N [(394, 395, 1000), (386, 387, 3), (386, 387, 4), (386, 387, 5), (386, 387, 6), (386, 387, 7), (386, 387, 8), (386, 387, 9)] M0 M0 := zJ_refl hB0
  refine ZV.of (ini := false) rfl (Nat.le_of_ble_eq_true rfl) (by decide +kernel) ?_
  obtain ⟨I7, I67, hbE, hb7, hb67⟩ := hb
  replace hbE : zHd _ := hbE
  replace hb7 : zHd _ := hb7
  replace hb67 : zHd _ := hb67
  have main : ∀ n : Nat,
      (∀ (M : zM) (v7_1 : Int32) (o7_2 : Option Value), zJ N [(394, 395, 1000), (386, 387, 3), (386, 387, 4), (386, 387, 5), (386, 387, 6), (386, 387, 7), (386, 387, 8), (386, 387, 9)] M0 M → ((0 : Int) ≤ v7_1.toInt) → (v7_1.toInt ≤ 23) → I7 n (zi M) v7_1.toInt → ZW X (d + 2) 9 false none cX9_marking (zRV N [(394, 395, 1000), (386, 387, 3), (386, 387, 4), (386, 387, 5), (386, 387, 6), (386, 387, 7), (386, 387, 8), (386, 387, 9)] M0 (fun M' => Q (zi M'))) (7, [some (.ref 386), some (.int v7_1), o7_2], [], M)) ∧
      (∀ (M : zM) (v67_1 : Int32) (v67_2 : Int32), zJ N [(394, 395, 1000), (386, 387, 3), (386, 387, 4), (386, 387, 5), (386, 387, 6), (386, 387, 7), (386, 387, 8), (386, 387, 9)] M0 M → ((0 : Int) ≤ v67_1.toInt) → (v67_1.toInt ≤ 23) → ((0 : Int) ≤ v67_2.toInt) → (v67_2.toInt ≤ 2) → I67 n (zi M) v67_1.toInt v67_2.toInt → ZW X (d + 2) 9 false none cX9_marking (zRV N [(394, 395, 1000), (386, 387, 3), (386, 387, 4), (386, 387, 5), (386, 387, 6), (386, 387, 7), (386, 387, 8), (386, 387, 9)] M0 (fun M' => Q (zi M'))) (67, [some (.ref 386), some (.int v67_1), some (.int v67_2)], [], M)) := by
    intro n
    induction n using Nat.strongRecOn with
    | _ n ih =>
      refine ⟨?_, ?_⟩
      · intro M v7_1 o7_2 hJ v7_10 v7_11 hI
        have hb : zHd _ := hb7 n (zi M) v7_1.toInt (zi_fr hJ.2) v7_10 v7_11 hI
        refine w_lo dX9_marking_7 rfl rfl rfl rfl ?_
        refine w_gfi dX9_marking_8 rfl hJ.1 zs_386 (Nat.le_of_ble_eq_true rfl) zo_386_8 ?_
        intro x1 f2 h3 h4
        replace hb : zHd _ := hb x1.toInt (ziE f2) h3 h4
        rcases Int.decEq x1.toInt (0 : Int) with h5 | h5
        · skip
          replace hb : zHd _ := hb.1 h5
          refine w_ine_t dX9_marking_11 (t := 100) rfl (by omega) ?_
          refine w_en dX9_marking_100 rfl ?_
          exact ⟨_, rfl, hJ, hb⟩
        · skip
          replace hb : zHd _ := hb.2 h5
          refine w_ine_f dX9_marking_11 (t := 100) rfl (by omega) ?_
          refine w_lo dX9_marking_14 rfl rfl rfl rfl ?_
          refine w_gfi dX9_marking_15 rfl hJ.1 zs_386 (Nat.le_of_ble_eq_true rfl) zo_386_3 ?_
          intro x6 f7 h8 h9
          replace hb : zHd _ := hb x6.toInt (ziE f7) h8 h9
          refine w_ic dX9_marking_18 zi_1 ?_
          rcases Int.decEq x6.toInt (1 : Int) with h10 | h10
          · skip
            replace hb : zHd _ := hb.1 h10
            refine w_cne_t dX9_marking_19 (t := 100) rfl (by have := zt_1; omega) ?_
            refine w_en dX9_marking_100 rfl ?_
            exact ⟨_, rfl, hJ, hb⟩
          · skip
            replace hb : zHd _ := hb.2 h10
            refine w_cne_f dX9_marking_19 (t := 100) rfl (by have := zt_1; omega) ?_
            refine w_lo dX9_marking_22 rfl rfl rfl rfl ?_
            refine w_me (st' := [.long (126918153364851 : Int64), .ref 386]) dX9_marking_23 rfl rfl rfl rfl rfl ?_
            refine w_iv dX9_marking_26 rfl rfl (As := [.long (126918153364851 : Int64)]) rfl rfl hJ.1.1 zs_386 (Nat.le_of_ble_eq_true rfl) ?_
            refine ZV.of (ini := false) rfl (Nat.le_of_ble_eq_true rfl) (by decide +kernel) ?_
            show ZW _ _ _ _ _ _ _ (0, [some (.ref 386), some (.long (126918153364851 : Int64)), none], [], M)
            refine w_lo dX9_isWord_0 rfl rfl rfl rfl ?_
            refine w_gf dX9_isWord_1 rfl hJ.1.1 zs_386 f7 ?_
            refine w_ic dX9_isWord_4 zi_1 ?_
            refine w_cne_f dX9_isWord_5 (t := 21) rfl (by have := zt_1; omega) ?_
            refine w_lo dX9_isWord_8 rfl rfl rfl rfl ?_
            refine w_gfl dX9_isWord_9 rfl hJ.1 zs_386 (Nat.le_of_ble_eq_true rfl) zo_386_7 ?_
            intro y14 f11 h12 h13
            replace hb : zHd _ := hb y14.toInt (ziL f11)
            refine w_lo dX9_isWord_12 rfl rfl rfl rfl ?_
            refine w_lcm dX9_isWord_13 ?_
            intro x15 h16
            have := ztl_126918153364851
            replace hb : zHd _ := hb x15.toInt (by omega)
            rcases Int.decEq x15.toInt (0 : Int) with h17 | h17
            · skip
              replace hb : zHd _ := hb.1 h17
              refine w_ine_t dX9_isWord_14 (t := 21) rfl (by omega) ?_
              refine w_ic dX9_isWord_21 zi_0 ?_
              refine w_en dX9_isWord_22 rfl ?_
              show ZW _ _ _ _ _ _ _ (29, [some (.ref 386), some (.int v7_1), o7_2], [.int 0], M)
              refine w_ieq_t dX9_marking_29 (t := 36) rfl (by have := zt_0; omega) ?_
              refine w_lo dX9_marking_36 rfl rfl rfl rfl ?_
              refine w_me (st' := [.long (444133766004 : Int64), .ref 386]) dX9_marking_37 rfl rfl rfl rfl rfl ?_
              refine w_iv dX9_marking_40 rfl rfl (As := [.long (444133766004 : Int64)]) rfl rfl hJ.1.1 zs_386 (Nat.le_of_ble_eq_true rfl) ?_
              refine ZV.of (ini := false) rfl (Nat.le_of_ble_eq_true rfl) (by decide +kernel) ?_
              show ZW _ _ _ _ _ _ _ (0, [some (.ref 386), some (.long (444133766004 : Int64)), none], [], M)
              refine w_lo dX9_isWord_0 rfl rfl rfl rfl ?_
              refine w_gf dX9_isWord_1 rfl hJ.1.1 zs_386 f7 ?_
              refine w_ic dX9_isWord_4 zi_1 ?_
              refine w_cne_f dX9_isWord_5 (t := 21) rfl (by have := zt_1; omega) ?_
              refine w_lo dX9_isWord_8 rfl rfl rfl rfl ?_
              refine w_gf dX9_isWord_9 rfl hJ.1.1 zs_386 f11 ?_
              refine w_lo dX9_isWord_12 rfl rfl rfl rfl ?_
              refine w_lcm dX9_isWord_13 ?_
              intro x18 h19
              have := ztl_444133766004
              replace hb : zHd _ := hb x18.toInt (by omega)
              rcases Int.decEq x18.toInt (0 : Int) with h20 | h20
              · skip
                replace hb : zHd _ := hb.1 h20
                refine w_ine_t dX9_isWord_14 (t := 21) rfl (by omega) ?_
                refine w_ic dX9_isWord_21 zi_0 ?_
                refine w_en dX9_isWord_22 rfl ?_
                show ZW _ _ _ _ _ _ _ (43, [some (.ref 386), some (.int v7_1), o7_2], [.int 0], M)
                refine w_ieq_t dX9_marking_43 (t := 50) rfl (by have := zt_0; omega) ?_
                refine w_ic dX9_marking_50 zi_0 ?_
                refine w_lo (ml' := [some (.ref 386), some (.int v7_1), some (.int 0)]) dX9_marking_51 rfl rfl rfl rfl ?_
                refine w_lo dX9_marking_52 rfl rfl rfl rfl ?_
                refine w_ieq_t dX9_marking_53 (t := 67) rfl (by have := zt_0; omega) ?_
                obtain ⟨m, hm, hI⟩ := hb
                exact (ih m hm).2 M v7_1 0 hJ (by omega) (by omega) (by have := zt_0; omega) (by have := zt_0; omega) hI
              · skip
                replace hb : zHd _ := hb.2 h20
                refine w_ine_f dX9_isWord_14 (t := 21) rfl (by omega) ?_
                refine w_ic dX9_isWord_17 zi_1 ?_
                refine w_gt dX9_isWord_18 (t := 22) rfl ?_
                refine w_en dX9_isWord_22 rfl ?_
                show ZW _ _ _ _ _ _ _ (43, [some (.ref 386), some (.int v7_1), o7_2], [.int 1], M)
                refine w_ieq_f dX9_marking_43 (t := 50) rfl (by have := zt_1; omega) ?_
                refine w_ic dX9_marking_46 zi_2 ?_
                refine w_gt dX9_marking_47 (t := 51) rfl ?_
                refine w_lo (ml' := [some (.ref 386), some (.int v7_1), some (.int 2)]) dX9_marking_51 rfl rfl rfl rfl ?_
                refine w_lo dX9_marking_52 rfl rfl rfl rfl ?_
                refine w_ieq_f dX9_marking_53 (t := 67) rfl (by have := zt_2; omega) ?_
                refine w_lo dX9_marking_56 rfl rfl rfl rfl ?_
                refine w_gf dX9_marking_57 rfl hJ.1.1 zs_386 (zr_386_19 hJ.1) ?_
                refine w_lo dX9_marking_60 rfl rfl rfl rfl ?_
                refine w_iai dX9_marking_61 hJ.1 zs_394 (by omega) (by omega) zu_394 ?_
                intro x24 f21 h22 h23
                replace hb : zHd _ := hb x24.toInt (ziEk f21 rfl) h22 h23
                refine w_lo dX9_marking_62 rfl rfl rfl rfl ?_
                refine w_andE dX9_marking_63 (m := 2) zt_2 (by omega) ?_
                intro x26 h27 h28 h25
                replace hb : zHd _ := hb x26.toInt (by rw [h25, zxand_i, zt_2]) h27 h28
                rcases Int.decEq x26.toInt (0 : Int) with h29 | h29
                · skip
                  replace hb : zHd _ := hb.1 h29
                  refine w_ieq_f dX9_marking_64 (t := 76) rfl (by omega) ?_
                  obtain ⟨m, hm, hI⟩ := hb
                  exact (ih m hm).2 M v7_1 2 hJ (by omega) (by omega) (by have := zt_2; omega) (by have := zt_2; omega) hI
                · skip
                  replace hb : zHd _ := hb.2 h29
                  refine w_ieq_t dX9_marking_64 (t := 76) rfl (by omega) ?_
                  refine w_lo dX9_marking_76 rfl rfl rfl rfl ?_
                  refine w_gf dX9_marking_77 rfl hJ.1.1 zs_386 (zr_386_19 hJ.1) ?_
                  refine w_lo dX9_marking_80 rfl rfl rfl rfl ?_
                  refine w_pu dX9_marking_81 rfl rfl ?_
                  refine w_ia dX9_marking_82 hJ.1.1 zs_394 (znat (by omega)) f21 ?_
                  refine w_lo dX9_marking_83 rfl rfl rfl rfl ?_
                  refine w_orE dX9_marking_84 (m := 2) (by decide) (by omega) (by omega) (by have := zt_2; omega) (by have := zt_2; omega) ?_
                  intro x34 h35 h36 h33
                  have : (2 : Int) ^ 2 = 4 := by decide
                  replace hb : zHd _ := hb x34.toInt (by rw [h33, zxor_i, zt_2]) h35 (by omega)
                  refine w_isi dX9_marking_85 hJ zs_394 (by omega) (by omega) zu_394 (by omega) (by omega) (zIR_a (by omega) (by omega)) ?_
                  intro M37 hJ38 f39 hn40
                  replace hb : zHd _ := hb (zi M37) (zi_zup hn40 f39 rfl rfl)
                  refine w_lo dX9_marking_86 rfl rfl rfl rfl ?_
                  have f42 := (hn40 (386) 8 (Or.inl (by omega))).trans (f2)
                  refine w_gf dX9_marking_87 rfl hJ38.1.1 zs_386 f42 ?_
                  refine w_ine_f dX9_marking_90 (t := 97) rfl (by omega) ?_
                  refine w_lo dX9_marking_93 rfl rfl rfl rfl ?_
                  refine w_iv dX9_marking_94 rfl rfl (As := []) rfl rfl hJ38.1.1 zs_386 (Nat.le_of_ble_eq_true rfl) ?_
                  obtain ⟨P45, hp46, hb⟩ := hb
                  replace hb : zHd _ := hb
                  refine ZV.imp (u_2310 hN hJ38.1 hp46) ?_
                  rintro _ ⟨M43, rfl, hJ44, hq47⟩
                  replace hb : zHd _ := hb  (zi M43) (zi_fr hJ44.2) hq47
                  have hJ49 := zJ_trans hJ38 hJ44 (zSub_cons (fun _ _ h h' hk => zIR_s (zIR_e (by omega) (by omega) hk)) (zSub_cons (fun _ _ h h' hk => zIR_s (zIR_s (zIR_e (by omega) (by omega) hk))) (zSub_cons (fun _ _ h h' hk => zIR_s (zIR_s (zIR_s (zIR_e (by omega) (by omega) hk)))) (zSub_cons (fun _ _ h h' hk => zIR_s (zIR_s (zIR_s (zIR_s (zIR_e (by omega) (by omega) hk))))) (zSub_cons (fun _ _ h h' hk => zIR_s (zIR_s (zIR_s (zIR_s (zIR_s (zIR_e (by omega) (by omega) hk)))))) (zSub_cons (fun _ _ h h' hk => zIR_s (zIR_s (zIR_s (zIR_s (zIR_s (zIR_s (zIR_e (by omega) (by omega) hk))))))) (zSub_cons (fun _ _ h h' hk => zIR_s (zIR_s (zIR_s (zIR_s (zIR_s (zIR_s (zIR_s (zIR_e (by omega) (by omega) hk)))))))) zSub_nil)))))))
                  show ZW _ _ _ _ _ _ _ (97, [some (.ref 386), some (.int v7_1), some (.int 2)], [], M43)
                  refine w_gt dX9_marking_97 (t := 7) rfl ?_
                  obtain ⟨m, hm, hI⟩ := hb
                  exact (ih m hm).1 M43 v7_1 (some (.int 2)) hJ49 (by omega) (by omega) hI
            · skip
              replace hb : zHd _ := hb.2 h17
              refine w_ine_f dX9_isWord_14 (t := 21) rfl (by omega) ?_
              refine w_ic dX9_isWord_17 zi_1 ?_
              refine w_gt dX9_isWord_18 (t := 22) rfl ?_
              refine w_en dX9_isWord_22 rfl ?_
              show ZW _ _ _ _ _ _ _ (29, [some (.ref 386), some (.int v7_1), o7_2], [.int 1], M)
              refine w_ieq_f dX9_marking_29 (t := 36) rfl (by have := zt_1; omega) ?_
              refine w_ic dX9_marking_32 zi_1 ?_
              refine w_gt dX9_marking_33 (t := 51) rfl ?_
              refine w_lo (ml' := [some (.ref 386), some (.int v7_1), some (.int 1)]) dX9_marking_51 rfl rfl rfl rfl ?_
              refine w_lo dX9_marking_52 rfl rfl rfl rfl ?_
              refine w_ieq_f dX9_marking_53 (t := 67) rfl (by have := zt_1; omega) ?_
              refine w_lo dX9_marking_56 rfl rfl rfl rfl ?_
              refine w_gf dX9_marking_57 rfl hJ.1.1 zs_386 (zr_386_19 hJ.1) ?_
              refine w_lo dX9_marking_60 rfl rfl rfl rfl ?_
              refine w_iai dX9_marking_61 hJ.1 zs_394 (by omega) (by omega) zu_394 ?_
              intro x53 f50 h51 h52
              replace hb : zHd _ := hb x53.toInt (ziEk f50 rfl) h51 h52
              refine w_lo dX9_marking_62 rfl rfl rfl rfl ?_
              refine w_andE dX9_marking_63 (m := 1) zt_1 (by omega) ?_
              intro x55 h56 h57 h54
              replace hb : zHd _ := hb x55.toInt (by rw [h54, zxand_i, zt_1]) h56 h57
              rcases Int.decEq x55.toInt (0 : Int) with h58 | h58
              · skip
                replace hb : zHd _ := hb.1 h58
                refine w_ieq_f dX9_marking_64 (t := 76) rfl (by omega) ?_
                obtain ⟨m, hm, hI⟩ := hb
                exact (ih m hm).2 M v7_1 1 hJ (by omega) (by omega) (by have := zt_1; omega) (by have := zt_1; omega) hI
              · skip
                replace hb : zHd _ := hb.2 h58
                refine w_ieq_t dX9_marking_64 (t := 76) rfl (by omega) ?_
                refine w_lo dX9_marking_76 rfl rfl rfl rfl ?_
                refine w_gf dX9_marking_77 rfl hJ.1.1 zs_386 (zr_386_19 hJ.1) ?_
                refine w_lo dX9_marking_80 rfl rfl rfl rfl ?_
                refine w_pu dX9_marking_81 rfl rfl ?_
                refine w_ia dX9_marking_82 hJ.1.1 zs_394 (znat (by omega)) f50 ?_
                refine w_lo dX9_marking_83 rfl rfl rfl rfl ?_
                refine w_orE dX9_marking_84 (m := 2) (by decide) (by omega) (by omega) (by have := zt_1; omega) (by have := zt_1; omega) ?_
                intro x63 h64 h65 h62
                have : (2 : Int) ^ 2 = 4 := by decide
                replace hb : zHd _ := hb x63.toInt (by rw [h62, zxor_i, zt_1]) h64 (by omega)
                refine w_isi dX9_marking_85 hJ zs_394 (by omega) (by omega) zu_394 (by omega) (by omega) (zIR_a (by omega) (by omega)) ?_
                intro M66 hJ67 f68 hn69
                replace hb : zHd _ := hb (zi M66) (zi_zup hn69 f68 rfl rfl)
                refine w_lo dX9_marking_86 rfl rfl rfl rfl ?_
                have f71 := (hn69 (386) 8 (Or.inl (by omega))).trans (f2)
                refine w_gf dX9_marking_87 rfl hJ67.1.1 zs_386 f71 ?_
                refine w_ine_f dX9_marking_90 (t := 97) rfl (by omega) ?_
                refine w_lo dX9_marking_93 rfl rfl rfl rfl ?_
                refine w_iv dX9_marking_94 rfl rfl (As := []) rfl rfl hJ67.1.1 zs_386 (Nat.le_of_ble_eq_true rfl) ?_
                obtain ⟨P74, hp75, hb⟩ := hb
                replace hb : zHd _ := hb
                refine ZV.imp (u_2310 hN hJ67.1 hp75) ?_
                rintro _ ⟨M72, rfl, hJ73, hq76⟩
                replace hb : zHd _ := hb  (zi M72) (zi_fr hJ73.2) hq76
                have hJ78 := zJ_trans hJ67 hJ73 (zSub_cons (fun _ _ h h' hk => zIR_s (zIR_e (by omega) (by omega) hk)) (zSub_cons (fun _ _ h h' hk => zIR_s (zIR_s (zIR_e (by omega) (by omega) hk))) (zSub_cons (fun _ _ h h' hk => zIR_s (zIR_s (zIR_s (zIR_e (by omega) (by omega) hk)))) (zSub_cons (fun _ _ h h' hk => zIR_s (zIR_s (zIR_s (zIR_s (zIR_e (by omega) (by omega) hk))))) (zSub_cons (fun _ _ h h' hk => zIR_s (zIR_s (zIR_s (zIR_s (zIR_s (zIR_e (by omega) (by omega) hk)))))) (zSub_cons (fun _ _ h h' hk => zIR_s (zIR_s (zIR_s (zIR_s (zIR_s (zIR_s (zIR_e (by omega) (by omega) hk))))))) (zSub_cons (fun _ _ h h' hk => zIR_s (zIR_s (zIR_s (zIR_s (zIR_s (zIR_s (zIR_s (zIR_e (by omega) (by omega) hk)))))))) zSub_nil)))))))
                show ZW _ _ _ _ _ _ _ (97, [some (.ref 386), some (.int v7_1), some (.int 1)], [], M72)
                refine w_gt dX9_marking_97 (t := 7) rfl ?_
                obtain ⟨m, hm, hI⟩ := hb
                exact (ih m hm).1 M72 v7_1 (some (.int 1)) hJ78 (by omega) (by omega) hI
      · intro M v67_1 v67_2 hJ v67_10 v67_11 v67_20 v67_21 hI
        have hb : zHd _ := hb67 n (zi M) v67_1.toInt v67_2.toInt (zi_fr hJ.2) v67_10 v67_11 v67_20 v67_21 hI
        refine w_lo dX9_marking_67 rfl rfl rfl rfl ?_
        refine w_ic dX9_marking_68 zi_1 ?_
        refine w_lo dX9_marking_69 rfl rfl rfl rfl ?_
        refine w_gfi dX9_marking_70 rfl hJ.1 zs_386 (Nat.le_of_ble_eq_true rfl) zo_386_4 ?_
        intro x79 f80 h81 h82
        replace hb : zHd _ := hb x79.toInt (ziE f80) h81 h82
        refine w_iv dX9_marking_73 rfl rfl (As := [.int 1, .int x79]) rfl rfl hJ.1.1 zs_386 (Nat.le_of_ble_eq_true rfl) ?_
        refine ZV.of (ini := false) rfl (Nat.le_of_ble_eq_true rfl) (by decide +kernel) ?_
        show ZW _ _ _ _ _ _ _ (0, [some (.ref 386), some (.int 1), some (.int x79)], [], M)
        refine w_lo dX9_blame_0 rfl rfl rfl rfl ?_
        refine w_gfi dX9_blame_1 rfl hJ.1 zs_386 (Nat.le_of_ble_eq_true rfl) zo_386_8 ?_
        intro x83 f84 h85 h86
        replace hb : zHd _ := hb x83.toInt (ziE f84) h85 h86
        rcases zcut (0 : Int) x83.toInt with h87 | h87
        · skip
          replace hb : zHd _ := hb.1 h87
          refine w_ile_f dX9_blame_4 (t := 8) rfl (by omega) ?_
          refine w_en dX9_blame_7 rfl ?_
          show ZW _ _ _ _ _ _ _ (76, [some (.ref 386), some (.int v67_1), some (.int v67_2)], [], M)
          refine w_lo dX9_marking_76 rfl rfl rfl rfl ?_
          refine w_gf dX9_marking_77 rfl hJ.1.1 zs_386 (zr_386_19 hJ.1) ?_
          refine w_lo dX9_marking_80 rfl rfl rfl rfl ?_
          refine w_pu dX9_marking_81 rfl rfl ?_
          refine w_iai dX9_marking_82 hJ.1 zs_394 (by omega) (by omega) zu_394 ?_
          intro x91 f88 h89 h90
          replace hb : zHd _ := hb x91.toInt (ziEk f88 rfl) h89 h90
          refine w_lo dX9_marking_83 rfl rfl rfl rfl ?_
          refine w_orE dX9_marking_84 (m := 2) (by decide) (by omega) (by omega) (by omega) (by omega) ?_
          intro x93 h94 h95 h92
          have : (2 : Int) ^ 2 = 4 := by decide
          replace hb : zHd _ := hb x93.toInt (by rw [h92, zxor_i]) h94 (by omega)
          refine w_isi dX9_marking_85 hJ zs_394 (by omega) (by omega) zu_394 (by omega) (by omega) (zIR_a (by omega) (by omega)) ?_
          intro M96 hJ97 f98 hn99
          replace hb : zHd _ := hb (zi M96) (zi_zup hn99 f98 rfl rfl)
          refine w_lo dX9_marking_86 rfl rfl rfl rfl ?_
          have f101 := (hn99 (386) 8 (Or.inl (by omega))).trans (f84)
          refine w_gf dX9_marking_87 rfl hJ97.1.1 zs_386 f101 ?_
          refine w_ine_t dX9_marking_90 (t := 97) rfl (by omega) ?_
          refine w_gt dX9_marking_97 (t := 7) rfl ?_
          obtain ⟨m, hm, hI⟩ := hb
          exact (ih m hm).1 M96 v67_1 (some (.int v67_2)) hJ97 (by omega) (by omega) hI
        · skip
          replace hb : zHd _ := hb.2 h87
          refine w_ile_t dX9_blame_4 (t := 8) rfl (by omega) ?_
          refine w_lo dX9_blame_8 rfl rfl rfl rfl ?_
          refine w_lo dX9_blame_9 rfl rfl rfl rfl ?_
          refine w_pfi dX9_blame_10 rfl hJ zs_386 (Nat.le_of_ble_eq_true rfl) zo_386_8 (by have := zt_1; omega) (by have := zt_1; omega) (zIR_s (zIR_s (zIR_s (zIR_s (zIR_s (zIR_s (zIR_k (by omega) (by omega)))))))) rfl rfl rfl ?_
          intro M102 hJ103 f104 hn105
          replace hb : zHd _ := hb (zi M102) (zi_zup hn105 f104 rfl zt_1)
          refine w_lo dX9_blame_13 rfl rfl rfl rfl ?_
          refine w_lo dX9_blame_14 rfl rfl rfl rfl ?_
          refine w_pfi dX9_blame_15 rfl hJ103 zs_386 (Nat.le_of_ble_eq_true rfl) zo_386_9 (by omega) (by omega) (zIR_s (zIR_s (zIR_s (zIR_s (zIR_s (zIR_s (zIR_s (zIR_k (by omega) (by omega))))))))) rfl rfl rfl ?_
          intro M107 hJ108 f109 hn110
          replace hb : zHd _ := hb (zi M107) (zi_zup hn110 f109 rfl rfl)
          refine w_en dX9_blame_18 rfl ?_
          show ZW _ _ _ _ _ _ _ (76, [some (.ref 386), some (.int v67_1), some (.int v67_2)], [], M107)
          refine w_lo dX9_marking_76 rfl rfl rfl rfl ?_
          refine w_gf dX9_marking_77 rfl hJ108.1.1 zs_386 (zr_386_19 hJ108.1) ?_
          refine w_lo dX9_marking_80 rfl rfl rfl rfl ?_
          refine w_pu dX9_marking_81 rfl rfl ?_
          refine w_iai dX9_marking_82 hJ108.1 zs_394 (by omega) (by omega) zu_394 ?_
          intro x115 f112 h113 h114
          replace hb : zHd _ := hb x115.toInt (ziEk f112 rfl) h113 h114
          refine w_lo dX9_marking_83 rfl rfl rfl rfl ?_
          refine w_orE dX9_marking_84 (m := 2) (by decide) (by omega) (by omega) (by omega) (by omega) ?_
          intro x117 h118 h119 h116
          have : (2 : Int) ^ 2 = 4 := by decide
          replace hb : zHd _ := hb x117.toInt (by rw [h116, zxor_i]) h118 (by omega)
          refine w_isi dX9_marking_85 hJ108 zs_394 (by omega) (by omega) zu_394 (by omega) (by omega) (zIR_a (by omega) (by omega)) ?_
          intro M120 hJ121 f122 hn123
          replace hb : zHd _ := hb (zi M120) (zi_zup hn123 f122 rfl rfl)
          refine w_lo dX9_marking_86 rfl rfl rfl rfl ?_
          have f125 := (hn123 (386) 8 (Or.inl (by omega))).trans ((hn110 (386) 8 (Or.inr (by decide))).trans (f104))
          refine w_gf dX9_marking_87 rfl hJ121.1.1 zs_386 f125 ?_
          refine w_ine_t dX9_marking_90 (t := 97) rfl (by have := zt_1; omega) ?_
          refine w_gt dX9_marking_97 (t := 7) rfl ?_
          obtain ⟨m, hm, hI⟩ := hb
          exact (ih m hm).1 M120 v67_1 (some (.int v67_2)) hJ121 (by omega) (by omega) hI
  have hb : zHd _ := hbE
  show ZW _ _ _ _ _ _ _ (0, [some (.ref 386), some (.int a0), none], [], M0)
  refine w_lo dX9_marking_0 rfl rfl rfl rfl ?_
  refine w_gf dX9_marking_1 rfl hJ0.1.1 zs_386 (zr_386_19 hJ0.1) ?_
  refine w_lo dX9_marking_4 rfl rfl rfl rfl ?_
  refine w_ic dX9_marking_5 zi_0 ?_
  have h126 := hb.1
  replace hb : zHd _ := hb.2
  refine w_isi dX9_marking_6 hJ0 zs_394 (by omega) (by omega) zu_394 (by have := zt_0; omega) (by have := zt_0; omega) (zIR_a (by omega) (by omega)) ?_
  intro M127 hJ128 f129 hn130
  replace hb : zHd _ := hb (zi M127) (zi_zup hn130 f129 rfl zt_0)
  obtain ⟨m, hI⟩ := hb
  exact (main m).1 M127 a0 none hJ128 (by omega) (by omega) hI
set_option maxHeartbeats 20000000 in
set_option maxRecDepth 100000 in
theorem u_2316 {X : List Int32} {d N : Nat} {M0 : zM}  (hN : N ≤ 600) (hB0 : zB N M0) {Q : zF → Prop} (hb : b_2316 (zi M0) Q) : ZV X (d + 4) 2316 [.ref 386] M0 (zRV N [(388, 395, 1000), (386, 387, 3), (386, 387, 4), (386, 387, 5), (386, 387, 6), (386, 387, 7), (386, 387, 8), (386, 387, 9)] M0 (fun M' => Q (zi M'))) := by
  have hJ0 : zJ N [(388, 395, 1000), (386, 387, 3), (386, 387, 4), (386, 387, 5), (386, 387, 6), (386, 387, 7), (386, 387, 8), (386, 387, 9)] M0 M0 := zJ_refl hB0
  refine ZV.of (ini := false) rfl (Nat.le_of_ble_eq_true rfl) (by decide +kernel) ?_
  unfold b_2316 at hb
  replace hb : zHd _ := hb
  show ZW _ _ _ _ _ _ _ (0, [some (.ref 386), none], [], M0)
  refine w_lo dX9_boying_0 rfl rfl rfl rfl ?_
  refine w_lo dX9_boying_1 rfl rfl rfl rfl ?_
  refine w_gf dX9_boying_2 rfl hJ0.1.1 zs_386 (zr_386_13 hJ0.1) ?_
  refine w_lo dX9_boying_5 rfl rfl rfl rfl ?_
  refine w_gfi dX9_boying_6 rfl hJ0.1 zs_386 (Nat.le_of_ble_eq_true rfl) zo_386_35 ?_
  intro x1 f2 h3 h4
  replace hb : zHd _ := hb x1.toInt (ziE f2) h3 h4
  refine w_iai dX9_boying_9 hJ0.1 zs_388 (by omega) (by omega) zu_388 ?_
  intro x8 f5 h6 h7
  replace hb : zHd _ := hb x8.toInt (ziEk f5 rfl) h6 h7
  refine w_bi dX9_boying_10 (c := 12) (by decide) ?_
  rcases Int.decEq x8.toInt (12 : Int) with h9 | h9
  · skip
    replace hb : zHd _ := hb.1 h9
    refine w_cne_t dX9_boying_12 (t := 19) rfl (by have := zt_12; omega) ?_
    refine w_ic dX9_boying_19 zi_0 ?_
    refine w_iv dX9_boying_20 rfl rfl (As := [.int 0]) rfl rfl hJ0.1.1 zs_386 (Nat.le_of_ble_eq_true rfl) ?_
    refine ZV.of (ini := false) rfl (Nat.le_of_ble_eq_true rfl) (by decide +kernel) ?_
    show ZW _ _ _ _ _ _ _ (0, [some (.ref 386), some (.int 0)], [], M0)
    refine w_lo dX9_counts_0 rfl rfl rfl rfl ?_
    refine w_gfi dX9_counts_1 rfl hJ0.1 zs_386 (Nat.le_of_ble_eq_true rfl) zo_386_8 ?_
    intro x10 f11 h12 h13
    replace hb : zHd _ := hb x10.toInt (ziE f11) h12 h13
    rcases Int.decEq x10.toInt (0 : Int) with h14 | h14
    · skip
      replace hb : zHd _ := hb.1 h14
      refine w_ine_t dX9_counts_4 (t := 20) rfl (by omega) ?_
      refine w_lo dX9_counts_20 rfl rfl rfl rfl ?_
      refine w_gf dX9_counts_21 rfl hJ0.1.1 zs_386 f11 ?_
      refine w_ine_t dX9_counts_24 (t := 31) rfl (by omega) ?_
      refine w_lo dX9_counts_31 rfl rfl rfl rfl ?_
      refine w_gf dX9_counts_32 rfl hJ0.1.1 zs_386 f11 ?_
      refine w_ine_t dX9_counts_35 (t := 42) rfl (by omega) ?_
      refine w_ic dX9_counts_42 zi_0 ?_
      refine w_en dX9_counts_43 rfl ?_
      show ZW _ _ _ _ _ _ _ (23, [some (.ref 386), none], [.int 0], M0)
      refine w_ine_f dX9_boying_23 (t := 27) rfl (by have := zt_0; omega) ?_
      refine w_en dX9_boying_26 rfl ?_
      exact ⟨_, rfl, hJ0, hb⟩
    · skip
      replace hb : zHd _ := hb.2 h14
      refine w_ine_f dX9_counts_4 (t := 20) rfl (by omega) ?_
      refine w_lo dX9_counts_7 rfl rfl rfl rfl ?_
      refine w_ieq_t dX9_counts_8 (t := 20) rfl (by have := zt_0; omega) ?_
      refine w_lo dX9_counts_20 rfl rfl rfl rfl ?_
      refine w_gf dX9_counts_21 rfl hJ0.1.1 zs_386 f11 ?_
      refine w_ine_f dX9_counts_24 (t := 31) rfl (by omega) ?_
      refine w_lo dX9_counts_27 rfl rfl rfl rfl ?_
      refine w_iv dX9_counts_28 rfl rfl (As := []) rfl rfl hJ0.1.1 zs_386 (Nat.le_of_ble_eq_true rfl) ?_
      obtain ⟨P17, hp18, hb⟩ := hb
      replace hb : zHd _ := hb
      refine ZV.imp (u_2310 hN hJ0.1 hp18) ?_
      rintro _ ⟨M15, rfl, hJ16, hq19⟩
      replace hb : zHd _ := hb  (zi M15) (zi_fr hJ16.2) hq19
      have hJ21 := zJ_trans hJ0 hJ16 (zSub_cons (fun _ _ h h' hk => zIR_s (zIR_e (by omega) (by omega) hk)) (zSub_cons (fun _ _ h h' hk => zIR_s (zIR_s (zIR_e (by omega) (by omega) hk))) (zSub_cons (fun _ _ h h' hk => zIR_s (zIR_s (zIR_s (zIR_e (by omega) (by omega) hk)))) (zSub_cons (fun _ _ h h' hk => zIR_s (zIR_s (zIR_s (zIR_s (zIR_e (by omega) (by omega) hk))))) (zSub_cons (fun _ _ h h' hk => zIR_s (zIR_s (zIR_s (zIR_s (zIR_s (zIR_e (by omega) (by omega) hk)))))) (zSub_cons (fun _ _ h h' hk => zIR_s (zIR_s (zIR_s (zIR_s (zIR_s (zIR_s (zIR_e (by omega) (by omega) hk))))))) (zSub_cons (fun _ _ h h' hk => zIR_s (zIR_s (zIR_s (zIR_s (zIR_s (zIR_s (zIR_s (zIR_e (by omega) (by omega) hk)))))))) zSub_nil)))))))
      show ZW _ _ _ _ _ _ _ (31, [some (.ref 386), some (.int 0)], [], M15)
      refine w_lo dX9_counts_31 rfl rfl rfl rfl ?_
      refine w_gfi dX9_counts_32 rfl hJ21.1 zs_386 (Nat.le_of_ble_eq_true rfl) zo_386_8 ?_
      intro x22 f23 h24 h25
      replace hb : zHd _ := hb x22.toInt (ziE f23) h24 h25
      rcases Int.decEq x22.toInt (0 : Int) with h26 | h26
      · skip
        replace hb : zHd _ := hb.1 h26
        refine w_ine_t dX9_counts_35 (t := 42) rfl (by omega) ?_
        refine w_ic dX9_counts_42 zi_0 ?_
        refine w_en dX9_counts_43 rfl ?_
        show ZW _ _ _ _ _ _ _ (23, [some (.ref 386), none], [.int 0], M15)
        refine w_ine_f dX9_boying_23 (t := 27) rfl (by have := zt_0; omega) ?_
        refine w_en dX9_boying_26 rfl ?_
        exact ⟨_, rfl, hJ21, hb⟩
      · skip
        replace hb : zHd _ := hb.2 h26
        refine w_ine_f dX9_counts_35 (t := 42) rfl (by omega) ?_
        refine w_ic dX9_counts_38 zi_1 ?_
        refine w_gt dX9_counts_39 (t := 43) rfl ?_
        refine w_en dX9_counts_43 rfl ?_
        show ZW _ _ _ _ _ _ _ (23, [some (.ref 386), none], [.int 1], M15)
        refine w_ine_t dX9_boying_23 (t := 27) rfl (by have := zt_1; omega) ?_
        refine w_bi dX9_boying_27 (c := 12) (by decide) ?_
        refine w_lo dX9_boying_29 rfl rfl rfl rfl ?_
        have f27 := (hJ16.2 (386) 35 (zNI_k (by decide) (by decide) (zNI_k (by decide) (by decide) (zNI_k (by decide) (by decide) (zNI_k (by decide) (by decide) (zNI_k (by decide) (by decide) (zNI_k (by decide) (by decide) (zNI_k (by decide) (by decide) zNI_nil)))))))).trans (f2)
        refine w_gf dX9_boying_30 rfl hJ21.1.1 zs_386 f27 ?_
        refine w_mulc dX9_boying_33 zt_12 (by have := zt_12; omega) ?_
        intro x28 h29
        have := zt_12
        replace hb : zHd _ := hb x28.toInt (by have := zt_12; omega)
        refine w_lo dX9_boying_34 rfl rfl rfl rfl ?_
        refine w_gf dX9_boying_35 rfl hJ21.1.1 zs_386 (zr_386_13 hJ21.1) ?_
        refine w_lo dX9_boying_38 rfl rfl rfl rfl ?_
        refine w_gf dX9_boying_39 rfl hJ21.1.1 zs_386 f27 ?_
        have f33 := (hJ16.2 (388) (x1 : Int32).toInt.toNat (zNI (by omega) (zNI (by omega) (zNI (by omega) (zNI (by omega) (zNI (by omega) (zNI (by omega) (zNI (by omega) zNI_nil)))))))).trans (f5)
        refine w_ia dX9_boying_42 hJ21.1.1 zs_388 (znat (by omega)) f33 ?_
        refine w_add dX9_boying_43 (by omega) ?_
        intro x34 h35
        replace hb : zHd _ := hb x34.toInt (by omega)
        refine w_lo (ml' := [some (.ref 386), some (.int x34)]) dX9_boying_44 rfl rfl rfl rfl ?_
        refine w_lo dX9_boying_45 rfl rfl rfl rfl ?_
        refine w_gf dX9_boying_46 rfl hJ21.1.1 zs_386 (zr_386_14 hJ21.1) ?_
        refine w_lo dX9_boying_49 rfl rfl rfl rfl ?_
        refine w_lo dX9_boying_50 rfl rfl rfl rfl ?_
        refine w_iv dX9_boying_51 rfl rfl (As := []) rfl rfl hJ21.1.1 zs_386 (Nat.le_of_ble_eq_true rfl) ?_
        obtain ⟨P38, hp39, hb⟩ := hb
        replace hb : zHd _ := hb
        refine ZV.imp (u_2318 hN hJ21.1 hp39) ?_
        rintro _ ⟨y41, M36, rfl, hJ37, hq40⟩
        replace hb : zHd _ := hb y41.toInt  (zi M36) (zi_fr hJ37.2) hq40
        have hJ43 := zJ_trans hJ21 hJ37 (zSub_cons (fun _ _ h h' hk => zIR_s (zIR_e (by omega) (by omega) hk)) (zSub_cons (fun _ _ h h' hk => zIR_s (zIR_s (zIR_e (by omega) (by omega) hk))) (zSub_cons (fun _ _ h h' hk => zIR_s (zIR_s (zIR_s (zIR_e (by omega) (by omega) hk)))) (zSub_cons (fun _ _ h h' hk => zIR_s (zIR_s (zIR_s (zIR_s (zIR_e (by omega) (by omega) hk))))) (zSub_cons (fun _ _ h h' hk => zIR_s (zIR_s (zIR_s (zIR_s (zIR_s (zIR_e (by omega) (by omega) hk)))))) (zSub_cons (fun _ _ h h' hk => zIR_s (zIR_s (zIR_s (zIR_s (zIR_s (zIR_s (zIR_e (by omega) (by omega) hk))))))) (zSub_cons (fun _ _ h h' hk => zIR_s (zIR_s (zIR_s (zIR_s (zIR_s (zIR_s (zIR_s (zIR_e (by omega) (by omega) hk)))))))) zSub_nil)))))))
        show ZW _ _ _ _ _ _ _ (54, [some (.ref 386), some (.int x34)], [.long y41, .int x34, .ref 389], M36)
        refine w_lsi dX9_boying_54 hJ43 zs_389 (by omega) (by omega) zu_389 (zIR_a (by omega) (by omega)) ?_
        intro M44 hJ45 f46 hn47
        replace hb : zHd _ := hb (zi M44) (zi_zupL hn47 f46 rfl rfl)
        refine w_lo dX9_boying_55 rfl rfl rfl rfl ?_
        refine w_me (st' := [.long (131277443786868 : Int64), .ref 386]) dX9_boying_56 rfl rfl rfl rfl rfl ?_
        refine w_iv dX9_boying_59 rfl rfl (As := [.long (131277443786868 : Int64)]) rfl rfl hJ45.1.1 zs_386 (Nat.le_of_ble_eq_true rfl) ?_
        obtain ⟨P51, hp52, hb⟩ := hb
        replace hb : zHd _ := hb
        have hp52c : b_2321 (zi M44) (131277443786868 : Int64).toInt P51 := by rw [ztl_131277443786868]; exact hp52
        refine ZV.imp (u_2321 (131277443786868 : Int64) hN hJ45.1 hp52c) ?_
        rintro _ ⟨M49, rfl, hJ50, hq53⟩
        replace hb : zHd _ := hb  (zi M49) (zi_fr hJ50.2) hq53
        have hJ55 := zJ_trans hJ45 hJ50 (zSub_cons (fun _ _ h h' hk => zIR_s (zIR_e (by omega) (by omega) hk)) (zSub_cons (fun _ _ h h' hk => zIR_s (zIR_s (zIR_e (by omega) (by omega) hk))) (zSub_cons (fun _ _ h h' hk => zIR_s (zIR_s (zIR_s (zIR_e (by omega) (by omega) hk)))) (zSub_cons (fun _ _ h h' hk => zIR_s (zIR_s (zIR_s (zIR_s (zIR_e (by omega) (by omega) hk))))) (zSub_cons (fun _ _ h h' hk => zIR_s (zIR_s (zIR_s (zIR_s (zIR_s (zIR_e (by omega) (by omega) hk)))))) (zSub_cons (fun _ _ h h' hk => zIR_s (zIR_s (zIR_s (zIR_s (zIR_s (zIR_s (zIR_e (by omega) (by omega) hk))))))) (zSub_cons (fun _ _ h h' hk => zIR_s (zIR_s (zIR_s (zIR_s (zIR_s (zIR_s (zIR_s (zIR_e (by omega) (by omega) hk)))))))) zSub_nil)))))))
        show ZW _ _ _ _ _ _ _ (62, [some (.ref 386), some (.int x34)], [], M49)
        refine w_lo dX9_boying_62 rfl rfl rfl rfl ?_
        refine w_gf dX9_boying_63 rfl hJ55.1.1 zs_386 (zr_386_15 hJ55.1) ?_
        refine w_lo dX9_boying_66 rfl rfl rfl rfl ?_
        refine w_lo dX9_boying_67 rfl rfl rfl rfl ?_
        refine w_ic dX9_boying_68 zi_1 ?_
        refine w_bi dX9_boying_69 (c := 99) (by decide) ?_
        refine w_iv dX9_boying_71 rfl rfl (As := [.int 1, .int 99]) rfl rfl hJ55.1.1 zs_386 (Nat.le_of_ble_eq_true rfl) ?_
        obtain ⟨P58, hp59, hb⟩ := hb
        replace hb : zHd _ := hb
        have hp59c : b_2322 (zi M49) (1 : Int32).toInt (99 : Int32).toInt P58 := by rw [zt_1, zt_99]; exact hp59
        refine ZV.imp (u_2322 1 99 hN hJ55.1 hp59c) ?_
        rintro _ ⟨x61, M56, rfl, h62, h63, hJ57, hq60⟩
        replace hb : zHd _ := hb x61.toInt  (zi M56) (zi_fr hJ57.2) hq60
        have hJ65 := zJ_trans hJ55 hJ57 (zSub_cons (fun _ _ h h' hk => zIR_s (zIR_e (by omega) (by omega) hk)) (zSub_cons (fun _ _ h h' hk => zIR_s (zIR_s (zIR_e (by omega) (by omega) hk))) (zSub_cons (fun _ _ h h' hk => zIR_s (zIR_s (zIR_s (zIR_e (by omega) (by omega) hk)))) (zSub_cons (fun _ _ h h' hk => zIR_s (zIR_s (zIR_s (zIR_s (zIR_e (by omega) (by omega) hk))))) (zSub_cons (fun _ _ h h' hk => zIR_s (zIR_s (zIR_s (zIR_s (zIR_s (zIR_e (by omega) (by omega) hk)))))) (zSub_cons (fun _ _ h h' hk => zIR_s (zIR_s (zIR_s (zIR_s (zIR_s (zIR_s (zIR_e (by omega) (by omega) hk))))))) (zSub_cons (fun _ _ h h' hk => zIR_s (zIR_s (zIR_s (zIR_s (zIR_s (zIR_s (zIR_s (zIR_e (by omega) (by omega) hk)))))))) zSub_nil)))))))
        show ZW _ _ _ _ _ _ _ (74, [some (.ref 386), some (.int x34)], [.int x61, .int x34, .ref 390], M56)
        refine w_isi dX9_boying_74 hJ65 zs_390 (by omega) (by omega) zu_390 (zbot _) (ztop _) (zIR_a (by omega) (by omega)) ?_
        intro M66 hJ67 f68 hn69
        replace hb : zHd _ := hb (zi M66) (zi_zup hn69 f68 rfl rfl)
        refine w_lo dX9_boying_75 rfl rfl rfl rfl ?_
        refine w_me (st' := [.long (431198598248 : Int64), .ref 386]) dX9_boying_76 rfl rfl rfl rfl rfl ?_
        refine w_iv dX9_boying_79 rfl rfl (As := [.long (431198598248 : Int64)]) rfl rfl hJ67.1.1 zs_386 (Nat.le_of_ble_eq_true rfl) ?_
        obtain ⟨P73, hp74, hb⟩ := hb
        replace hb : zHd _ := hb
        have hp74c : b_2321 (zi M66) (431198598248 : Int64).toInt P73 := by rw [ztl_431198598248]; exact hp74
        refine ZV.imp (u_2321 (431198598248 : Int64) hN hJ67.1 hp74c) ?_
        rintro _ ⟨M71, rfl, hJ72, hq75⟩
        replace hb : zHd _ := hb  (zi M71) (zi_fr hJ72.2) hq75
        have hJ77 := zJ_trans hJ67 hJ72 (zSub_cons (fun _ _ h h' hk => zIR_s (zIR_e (by omega) (by omega) hk)) (zSub_cons (fun _ _ h h' hk => zIR_s (zIR_s (zIR_e (by omega) (by omega) hk))) (zSub_cons (fun _ _ h h' hk => zIR_s (zIR_s (zIR_s (zIR_e (by omega) (by omega) hk)))) (zSub_cons (fun _ _ h h' hk => zIR_s (zIR_s (zIR_s (zIR_s (zIR_e (by omega) (by omega) hk))))) (zSub_cons (fun _ _ h h' hk => zIR_s (zIR_s (zIR_s (zIR_s (zIR_s (zIR_e (by omega) (by omega) hk)))))) (zSub_cons (fun _ _ h h' hk => zIR_s (zIR_s (zIR_s (zIR_s (zIR_s (zIR_s (zIR_e (by omega) (by omega) hk))))))) (zSub_cons (fun _ _ h h' hk => zIR_s (zIR_s (zIR_s (zIR_s (zIR_s (zIR_s (zIR_s (zIR_e (by omega) (by omega) hk)))))))) zSub_nil)))))))
        show ZW _ _ _ _ _ _ _ (82, [some (.ref 386), some (.int x34)], [], M71)
        refine w_lo dX9_boying_82 rfl rfl rfl rfl ?_
        refine w_gf dX9_boying_83 rfl hJ77.1.1 zs_386 (zr_386_16 hJ77.1) ?_
        refine w_lo dX9_boying_86 rfl rfl rfl rfl ?_
        refine w_lo dX9_boying_87 rfl rfl rfl rfl ?_
        refine w_ic dX9_boying_88 zi_1 ?_
        refine w_si dX9_boying_89 (c := 999) (by decide) ?_
        refine w_iv dX9_boying_92 rfl rfl (As := [.int 1, .int 999]) rfl rfl hJ77.1.1 zs_386 (Nat.le_of_ble_eq_true rfl) ?_
        obtain ⟨P80, hp81, hb⟩ := hb
        replace hb : zHd _ := hb
        have hp81c : b_2322 (zi M71) (1 : Int32).toInt (999 : Int32).toInt P80 := by rw [zt_1, zt_999]; exact hp81
        refine ZV.imp (u_2322 1 999 hN hJ77.1 hp81c) ?_
        rintro _ ⟨x83, M78, rfl, h84, h85, hJ79, hq82⟩
        replace hb : zHd _ := hb x83.toInt  (zi M78) (zi_fr hJ79.2) hq82
        have hJ87 := zJ_trans hJ77 hJ79 (zSub_cons (fun _ _ h h' hk => zIR_s (zIR_e (by omega) (by omega) hk)) (zSub_cons (fun _ _ h h' hk => zIR_s (zIR_s (zIR_e (by omega) (by omega) hk))) (zSub_cons (fun _ _ h h' hk => zIR_s (zIR_s (zIR_s (zIR_e (by omega) (by omega) hk)))) (zSub_cons (fun _ _ h h' hk => zIR_s (zIR_s (zIR_s (zIR_s (zIR_e (by omega) (by omega) hk))))) (zSub_cons (fun _ _ h h' hk => zIR_s (zIR_s (zIR_s (zIR_s (zIR_s (zIR_e (by omega) (by omega) hk)))))) (zSub_cons (fun _ _ h h' hk => zIR_s (zIR_s (zIR_s (zIR_s (zIR_s (zIR_s (zIR_e (by omega) (by omega) hk))))))) (zSub_cons (fun _ _ h h' hk => zIR_s (zIR_s (zIR_s (zIR_s (zIR_s (zIR_s (zIR_s (zIR_e (by omega) (by omega) hk)))))))) zSub_nil)))))))
        show ZW _ _ _ _ _ _ _ (95, [some (.ref 386), some (.int x34)], [.int x83, .int x34, .ref 391], M78)
        refine w_isi dX9_boying_95 hJ87 zs_391 (by omega) (by omega) zu_391 (zbot _) (ztop _) (zIR_a (by omega) (by omega)) ?_
        intro M88 hJ89 f90 hn91
        replace hb : zHd _ := hb (zi M88) (zi_zup hn91 f90 rfl rfl)
        refine w_lo dX9_boying_96 rfl rfl rfl rfl ?_
        refine w_me (st' := [.long (1868850291 : Int64), .ref 386]) dX9_boying_97 rfl rfl rfl rfl rfl ?_
        refine w_iv dX9_boying_100 rfl rfl (As := [.long (1868850291 : Int64)]) rfl rfl hJ89.1.1 zs_386 (Nat.le_of_ble_eq_true rfl) ?_
        obtain ⟨P95, hp96, hb⟩ := hb
        replace hb : zHd _ := hb
        have hp96c : b_2321 (zi M88) (1868850291 : Int64).toInt P95 := by rw [ztl_1868850291]; exact hp96
        refine ZV.imp (u_2321 (1868850291 : Int64) hN hJ89.1 hp96c) ?_
        rintro _ ⟨M93, rfl, hJ94, hq97⟩
        replace hb : zHd _ := hb  (zi M93) (zi_fr hJ94.2) hq97
        have hJ99 := zJ_trans hJ89 hJ94 (zSub_cons (fun _ _ h h' hk => zIR_s (zIR_e (by omega) (by omega) hk)) (zSub_cons (fun _ _ h h' hk => zIR_s (zIR_s (zIR_e (by omega) (by omega) hk))) (zSub_cons (fun _ _ h h' hk => zIR_s (zIR_s (zIR_s (zIR_e (by omega) (by omega) hk)))) (zSub_cons (fun _ _ h h' hk => zIR_s (zIR_s (zIR_s (zIR_s (zIR_e (by omega) (by omega) hk))))) (zSub_cons (fun _ _ h h' hk => zIR_s (zIR_s (zIR_s (zIR_s (zIR_s (zIR_e (by omega) (by omega) hk)))))) (zSub_cons (fun _ _ h h' hk => zIR_s (zIR_s (zIR_s (zIR_s (zIR_s (zIR_s (zIR_e (by omega) (by omega) hk))))))) (zSub_cons (fun _ _ h h' hk => zIR_s (zIR_s (zIR_s (zIR_s (zIR_s (zIR_s (zIR_s (zIR_e (by omega) (by omega) hk)))))))) zSub_nil)))))))
        show ZW _ _ _ _ _ _ _ (103, [some (.ref 386), some (.int x34)], [], M93)
        refine w_lo dX9_boying_103 rfl rfl rfl rfl ?_
        refine w_gf dX9_boying_104 rfl hJ99.1.1 zs_386 (zr_386_17 hJ99.1) ?_
        refine w_lo dX9_boying_107 rfl rfl rfl rfl ?_
        refine w_lo dX9_boying_108 rfl rfl rfl rfl ?_
        refine w_ic dX9_boying_109 zi_0 ?_
        refine w_bi dX9_boying_110 (c := 100) (by decide) ?_
        refine w_iv dX9_boying_112 rfl rfl (As := [.int 0, .int 100]) rfl rfl hJ99.1.1 zs_386 (Nat.le_of_ble_eq_true rfl) ?_
        obtain ⟨P102, hp103, hb⟩ := hb
        replace hb : zHd _ := hb
        have hp103c : b_2322 (zi M93) (0 : Int32).toInt (100 : Int32).toInt P102 := by rw [zt_0, zt_100]; exact hp103
        refine ZV.imp (u_2322 0 100 hN hJ99.1 hp103c) ?_
        rintro _ ⟨x105, M100, rfl, h106, h107, hJ101, hq104⟩
        replace hb : zHd _ := hb x105.toInt  (zi M100) (zi_fr hJ101.2) hq104
        have hJ109 := zJ_trans hJ99 hJ101 (zSub_cons (fun _ _ h h' hk => zIR_s (zIR_e (by omega) (by omega) hk)) (zSub_cons (fun _ _ h h' hk => zIR_s (zIR_s (zIR_e (by omega) (by omega) hk))) (zSub_cons (fun _ _ h h' hk => zIR_s (zIR_s (zIR_s (zIR_e (by omega) (by omega) hk)))) (zSub_cons (fun _ _ h h' hk => zIR_s (zIR_s (zIR_s (zIR_s (zIR_e (by omega) (by omega) hk))))) (zSub_cons (fun _ _ h h' hk => zIR_s (zIR_s (zIR_s (zIR_s (zIR_s (zIR_e (by omega) (by omega) hk)))))) (zSub_cons (fun _ _ h h' hk => zIR_s (zIR_s (zIR_s (zIR_s (zIR_s (zIR_s (zIR_e (by omega) (by omega) hk))))))) (zSub_cons (fun _ _ h h' hk => zIR_s (zIR_s (zIR_s (zIR_s (zIR_s (zIR_s (zIR_s (zIR_e (by omega) (by omega) hk)))))))) zSub_nil)))))))
        show ZW _ _ _ _ _ _ _ (115, [some (.ref 386), some (.int x34)], [.int x105, .int x34, .ref 392], M100)
        refine w_isi dX9_boying_115 hJ109 zs_392 (by omega) (by omega) zu_392 (zbot _) (ztop _) (zIR_a (by omega) (by omega)) ?_
        intro M110 hJ111 f112 hn113
        replace hb : zHd _ := hb (zi M110) (zi_zup hn113 f112 rfl rfl)
        refine w_lo dX9_boying_116 rfl rfl rfl rfl ?_
        refine w_me (st' := [.long (483006377075 : Int64), .ref 386]) dX9_boying_117 rfl rfl rfl rfl rfl ?_
        refine w_iv dX9_boying_120 rfl rfl (As := [.long (483006377075 : Int64)]) rfl rfl hJ111.1.1 zs_386 (Nat.le_of_ble_eq_true rfl) ?_
        obtain ⟨P117, hp118, hb⟩ := hb
        replace hb : zHd _ := hb
        have hp118c : b_2321 (zi M110) (483006377075 : Int64).toInt P117 := by rw [ztl_483006377075]; exact hp118
        refine ZV.imp (u_2321 (483006377075 : Int64) hN hJ111.1 hp118c) ?_
        rintro _ ⟨M115, rfl, hJ116, hq119⟩
        replace hb : zHd _ := hb  (zi M115) (zi_fr hJ116.2) hq119
        have hJ121 := zJ_trans hJ111 hJ116 (zSub_cons (fun _ _ h h' hk => zIR_s (zIR_e (by omega) (by omega) hk)) (zSub_cons (fun _ _ h h' hk => zIR_s (zIR_s (zIR_e (by omega) (by omega) hk))) (zSub_cons (fun _ _ h h' hk => zIR_s (zIR_s (zIR_s (zIR_e (by omega) (by omega) hk)))) (zSub_cons (fun _ _ h h' hk => zIR_s (zIR_s (zIR_s (zIR_s (zIR_e (by omega) (by omega) hk))))) (zSub_cons (fun _ _ h h' hk => zIR_s (zIR_s (zIR_s (zIR_s (zIR_s (zIR_e (by omega) (by omega) hk)))))) (zSub_cons (fun _ _ h h' hk => zIR_s (zIR_s (zIR_s (zIR_s (zIR_s (zIR_s (zIR_e (by omega) (by omega) hk))))))) (zSub_cons (fun _ _ h h' hk => zIR_s (zIR_s (zIR_s (zIR_s (zIR_s (zIR_s (zIR_s (zIR_e (by omega) (by omega) hk)))))))) zSub_nil)))))))
        show ZW _ _ _ _ _ _ _ (123, [some (.ref 386), some (.int x34)], [], M115)
        refine w_lo dX9_boying_123 rfl rfl rfl rfl ?_
        refine w_gf dX9_boying_124 rfl hJ121.1.1 zs_386 (zr_386_18 hJ121.1) ?_
        refine w_lo dX9_boying_127 rfl rfl rfl rfl ?_
        refine w_lo dX9_boying_128 rfl rfl rfl rfl ?_
        refine w_ic dX9_boying_129 zi_0 ?_
        refine w_bi dX9_boying_130 (c := 99) (by decide) ?_
        refine w_iv dX9_boying_132 rfl rfl (As := [.int 0, .int 99]) rfl rfl hJ121.1.1 zs_386 (Nat.le_of_ble_eq_true rfl) ?_
        obtain ⟨P124, hp125, hb⟩ := hb
        replace hb : zHd _ := hb
        have hp125c : b_2322 (zi M115) (0 : Int32).toInt (99 : Int32).toInt P124 := by rw [zt_0, zt_99]; exact hp125
        refine ZV.imp (u_2322 0 99 hN hJ121.1 hp125c) ?_
        rintro _ ⟨x127, M122, rfl, h128, h129, hJ123, hq126⟩
        replace hb : zHd _ := hb x127.toInt  (zi M122) (zi_fr hJ123.2) hq126
        have hJ131 := zJ_trans hJ121 hJ123 (zSub_cons (fun _ _ h h' hk => zIR_s (zIR_e (by omega) (by omega) hk)) (zSub_cons (fun _ _ h h' hk => zIR_s (zIR_s (zIR_e (by omega) (by omega) hk))) (zSub_cons (fun _ _ h h' hk => zIR_s (zIR_s (zIR_s (zIR_e (by omega) (by omega) hk)))) (zSub_cons (fun _ _ h h' hk => zIR_s (zIR_s (zIR_s (zIR_s (zIR_e (by omega) (by omega) hk))))) (zSub_cons (fun _ _ h h' hk => zIR_s (zIR_s (zIR_s (zIR_s (zIR_s (zIR_e (by omega) (by omega) hk)))))) (zSub_cons (fun _ _ h h' hk => zIR_s (zIR_s (zIR_s (zIR_s (zIR_s (zIR_s (zIR_e (by omega) (by omega) hk))))))) (zSub_cons (fun _ _ h h' hk => zIR_s (zIR_s (zIR_s (zIR_s (zIR_s (zIR_s (zIR_s (zIR_e (by omega) (by omega) hk)))))))) zSub_nil)))))))
        show ZW _ _ _ _ _ _ _ (135, [some (.ref 386), some (.int x34)], [.int x127, .int x34, .ref 393], M122)
        refine w_isi dX9_boying_135 hJ131 zs_393 (by omega) (by omega) zu_393 (zbot _) (ztop _) (zIR_a (by omega) (by omega)) ?_
        intro M132 hJ133 f134 hn135
        replace hb : zHd _ := hb (zi M132) (zi_zup hn135 f134 rfl rfl)
        refine w_lo dX9_boying_136 rfl rfl rfl rfl ?_
        refine w_lo dX9_boying_137 rfl rfl rfl rfl ?_
        refine w_iv dX9_boying_138 rfl rfl (As := [.int x34]) rfl rfl hJ133.1.1 zs_386 (Nat.le_of_ble_eq_true rfl) ?_
        obtain ⟨P139, hp140, hb⟩ := hb
        replace hb : zHd _ := hb
        refine ZV.imp (u_2324 x34 hN hJ133.1 hp140) ?_
        rintro _ ⟨M137, rfl, hJ138, hq141⟩
        replace hb : zHd _ := hb  (zi M137) (zi_fr hJ138.2) hq141
        have hJ143 := zJ_trans hJ133 hJ138 (zSub_cons (fun _ _ h h' hk => zIR_a (by omega) (by omega)) (zSub_cons (fun _ _ h h' hk => zIR_s (zIR_e (by omega) (by omega) hk)) (zSub_cons (fun _ _ h h' hk => zIR_s (zIR_s (zIR_e (by omega) (by omega) hk))) (zSub_cons (fun _ _ h h' hk => zIR_s (zIR_s (zIR_s (zIR_e (by omega) (by omega) hk)))) (zSub_cons (fun _ _ h h' hk => zIR_s (zIR_s (zIR_s (zIR_s (zIR_e (by omega) (by omega) hk))))) (zSub_cons (fun _ _ h h' hk => zIR_s (zIR_s (zIR_s (zIR_s (zIR_s (zIR_e (by omega) (by omega) hk)))))) (zSub_cons (fun _ _ h h' hk => zIR_s (zIR_s (zIR_s (zIR_s (zIR_s (zIR_s (zIR_e (by omega) (by omega) hk))))))) (zSub_cons (fun _ _ h h' hk => zIR_s (zIR_s (zIR_s (zIR_s (zIR_s (zIR_s (zIR_s (zIR_e (by omega) (by omega) hk)))))))) zSub_nil))))))))
        show ZW _ _ _ _ _ _ _ (141, [some (.ref 386), some (.int x34)], [], M137)
        refine w_lo dX9_boying_141 rfl rfl rfl rfl ?_
        refine w_gfi dX9_boying_142 rfl hJ143.1 zs_386 (Nat.le_of_ble_eq_true rfl) zo_386_8 ?_
        intro x144 f145 h146 h147
        replace hb : zHd _ := hb x144.toInt (ziE f145) h146 h147
        rcases Int.decEq x144.toInt (0 : Int) with h148 | h148
        · skip
          replace hb : zHd _ := hb.1 h148
          refine w_ine_t dX9_boying_145 (t := 161) rfl (by omega) ?_
          refine w_en dX9_boying_161 rfl ?_
          exact ⟨_, rfl, hJ143, hb⟩
        · skip
          replace hb : zHd _ := hb.2 h148
          refine w_ine_f dX9_boying_145 (t := 161) rfl (by omega) ?_
          refine w_lo dX9_boying_148 rfl rfl rfl rfl ?_
          refine w_gf dX9_boying_149 rfl hJ143.1.1 zs_386 (zr_386_13 hJ143.1) ?_
          refine w_lo dX9_boying_152 rfl rfl rfl rfl ?_
          have f149 := (hJ138.2 (386) 35 (zNI (by omega) (zNI_k (by decide) (by decide) (zNI_k (by decide) (by decide) (zNI_k (by decide) (by decide) (zNI_k (by decide) (by decide) (zNI_k (by decide) (by decide) (zNI_k (by decide) (by decide) (zNI_k (by decide) (by decide) zNI_nil))))))))).trans ((hn135 (386) 35 (Or.inl (by omega))).trans ((hJ123.2 (386) 35 (zNI_k (by decide) (by decide) (zNI_k (by decide) (by decide) (zNI_k (by decide) (by decide) (zNI_k (by decide) (by decide) (zNI_k (by decide) (by decide) (zNI_k (by decide) (by decide) (zNI_k (by decide) (by decide) zNI_nil)))))))).trans ((hJ116.2 (386) 35 (zNI_k (by decide) (by decide) (zNI_k (by decide) (by decide) (zNI_k (by decide) (by decide) (zNI_k (by decide) (by decide) (zNI_k (by decide) (by decide) (zNI_k (by decide) (by decide) (zNI_k (by decide) (by decide) zNI_nil)))))))).trans ((hn113 (386) 35 (Or.inl (by omega))).trans ((hJ101.2 (386) 35 (zNI_k (by decide) (by decide) (zNI_k (by decide) (by decide) (zNI_k (by decide) (by decide) (zNI_k (by decide) (by decide) (zNI_k (by decide) (by decide) (zNI_k (by decide) (by decide) (zNI_k (by decide) (by decide) zNI_nil)))))))).trans ((hJ94.2 (386) 35 (zNI_k (by decide) (by decide) (zNI_k (by decide) (by decide) (zNI_k (by decide) (by decide) (zNI_k (by decide) (by decide) (zNI_k (by decide) (by decide) (zNI_k (by decide) (by decide) (zNI_k (by decide) (by decide) zNI_nil)))))))).trans ((hn91 (386) 35 (Or.inl (by omega))).trans ((hJ79.2 (386) 35 (zNI_k (by decide) (by decide) (zNI_k (by decide) (by decide) (zNI_k (by decide) (by decide) (zNI_k (by decide) (by decide) (zNI_k (by decide) (by decide) (zNI_k (by decide) (by decide) (zNI_k (by decide) (by decide) zNI_nil)))))))).trans ((hJ72.2 (386) 35 (zNI_k (by decide) (by decide) (zNI_k (by decide) (by decide) (zNI_k (by decide) (by decide) (zNI_k (by decide) (by decide) (zNI_k (by decide) (by decide) (zNI_k (by decide) (by decide) (zNI_k (by decide) (by decide) zNI_nil)))))))).trans ((hn69 (386) 35 (Or.inl (by omega))).trans ((hJ57.2 (386) 35 (zNI_k (by decide) (by decide) (zNI_k (by decide) (by decide) (zNI_k (by decide) (by decide) (zNI_k (by decide) (by decide) (zNI_k (by decide) (by decide) (zNI_k (by decide) (by decide) (zNI_k (by decide) (by decide) zNI_nil)))))))).trans ((hJ50.2 (386) 35 (zNI_k (by decide) (by decide) (zNI_k (by decide) (by decide) (zNI_k (by decide) (by decide) (zNI_k (by decide) (by decide) (zNI_k (by decide) (by decide) (zNI_k (by decide) (by decide) (zNI_k (by decide) (by decide) zNI_nil)))))))).trans ((hn47 (386) 35 (Or.inl (by omega))).trans ((hJ37.2 (386) 35 (zNI_k (by decide) (by decide) (zNI_k (by decide) (by decide) (zNI_k (by decide) (by decide) (zNI_k (by decide) (by decide) (zNI_k (by decide) (by decide) (zNI_k (by decide) (by decide) (zNI_k (by decide) (by decide) zNI_nil)))))))).trans (f27)))))))))))))))
          refine w_gf dX9_boying_153 rfl hJ143.1.1 zs_386 f149 ?_
          refine w_pu dX9_boying_156 rfl rfl ?_
          have f153 := (hJ138.2 (388) (x1 : Int32).toInt.toNat (zNI (by omega) (zNI (by omega) (zNI (by omega) (zNI (by omega) (zNI (by omega) (zNI (by omega) (zNI (by omega) (zNI (by omega) zNI_nil))))))))).trans ((hn135 (388) (x1 : Int32).toInt.toNat (Or.inl (by omega))).trans ((hJ123.2 (388) (x1 : Int32).toInt.toNat (zNI (by omega) (zNI (by omega) (zNI (by omega) (zNI (by omega) (zNI (by omega) (zNI (by omega) (zNI (by omega) zNI_nil)))))))).trans ((hJ116.2 (388) (x1 : Int32).toInt.toNat (zNI (by omega) (zNI (by omega) (zNI (by omega) (zNI (by omega) (zNI (by omega) (zNI (by omega) (zNI (by omega) zNI_nil)))))))).trans ((hn113 (388) (x1 : Int32).toInt.toNat (Or.inl (by omega))).trans ((hJ101.2 (388) (x1 : Int32).toInt.toNat (zNI (by omega) (zNI (by omega) (zNI (by omega) (zNI (by omega) (zNI (by omega) (zNI (by omega) (zNI (by omega) zNI_nil)))))))).trans ((hJ94.2 (388) (x1 : Int32).toInt.toNat (zNI (by omega) (zNI (by omega) (zNI (by omega) (zNI (by omega) (zNI (by omega) (zNI (by omega) (zNI (by omega) zNI_nil)))))))).trans ((hn91 (388) (x1 : Int32).toInt.toNat (Or.inl (by omega))).trans ((hJ79.2 (388) (x1 : Int32).toInt.toNat (zNI (by omega) (zNI (by omega) (zNI (by omega) (zNI (by omega) (zNI (by omega) (zNI (by omega) (zNI (by omega) zNI_nil)))))))).trans ((hJ72.2 (388) (x1 : Int32).toInt.toNat (zNI (by omega) (zNI (by omega) (zNI (by omega) (zNI (by omega) (zNI (by omega) (zNI (by omega) (zNI (by omega) zNI_nil)))))))).trans ((hn69 (388) (x1 : Int32).toInt.toNat (Or.inl (by omega))).trans ((hJ57.2 (388) (x1 : Int32).toInt.toNat (zNI (by omega) (zNI (by omega) (zNI (by omega) (zNI (by omega) (zNI (by omega) (zNI (by omega) (zNI (by omega) zNI_nil)))))))).trans ((hJ50.2 (388) (x1 : Int32).toInt.toNat (zNI (by omega) (zNI (by omega) (zNI (by omega) (zNI (by omega) (zNI (by omega) (zNI (by omega) (zNI (by omega) zNI_nil)))))))).trans ((hn47 (388) (x1 : Int32).toInt.toNat (Or.inl (by omega))).trans ((hJ37.2 (388) (x1 : Int32).toInt.toNat (zNI (by omega) (zNI (by omega) (zNI (by omega) (zNI (by omega) (zNI (by omega) (zNI (by omega) (zNI (by omega) zNI_nil)))))))).trans (f33)))))))))))))))
          refine w_ia dX9_boying_157 hJ143.1.1 zs_388 (znat (by omega)) f153 ?_
          refine w_ic dX9_boying_158 zi_1 ?_
          refine w_add dX9_boying_159 (by have := zt_1; omega) ?_
          intro x154 h155
          have := zt_1
          replace hb : zHd _ := hb x154.toInt (by have := zt_1; omega)
          refine w_isi dX9_boying_160 hJ143 zs_388 (by omega) (by omega) zu_388 (by omega) (by omega) (zIR_a (by omega) (by omega)) ?_
          intro M156 hJ157 f158 hn159
          replace hb : zHd _ := hb (zi M156) (zi_zup hn159 f158 rfl rfl)
          refine w_en dX9_boying_161 rfl ?_
          exact ⟨_, rfl, hJ157, hb⟩
  · skip
    replace hb : zHd _ := hb.2 h9
    refine w_cne_f dX9_boying_12 (t := 19) rfl (by have := zt_12; omega) ?_
    refine w_ic dX9_boying_15 zi_1 ?_
    refine w_gt dX9_boying_16 (t := 20) rfl ?_
    refine w_iv dX9_boying_20 rfl rfl (As := [.int 1]) rfl rfl hJ0.1.1 zs_386 (Nat.le_of_ble_eq_true rfl) ?_
    refine ZV.of (ini := false) rfl (Nat.le_of_ble_eq_true rfl) (by decide +kernel) ?_
    show ZW _ _ _ _ _ _ _ (0, [some (.ref 386), some (.int 1)], [], M0)
    refine w_lo dX9_counts_0 rfl rfl rfl rfl ?_
    refine w_gfi dX9_counts_1 rfl hJ0.1 zs_386 (Nat.le_of_ble_eq_true rfl) zo_386_8 ?_
    intro x161 f162 h163 h164
    replace hb : zHd _ := hb x161.toInt (ziE f162) h163 h164
    rcases Int.decEq x161.toInt (0 : Int) with h165 | h165
    · skip
      replace hb : zHd _ := hb.1 h165
      refine w_ine_t dX9_counts_4 (t := 20) rfl (by omega) ?_
      refine w_lo dX9_counts_20 rfl rfl rfl rfl ?_
      refine w_gf dX9_counts_21 rfl hJ0.1.1 zs_386 f162 ?_
      refine w_ine_t dX9_counts_24 (t := 31) rfl (by omega) ?_
      refine w_lo dX9_counts_31 rfl rfl rfl rfl ?_
      refine w_gf dX9_counts_32 rfl hJ0.1.1 zs_386 f162 ?_
      refine w_ine_t dX9_counts_35 (t := 42) rfl (by omega) ?_
      refine w_ic dX9_counts_42 zi_0 ?_
      refine w_en dX9_counts_43 rfl ?_
      show ZW _ _ _ _ _ _ _ (23, [some (.ref 386), none], [.int 0], M0)
      refine w_ine_f dX9_boying_23 (t := 27) rfl (by have := zt_0; omega) ?_
      refine w_en dX9_boying_26 rfl ?_
      exact ⟨_, rfl, hJ0, hb⟩
    · skip
      replace hb : zHd _ := hb.2 h165
      refine w_ine_f dX9_counts_4 (t := 20) rfl (by omega) ?_
      refine w_lo dX9_counts_7 rfl rfl rfl rfl ?_
      refine w_ieq_f dX9_counts_8 (t := 20) rfl (by have := zt_1; omega) ?_
      refine w_lo dX9_counts_11 rfl rfl rfl rfl ?_
      refine w_ic dX9_counts_12 zi_5 ?_
      refine w_lo dX9_counts_13 rfl rfl rfl rfl ?_
      refine w_gfi dX9_counts_14 rfl hJ0.1 zs_386 (Nat.le_of_ble_eq_true rfl) zo_386_4 ?_
      intro x166 f167 h168 h169
      replace hb : zHd _ := hb x166.toInt (ziE f167) h168 h169
      refine w_iv dX9_counts_17 rfl rfl (As := [.int 5, .int x166]) rfl rfl hJ0.1.1 zs_386 (Nat.le_of_ble_eq_true rfl) ?_
      refine ZV.of (ini := false) rfl (Nat.le_of_ble_eq_true rfl) (by decide +kernel) ?_
      show ZW _ _ _ _ _ _ _ (0, [some (.ref 386), some (.int 5), some (.int x166)], [], M0)
      refine w_lo dX9_blame_0 rfl rfl rfl rfl ?_
      refine w_gf dX9_blame_1 rfl hJ0.1.1 zs_386 f162 ?_
      refine w_ile_t dX9_blame_4 (t := 8) rfl (by omega) ?_
      refine w_lo dX9_blame_8 rfl rfl rfl rfl ?_
      refine w_lo dX9_blame_9 rfl rfl rfl rfl ?_
      refine w_pfi dX9_blame_10 rfl hJ0 zs_386 (Nat.le_of_ble_eq_true rfl) zo_386_8 (by have := zt_5; omega) (by have := zt_5; omega) (zIR_s (zIR_s (zIR_s (zIR_s (zIR_s (zIR_s (zIR_k (by omega) (by omega)))))))) rfl rfl rfl ?_
      intro M170 hJ171 f172 hn173
      replace hb : zHd _ := hb (zi M170) (zi_zup hn173 f172 rfl zt_5)
      refine w_lo dX9_blame_13 rfl rfl rfl rfl ?_
      refine w_lo dX9_blame_14 rfl rfl rfl rfl ?_
      refine w_pfi dX9_blame_15 rfl hJ171 zs_386 (Nat.le_of_ble_eq_true rfl) zo_386_9 (by omega) (by omega) (zIR_s (zIR_s (zIR_s (zIR_s (zIR_s (zIR_s (zIR_s (zIR_k (by omega) (by omega))))))))) rfl rfl rfl ?_
      intro M175 hJ176 f177 hn178
      replace hb : zHd _ := hb (zi M175) (zi_zup hn178 f177 rfl rfl)
      refine w_en dX9_blame_18 rfl ?_
      show ZW _ _ _ _ _ _ _ (20, [some (.ref 386), some (.int 1)], [], M175)
      refine w_lo dX9_counts_20 rfl rfl rfl rfl ?_
      have f180 := (hn178 (386) 8 (Or.inr (by decide))).trans (f172)
      refine w_gf dX9_counts_21 rfl hJ176.1.1 zs_386 f180 ?_
      refine w_ine_t dX9_counts_24 (t := 31) rfl (by have := zt_5; omega) ?_
      refine w_lo dX9_counts_31 rfl rfl rfl rfl ?_
      refine w_gf dX9_counts_32 rfl hJ176.1.1 zs_386 f180 ?_
      refine w_ine_t dX9_counts_35 (t := 42) rfl (by have := zt_5; omega) ?_
      refine w_ic dX9_counts_42 zi_0 ?_
      refine w_en dX9_counts_43 rfl ?_
      show ZW _ _ _ _ _ _ _ (23, [some (.ref 386), none], [.int 0], M175)
      refine w_ine_f dX9_boying_23 (t := 27) rfl (by have := zt_0; omega) ?_
      refine w_en dX9_boying_26 rfl ?_
      exact ⟨_, rfl, hJ176, hb⟩
