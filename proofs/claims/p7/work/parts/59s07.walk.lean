/-! walks by pure conditions (wip/safe/vcp.py) -/
set_option maxRecDepth 100000 in
theorem u_2422 {X : List Int32} {d N : Nat} {M0 : zM} (a0 : Int32) (a1 : Int32) (a2 : Int32) (hN : N ≤ 600) (hB0 : zB N M0) {Q : Int → zF → Prop} (hb : b_2422 (zi M0) a0.toInt a1.toInt a2.toInt Q) : ZV X (d + 10) 2422 [.ref 386, .int a0, .int a1, .int a2] M0 (zRI N [(416, 433, 1000), (434, 436, 1000), (386, 387, 66), (386, 387, 70), (386, 387, 71), (386, 387, 72), (386, 387, 74), (386, 387, 75)] M0 (-2147483648) (2147483647) (fun v M' => Q v.toInt (zi M'))) := by
  have hJ0 : zJ N [(416, 433, 1000), (434, 436, 1000), (386, 387, 66), (386, 387, 70), (386, 387, 71), (386, 387, 72), (386, 387, 74), (386, 387, 75)] M0 M0 := zJ_refl hB0
  refine ZV.of (ini := false) rfl (Nat.le_of_ble_eq_true rfl) (by decide +kernel) ?_
  obtain ⟨I52, I67, I102, hbE, hb52, hb67, hb102⟩ := hb
  replace hbE : zHd _ := hbE
  replace hb52 : zHd _ := hb52
  replace hb67 : zHd _ := hb67
  replace hb102 : zHd _ := hb102
  have main : ∀ n : Nat,
      (∀ (M : zM) (v52_1 : Int32) (v52_2 : Int32) (v52_3 : Int32) (v52_4 : Int32) (v52_5 : Int32) (v52_6 : Int32) (o52_7 : Option Value) (o52_8 : Option Value), zJ N [(416, 433, 1000), (434, 436, 1000), (386, 387, 66), (386, 387, 70), (386, 387, 71), (386, 387, 72), (386, 387, 74), (386, 387, 75)] M0 M → ((1 : Int) ≤ v52_1.toInt) → (v52_1.toInt ≤ 20) → ((1 : Int) ≤ v52_2.toInt) → (v52_2.toInt ≤ 60) → ((0 : Int) ≤ v52_3.toInt) → (v52_3.toInt ≤ 2) → ((-2147483648 : Int) ≤ v52_4.toInt) → (v52_4.toInt ≤ 2147483647) → ((-2147483648 : Int) ≤ v52_5.toInt) → (v52_5.toInt ≤ 2147483647) → ((0 : Int) ≤ v52_6.toInt) → (v52_6.toInt ≤ 20) → I52 n (zi M) v52_1.toInt v52_2.toInt v52_3.toInt v52_4.toInt v52_5.toInt v52_6.toInt → ZW X (d + 9) 9 false (some .int) cX9_nights (zRI N [(416, 433, 1000), (434, 436, 1000), (386, 387, 66), (386, 387, 70), (386, 387, 71), (386, 387, 72), (386, 387, 74), (386, 387, 75)] M0 (-2147483648) (2147483647) (fun v M' => Q v.toInt (zi M'))) (52, [some (.ref 386), some (.int v52_1), some (.int v52_2), some (.int v52_3), some (.int v52_4), some (.int v52_5), some (.int v52_6), o52_7, o52_8], [], M)) ∧
      (∀ (M : zM) (v67_1 : Int32) (v67_2 : Int32) (v67_3 : Int32) (v67_4 : Int32) (v67_5 : Int32) (v67_6 : Int32) (v67_7 : Int32) (o67_8 : Option Value), zJ N [(416, 433, 1000), (434, 436, 1000), (386, 387, 66), (386, 387, 70), (386, 387, 71), (386, 387, 72), (386, 387, 74), (386, 387, 75)] M0 M → ((1 : Int) ≤ v67_1.toInt) → (v67_1.toInt ≤ 20) → ((1 : Int) ≤ v67_2.toInt) → (v67_2.toInt ≤ 60) → ((0 : Int) ≤ v67_3.toInt) → (v67_3.toInt ≤ 2) → ((-2147483648 : Int) ≤ v67_4.toInt) → (v67_4.toInt ≤ 2147483647) → ((-2147483648 : Int) ≤ v67_5.toInt) → (v67_5.toInt ≤ 2147483647) → ((0 : Int) ≤ v67_6.toInt) → (v67_6.toInt ≤ 19) → ((0 : Int) ≤ v67_7.toInt) → (v67_7.toInt ≤ 62) → I67 n (zi M) v67_1.toInt v67_2.toInt v67_3.toInt v67_4.toInt v67_5.toInt v67_6.toInt v67_7.toInt → ZW X (d + 9) 9 false (some .int) cX9_nights (zRI N [(416, 433, 1000), (434, 436, 1000), (386, 387, 66), (386, 387, 70), (386, 387, 71), (386, 387, 72), (386, 387, 74), (386, 387, 75)] M0 (-2147483648) (2147483647) (fun v M' => Q v.toInt (zi M'))) (67, [some (.ref 386), some (.int v67_1), some (.int v67_2), some (.int v67_3), some (.int v67_4), some (.int v67_5), some (.int v67_6), some (.int v67_7), o67_8], [], M)) ∧
      (∀ (M : zM) (v102_1 : Int32) (v102_2 : Int32) (v102_3 : Int32) (v102_4 : Int32) (v102_5 : Int32) (v102_6 : Int32) (v102_7 : Int32) (v102_8 : Int32), zJ N [(416, 433, 1000), (434, 436, 1000), (386, 387, 66), (386, 387, 70), (386, 387, 71), (386, 387, 72), (386, 387, 74), (386, 387, 75)] M0 M → ((1 : Int) ≤ v102_1.toInt) → (v102_1.toInt ≤ 20) → ((1 : Int) ≤ v102_2.toInt) → (v102_2.toInt ≤ 60) → ((0 : Int) ≤ v102_3.toInt) → (v102_3.toInt ≤ 2) → ((-2147483648 : Int) ≤ v102_4.toInt) → (v102_4.toInt ≤ 2147483647) → ((-2147483648 : Int) ≤ v102_5.toInt) → (v102_5.toInt ≤ 2147483647) → ((0 : Int) ≤ v102_6.toInt) → (v102_6.toInt ≤ 19) → ((0 : Int) ≤ v102_7.toInt) → (v102_7.toInt ≤ 1) → ((0 : Int) ≤ v102_8.toInt) → (v102_8.toInt ≤ 12) → I102 n (zi M) v102_1.toInt v102_2.toInt v102_3.toInt v102_4.toInt v102_5.toInt v102_6.toInt v102_7.toInt v102_8.toInt → ZW X (d + 9) 9 false (some .int) cX9_nights (zRI N [(416, 433, 1000), (434, 436, 1000), (386, 387, 66), (386, 387, 70), (386, 387, 71), (386, 387, 72), (386, 387, 74), (386, 387, 75)] M0 (-2147483648) (2147483647) (fun v M' => Q v.toInt (zi M'))) (102, [some (.ref 386), some (.int v102_1), some (.int v102_2), some (.int v102_3), some (.int v102_4), some (.int v102_5), some (.int v102_6), some (.int v102_7), some (.int v102_8)], [], M)) := by
    intro n
    induction n using Nat.strongRecOn with
    | _ n ih =>
      refine ⟨?_, ?_, ?_⟩
      · intro M v52_1 v52_2 v52_3 v52_4 v52_5 v52_6 o52_7 o52_8 hJ v52_10 v52_11 v52_20 v52_21 v52_30 v52_31 v52_40 v52_41 v52_50 v52_51 v52_60 v52_61 hI
        have hb : zHd _ := hb52 n (zi M) v52_1.toInt v52_2.toInt v52_3.toInt v52_4.toInt v52_5.toInt v52_6.toInt (zi_fr hJ.2) v52_10 v52_11 v52_20 v52_21 v52_30 v52_31 v52_60 v52_61 hI
        refine w_lo dX9_nights_52 rfl rfl rfl rfl ?_
        refine w_lo dX9_nights_54 rfl rfl rfl rfl ?_
        rcases zcut v52_6.toInt v52_1.toInt with h1 | h1
        · skip
          replace hb : zHd _ := hb.1 h1
          refine w_cge_f dX9_nights_55 (t := 189) rfl (by omega) ?_
          refine w_lo dX9_nights_58 rfl rfl rfl rfl ?_
          refine w_ic dX9_nights_59 zi_1 ?_
          refine w_ic dX9_nights_60 zi_0 ?_
          refine w_iv dX9_nights_61 rfl rfl (As := [.int 1, .int 0]) rfl rfl hJ.1.1 zs_386 (Nat.le_of_ble_eq_true rfl) ?_
          obtain ⟨P4, hp5, hb⟩ := hb
          replace hb : zHd _ := hb
          have hp5c : b_2347 (zi M) (1 : Int32).toInt (0 : Int32).toInt P4 := by rw [zt_1, zt_0]; exact hp5
          refine ZV.imp (u_2347 1 (by have := zt_1; omega) (by have := zt_1; omega) 0 (by have := zt_0; omega) (by have := zt_0; omega) hN hJ.1 hp5c) ?_
          rintro _ ⟨M2, rfl, hJ3, hq6⟩
          replace hb : zHd _ := hb  (zi M2) (zi_fr hJ3.2) hq6
          have hJ8 := zJ_trans hJ hJ3 (zSub_cons (fun _ _ h h' hk => zIR_a (by omega) (by omega)) zSub_nil)
          show ZW _ _ _ _ _ _ _ (64, [some (.ref 386), some (.int v52_1), some (.int v52_2), some (.int v52_3), some (.int v52_4), some (.int v52_5), some (.int v52_6), o52_7, o52_8], [], M2)
          refine w_ic dX9_nights_64 zi_0 ?_
          refine w_lo (ml' := [some (.ref 386), some (.int v52_1), some (.int v52_2), some (.int v52_3), some (.int v52_4), some (.int v52_5), some (.int v52_6), some (.int 0), o52_8]) dX9_nights_65 rfl rfl rfl rfl ?_
          obtain ⟨m, hm, hI⟩ := hb
          exact (ih m hm).2.1 M2 v52_1 v52_2 v52_3 v52_4 v52_5 v52_6 0 o52_8 hJ8 (by omega) (by omega) (by omega) (by omega) (by omega) (by omega) (zbot _) (ztop _) (zbot _) (ztop _) (by omega) (by omega) (by have := zt_0; omega) (by have := zt_0; omega) hI
        · skip
          replace hb : zHd _ := hb.2 h1
          refine w_cge_t dX9_nights_55 (t := 189) rfl (by omega) ?_
          refine w_lo dX9_nights_189 rfl rfl rfl rfl ?_
          rcases Int.decEq v52_3.toInt (0 : Int) with h9 | h9
          · skip
            replace hb : zHd _ := hb.1 h9
            refine w_ine_t dX9_nights_190 (t := 200) rfl (by omega) ?_
            refine w_lo dX9_nights_200 rfl rfl rfl rfl ?_
            refine w_ic dX9_nights_201 zi_1 ?_
            rcases Int.decEq v52_3.toInt (1 : Int) with h10 | h10
            · skip
              replace hb : zHd _ := hb.1 h10
              refine w_cne_t dX9_nights_202 (t := 210) rfl (by have := zt_1; omega) ?_
              refine w_lo dX9_nights_210 rfl rfl rfl rfl ?_
              refine w_eni dX9_nights_212 rfl rfl ?_
              exact ⟨_, _, rfl, (zbot _), (ztop _), hJ, hb⟩
            · skip
              replace hb : zHd _ := hb.2 h10
              refine w_cne_f dX9_nights_202 (t := 210) rfl (by have := zt_1; omega) ?_
              refine w_lo dX9_nights_205 rfl rfl rfl rfl ?_
              refine w_gt dX9_nights_207 (t := 212) rfl ?_
              refine w_eni dX9_nights_212 rfl rfl ?_
              exact ⟨_, _, rfl, (zbot _), (ztop _), hJ, hb⟩
          · skip
            replace hb : zHd _ := hb.2 h9
            refine w_ine_f dX9_nights_190 (t := 200) rfl (by omega) ?_
            refine w_lo dX9_nights_193 rfl rfl rfl rfl ?_
            refine w_gfi dX9_nights_194 rfl hJ.1 zs_386 (Nat.le_of_ble_eq_true rfl) zo_386_75 ?_
            intro x11 f12 h13 h14
            replace hb : zHd _ := hb x11.toInt (ziE f12)
            refine w_gt dX9_nights_197 (t := 212) rfl ?_
            refine w_eni dX9_nights_212 rfl rfl ?_
            exact ⟨_, _, rfl, (zbot _), (ztop _), hJ, hb⟩
      · intro M v67_1 v67_2 v67_3 v67_4 v67_5 v67_6 v67_7 o67_8 hJ v67_10 v67_11 v67_20 v67_21 v67_30 v67_31 v67_40 v67_41 v67_50 v67_51 v67_60 v67_61 v67_70 v67_71 hI
        have hb : zHd _ := hb67 n (zi M) v67_1.toInt v67_2.toInt v67_3.toInt v67_4.toInt v67_5.toInt v67_6.toInt v67_7.toInt (zi_fr hJ.2) v67_10 v67_11 v67_20 v67_21 v67_30 v67_31 v67_60 v67_61 v67_70 v67_71 hI
        refine w_lo dX9_nights_67 rfl rfl rfl rfl ?_
        refine w_lo dX9_nights_69 rfl rfl rfl rfl ?_
        rcases zcut v67_7.toInt v67_2.toInt with h15 | h15
        · skip
          replace hb : zHd _ := hb.1 h15
          refine w_cge_f dX9_nights_70 (t := 96) rfl (by omega) ?_
          refine w_lo dX9_nights_73 rfl rfl rfl rfl ?_
          refine w_gf dX9_nights_74 rfl hJ.1.1 zs_386 (zr_386_49 hJ.1) ?_
          refine w_ic dX9_nights_77 zi_1 ?_
          refine w_iai dX9_nights_78 hJ.1 zs_418 (by have := zt_1; omega) (by have := zt_1; omega) zu_418 ?_
          intro x19 f16 h17 h18
          replace hb : zHd _ := hb x19.toInt (ziEk f16 (by decide))
          refine w_si dX9_nights_79 (c := 999) (by decide) ?_
          rcases zcut x19.toInt (999 : Int) with h20 | h20
          · skip
            replace hb : zHd _ := hb.1 h20
            refine w_cge_f dX9_nights_82 (t := 96) rfl (by have := zt_999; omega) ?_
            refine w_lo dX9_nights_85 rfl rfl rfl rfl ?_
            refine w_ic dX9_nights_86 zi_1 ?_
            refine w_iv dX9_nights_87 rfl rfl (As := [.int 1]) rfl rfl hJ.1.1 zs_386 (Nat.le_of_ble_eq_true rfl) ?_
            obtain ⟨P23, hp24, hb⟩ := hb
            replace hb : zHd _ := hb
            have hp24c : b_2378 (zi M) (1 : Int32).toInt P23 := by rw [zt_1]; exact hp24
            refine ZV.imp (u_2378 1 (by have := zt_1; omega) (by have := zt_1; omega) hN hJ.1 hp24c) ?_
            rintro _ ⟨M21, rfl, hJ22, hq25⟩
            replace hb : zHd _ := hb  (zi M21) (zi_fr hJ22.2) hq25
            have hJ27 := zJ_trans hJ hJ22 (zSub_cons (fun _ _ h h' hk => zIR_a (by omega) (by omega)) (zSub_cons (fun _ _ h h' hk => zIR_a (by omega) (by omega)) (zSub_cons (fun _ _ h h' hk => zIR_a (by omega) (by omega)) (zSub_cons (fun _ _ h h' hk => zIR_s (zIR_a (by omega) (by omega))) (zSub_cons (fun _ _ h h' hk => zIR_s (zIR_s (zIR_e (by omega) (by omega) hk))) (zSub_cons (fun _ _ h h' hk => zIR_s (zIR_s (zIR_s (zIR_e (by omega) (by omega) hk)))) (zSub_cons (fun _ _ h h' hk => zIR_s (zIR_s (zIR_s (zIR_s (zIR_e (by omega) (by omega) hk))))) (zSub_cons (fun _ _ h h' hk => zIR_s (zIR_s (zIR_s (zIR_s (zIR_s (zIR_e (by omega) (by omega) hk)))))) (zSub_cons (fun _ _ h h' hk => zIR_s (zIR_s (zIR_s (zIR_s (zIR_s (zIR_s (zIR_e (by omega) (by omega) hk))))))) (zSub_cons (fun _ _ h h' hk => zIR_s (zIR_s (zIR_s (zIR_s (zIR_s (zIR_s (zIR_s (zIR_e (by omega) (by omega) hk)))))))) zSub_nil))))))))))
            show ZW _ _ _ _ _ _ _ (90, [some (.ref 386), some (.int v67_1), some (.int v67_2), some (.int v67_3), some (.int v67_4), some (.int v67_5), some (.int v67_6), some (.int v67_7), o67_8], [], M21)
            refine w_inc (kk := 7) dX9_nights_90 rfl (m := 1) (by decide) (by omega) ?_
            intro x28 h29
            refine ⟨_, rfl, ?_⟩
            replace hb : zHd _ := hb x28.toInt h29
            show ZW _ _ _ _ _ _ _ (93, [some (.ref 386), some (.int v67_1), some (.int v67_2), some (.int v67_3), some (.int v67_4), some (.int v67_5), some (.int v67_6), some (.int x28), o67_8], [], M21)
            refine w_gt dX9_nights_93 (t := 67) rfl ?_
            obtain ⟨m, hm, hI⟩ := hb
            exact (ih m hm).2.1 M21 v67_1 v67_2 v67_3 v67_4 v67_5 v67_6 x28 o67_8 hJ27 (by omega) (by omega) (by omega) (by omega) (by omega) (by omega) (zbot _) (ztop _) (zbot _) (ztop _) (by omega) (by omega) (by omega) (by omega) hI
          · skip
            replace hb : zHd _ := hb.2 h20
            refine w_cge_t dX9_nights_82 (t := 96) rfl (by have := zt_999; omega) ?_
            refine w_ic dX9_nights_96 zi_1 ?_
            refine w_lo (ml' := [some (.ref 386), some (.int v67_1), some (.int v67_2), some (.int v67_3), some (.int v67_4), some (.int v67_5), some (.int v67_6), some (.int 1), o67_8]) dX9_nights_97 rfl rfl rfl rfl ?_
            refine w_ic dX9_nights_99 zi_0 ?_
            refine w_lo (ml' := [some (.ref 386), some (.int v67_1), some (.int v67_2), some (.int v67_3), some (.int v67_4), some (.int v67_5), some (.int v67_6), some (.int 1), some (.int 0)]) dX9_nights_100 rfl rfl rfl rfl ?_
            obtain ⟨m, hm, hI⟩ := hb
            exact (ih m hm).2.2 M v67_1 v67_2 v67_3 v67_4 v67_5 v67_6 1 0 hJ (by omega) (by omega) (by omega) (by omega) (by omega) (by omega) (zbot _) (ztop _) (zbot _) (ztop _) (by omega) (by omega) (by have := zt_1; omega) (by have := zt_1; omega) (by have := zt_0; omega) (by have := zt_0; omega) hI
        · skip
          replace hb : zHd _ := hb.2 h15
          refine w_cge_t dX9_nights_70 (t := 96) rfl (by omega) ?_
          refine w_ic dX9_nights_96 zi_1 ?_
          refine w_lo (ml' := [some (.ref 386), some (.int v67_1), some (.int v67_2), some (.int v67_3), some (.int v67_4), some (.int v67_5), some (.int v67_6), some (.int 1), o67_8]) dX9_nights_97 rfl rfl rfl rfl ?_
          refine w_ic dX9_nights_99 zi_0 ?_
          refine w_lo (ml' := [some (.ref 386), some (.int v67_1), some (.int v67_2), some (.int v67_3), some (.int v67_4), some (.int v67_5), some (.int v67_6), some (.int 1), some (.int 0)]) dX9_nights_100 rfl rfl rfl rfl ?_
          obtain ⟨m, hm, hI⟩ := hb
          exact (ih m hm).2.2 M v67_1 v67_2 v67_3 v67_4 v67_5 v67_6 1 0 hJ (by omega) (by omega) (by omega) (by omega) (by omega) (by omega) (zbot _) (ztop _) (zbot _) (ztop _) (by omega) (by omega) (by have := zt_1; omega) (by have := zt_1; omega) (by have := zt_0; omega) (by have := zt_0; omega) hI
      · intro M v102_1 v102_2 v102_3 v102_4 v102_5 v102_6 v102_7 v102_8 hJ v102_10 v102_11 v102_20 v102_21 v102_30 v102_31 v102_40 v102_41 v102_50 v102_51 v102_60 v102_61 v102_70 v102_71 v102_80 v102_81 hI
        have hb : zHd _ := hb102 n (zi M) v102_1.toInt v102_2.toInt v102_3.toInt v102_4.toInt v102_5.toInt v102_6.toInt v102_7.toInt v102_8.toInt (zi_fr hJ.2) v102_10 v102_11 v102_20 v102_21 v102_30 v102_31 v102_60 v102_61 v102_70 v102_71 v102_80 v102_81 hI
        refine w_lo dX9_nights_102 rfl rfl rfl rfl ?_
        refine w_lo dX9_nights_104 rfl rfl rfl rfl ?_
        refine w_iv dX9_nights_105 rfl rfl (As := []) rfl rfl hJ.1.1 zs_386 (Nat.le_of_ble_eq_true rfl) ?_
        refine ZV.of (ini := false) rfl (Nat.le_of_ble_eq_true rfl) (by decide +kernel) ?_
        show ZW _ _ _ _ _ _ _ (0, [some (.ref 386)], [], M)
        refine w_lo dX9_many_0 rfl rfl rfl rfl ?_
        refine w_gf dX9_many_1 rfl hJ.1.1 zs_386 (zr_386_13 hJ.1) ?_
        refine w_lo dX9_many_4 rfl rfl rfl rfl ?_
        refine w_gfi dX9_many_5 rfl hJ.1 zs_386 (Nat.le_of_ble_eq_true rfl) zo_386_12 ?_
        intro x30 f31 h32 h33
        replace hb : zHd _ := hb x30.toInt (ziE f31) h32 h33
        refine w_iai dX9_many_8 hJ.1 zs_388 (by omega) (by omega) zu_388 ?_
        intro x37 f34 h35 h36
        replace hb : zHd _ := hb x37.toInt (ziEk f34 rfl) h35 h36
        refine w_eni dX9_many_9 rfl rfl ?_
        show ZW _ _ _ _ _ _ _ (108, [some (.ref 386), some (.int v102_1), some (.int v102_2), some (.int v102_3), some (.int v102_4), some (.int v102_5), some (.int v102_6), some (.int v102_7), some (.int v102_8)], [.int x37, .int v102_8], M)
        rcases zcut v102_8.toInt x37.toInt with h38 | h38
        · skip
          replace hb : zHd _ := hb.1 h38
          refine w_cge_f dX9_nights_108 (t := 168) rfl (by omega) ?_
          refine w_lo dX9_nights_111 rfl rfl rfl rfl ?_
          refine w_ic dX9_nights_113 zi_1 ?_
          refine w_lo dX9_nights_114 rfl rfl rfl rfl ?_
          refine w_gf dX9_nights_115 rfl hJ.1.1 zs_386 (zr_386_51 hJ.1) ?_
          refine w_bi dX9_nights_118 (c := 12) (by decide) ?_
          refine w_lo dX9_nights_120 rfl rfl rfl rfl ?_
          refine w_add dX9_nights_122 (by have := zt_12; omega) ?_
          intro x39 h40
          have := zt_12
          replace hb : zHd _ := hb x39.toInt (by have := zt_12; omega)
          refine w_iai dX9_nights_123 hJ.1 zs_420 (by omega) (by omega) zu_420 ?_
          intro x44 f41 h42 h43
          replace hb : zHd _ := hb x44.toInt (ziEk f41 rfl) h42 h43
          refine w_sub dX9_nights_124 (by have := zt_1; omega) ?_
          intro x45 h46
          have := zt_1
          replace hb : zHd _ := hb x45.toInt (by have := zt_1; omega)
          refine w_puI dX9_nights_125 rfl rfl ?_
          intro x47
          replace hb : zHd _ := hb x47.toInt 
          refine w_lo (ml' := [some (.ref 386), some (.int v102_1), some (.int v102_2), some (.int v102_3), some (.int x47), some (.int v102_5), some (.int v102_6), some (.int v102_7), some (.int v102_8)]) dX9_nights_126 rfl rfl rfl rfl ?_
          refine w_lo dX9_nights_128 rfl rfl rfl rfl ?_
          rcases Int.decEq v102_7.toInt (0 : Int) with h48 | h48
          · skip
            replace hb : zHd _ := hb.1 h48
            refine w_ieq_f dX9_nights_130 (t := 159) rfl (by omega) ?_
            refine w_lo dX9_nights_133 rfl rfl rfl rfl ?_
            refine w_lo dX9_nights_134 rfl rfl rfl rfl ?_
            refine w_iv dX9_nights_136 rfl rfl (As := [.int v102_8]) rfl rfl hJ.1.1 zs_386 (Nat.le_of_ble_eq_true rfl) ?_
            refine ZV.of (ini := false) rfl (Nat.le_of_ble_eq_true rfl) (by decide +kernel) ?_
            show ZW _ _ _ _ _ _ _ (0, [some (.ref 386), some (.int v102_8)], [], M)
            refine w_lo dX9_isGhost_0 rfl rfl rfl rfl ?_
            refine w_gf dX9_isGhost_1 rfl hJ.1.1 zs_386 (zr_386_19 hJ.1) ?_
            refine w_bi dX9_isGhost_4 (c := 12) (by decide) ?_
            refine w_lo dX9_isGhost_6 rfl rfl rfl rfl ?_
            refine w_gf dX9_isGhost_7 rfl hJ.1.1 zs_386 f31 ?_
            refine w_mulc dX9_isGhost_10 zt_12 (by have := zt_12; omega) ?_
            intro x49 h50
            have := zt_12
            replace hb : zHd _ := hb x49.toInt (by have := zt_12; omega)
            refine w_lo dX9_isGhost_11 rfl rfl rfl rfl ?_
            refine w_add dX9_isGhost_12 (by omega) ?_
            intro x51 h52
            replace hb : zHd _ := hb x51.toInt (by omega)
            refine w_iai dX9_isGhost_13 hJ.1 zs_394 (by omega) (by omega) zu_394 ?_
            intro x56 f53 h54 h55
            replace hb : zHd _ := hb x56.toInt (ziEk f53 rfl) h54 h55
            refine w_ic dX9_isGhost_14 zi_2 ?_
            refine w_and dX9_isGhost_15 (m := 2) zt_2 (by omega) ?_
            intro x57 h58 h59
            replace hb : zHd _ := hb x57.toInt h58 h59
            rcases Int.decEq x57.toInt (0 : Int) with h60 | h60
            · skip
              replace hb : zHd _ := hb.1 h60
              refine w_ieq_f dX9_isGhost_16 (t := 23) rfl (by omega) ?_
              refine w_ic dX9_isGhost_19 zi_1 ?_
              refine w_gt dX9_isGhost_20 (t := 24) rfl ?_
              refine w_en dX9_isGhost_24 rfl ?_
              show ZW _ _ _ _ _ _ _ (139, [some (.ref 386), some (.int v102_1), some (.int v102_2), some (.int v102_3), some (.int x47), some (.int v102_5), some (.int v102_6), some (.int v102_7), some (.int v102_8)], [.int 1], M)
              refine w_ine_t dX9_nights_139 (t := 155) rfl (by have := zt_1; omega) ?_
              refine w_ic dX9_nights_155 zi_1 ?_
              refine w_gt dX9_nights_156 (t := 160) rfl ?_
              refine w_lo (ml' := [some (.ref 386), some (.int v102_1), some (.int v102_2), some (.int v102_3), some (.int x47), some (.int v102_5), some (.int v102_6), some (.int 1), some (.int v102_8)]) dX9_nights_160 rfl rfl rfl rfl ?_
              refine w_inc (kk := 8) dX9_nights_162 rfl (m := 1) (by decide) (by omega) ?_
              intro x61 h62
              refine ⟨_, rfl, ?_⟩
              replace hb : zHd _ := hb x61.toInt h62
              show ZW _ _ _ _ _ _ _ (165, [some (.ref 386), some (.int v102_1), some (.int v102_2), some (.int v102_3), some (.int x47), some (.int v102_5), some (.int v102_6), some (.int 1), some (.int x61)], [], M)
              refine w_gt dX9_nights_165 (t := 102) rfl ?_
              obtain ⟨m, hm, hI⟩ := hb
              exact (ih m hm).2.2 M v102_1 v102_2 v102_3 x47 v102_5 v102_6 1 x61 hJ (by omega) (by omega) (by omega) (by omega) (by omega) (by omega) (zbot _) (ztop _) (zbot _) (ztop _) (by omega) (by omega) (by have := zt_1; omega) (by have := zt_1; omega) (by omega) (by omega) hI
            · skip
              replace hb : zHd _ := hb.2 h60
              refine w_ieq_t dX9_isGhost_16 (t := 23) rfl (by omega) ?_
              refine w_ic dX9_isGhost_23 zi_0 ?_
              refine w_en dX9_isGhost_24 rfl ?_
              show ZW _ _ _ _ _ _ _ (139, [some (.ref 386), some (.int v102_1), some (.int v102_2), some (.int v102_3), some (.int x47), some (.int v102_5), some (.int v102_6), some (.int v102_7), some (.int v102_8)], [.int 0], M)
              refine w_ine_f dX9_nights_139 (t := 155) rfl (by have := zt_0; omega) ?_
              refine w_lo dX9_nights_142 rfl rfl rfl rfl ?_
              refine w_gf dX9_nights_143 rfl hJ.1.1 zs_386 (zr_386_51 hJ.1) ?_
              refine w_bi dX9_nights_146 (c := 12) (by decide) ?_
              refine w_lo dX9_nights_148 rfl rfl rfl rfl ?_
              refine w_add dX9_nights_150 (by have := zt_12; omega) ?_
              intro x63 h64
              have := zt_12
              replace hb : zHd _ := hb x63.toInt (by have := zt_12; omega)
              refine w_iai dX9_nights_151 hJ.1 zs_420 (by omega) (by omega) zu_420 ?_
              intro x68 f65 h66 h67
              replace hb : zHd _ := hb x68.toInt (ziEk f65 rfl) h66 h67
              rcases Int.decEq x68.toInt (0 : Int) with h69 | h69
              · skip
                replace hb : zHd _ := hb.1 h69
                refine w_ine_t dX9_nights_152 (t := 159) rfl (by omega) ?_
                refine w_ic dX9_nights_159 zi_0 ?_
                refine w_lo (ml' := [some (.ref 386), some (.int v102_1), some (.int v102_2), some (.int v102_3), some (.int x47), some (.int v102_5), some (.int v102_6), some (.int 0), some (.int v102_8)]) dX9_nights_160 rfl rfl rfl rfl ?_
                refine w_inc (kk := 8) dX9_nights_162 rfl (m := 1) (by decide) (by omega) ?_
                intro x70 h71
                refine ⟨_, rfl, ?_⟩
                replace hb : zHd _ := hb x70.toInt h71
                show ZW _ _ _ _ _ _ _ (165, [some (.ref 386), some (.int v102_1), some (.int v102_2), some (.int v102_3), some (.int x47), some (.int v102_5), some (.int v102_6), some (.int 0), some (.int x70)], [], M)
                refine w_gt dX9_nights_165 (t := 102) rfl ?_
                obtain ⟨m, hm, hI⟩ := hb
                exact (ih m hm).2.2 M v102_1 v102_2 v102_3 x47 v102_5 v102_6 0 x70 hJ (by omega) (by omega) (by omega) (by omega) (by omega) (by omega) (zbot _) (ztop _) (zbot _) (ztop _) (by omega) (by omega) (by have := zt_0; omega) (by have := zt_0; omega) (by omega) (by omega) hI
              · skip
                replace hb : zHd _ := hb.2 h69
                refine w_ine_f dX9_nights_152 (t := 159) rfl (by omega) ?_
                refine w_ic dX9_nights_155 zi_1 ?_
                refine w_gt dX9_nights_156 (t := 160) rfl ?_
                refine w_lo (ml' := [some (.ref 386), some (.int v102_1), some (.int v102_2), some (.int v102_3), some (.int x47), some (.int v102_5), some (.int v102_6), some (.int 1), some (.int v102_8)]) dX9_nights_160 rfl rfl rfl rfl ?_
                refine w_inc (kk := 8) dX9_nights_162 rfl (m := 1) (by decide) (by omega) ?_
                intro x72 h73
                refine ⟨_, rfl, ?_⟩
                replace hb : zHd _ := hb x72.toInt h73
                show ZW _ _ _ _ _ _ _ (165, [some (.ref 386), some (.int v102_1), some (.int v102_2), some (.int v102_3), some (.int x47), some (.int v102_5), some (.int v102_6), some (.int 1), some (.int x72)], [], M)
                refine w_gt dX9_nights_165 (t := 102) rfl ?_
                obtain ⟨m, hm, hI⟩ := hb
                exact (ih m hm).2.2 M v102_1 v102_2 v102_3 x47 v102_5 v102_6 1 x72 hJ (by omega) (by omega) (by omega) (by omega) (by omega) (by omega) (zbot _) (ztop _) (zbot _) (ztop _) (by omega) (by omega) (by have := zt_1; omega) (by have := zt_1; omega) (by omega) (by omega) hI
          · skip
            replace hb : zHd _ := hb.2 h48
            refine w_ieq_t dX9_nights_130 (t := 159) rfl (by omega) ?_
            refine w_ic dX9_nights_159 zi_0 ?_
            refine w_lo (ml' := [some (.ref 386), some (.int v102_1), some (.int v102_2), some (.int v102_3), some (.int x47), some (.int v102_5), some (.int v102_6), some (.int 0), some (.int v102_8)]) dX9_nights_160 rfl rfl rfl rfl ?_
            refine w_inc (kk := 8) dX9_nights_162 rfl (m := 1) (by decide) (by omega) ?_
            intro x74 h75
            refine ⟨_, rfl, ?_⟩
            replace hb : zHd _ := hb x74.toInt h75
            show ZW _ _ _ _ _ _ _ (165, [some (.ref 386), some (.int v102_1), some (.int v102_2), some (.int v102_3), some (.int x47), some (.int v102_5), some (.int v102_6), some (.int 0), some (.int x74)], [], M)
            refine w_gt dX9_nights_165 (t := 102) rfl ?_
            obtain ⟨m, hm, hI⟩ := hb
            exact (ih m hm).2.2 M v102_1 v102_2 v102_3 x47 v102_5 v102_6 0 x74 hJ (by omega) (by omega) (by omega) (by omega) (by omega) (by omega) (zbot _) (ztop _) (zbot _) (ztop _) (by omega) (by omega) (by have := zt_0; omega) (by have := zt_0; omega) (by omega) (by omega) hI
        · skip
          replace hb : zHd _ := hb.2 h38
          refine w_cge_t dX9_nights_108 (t := 168) rfl (by omega) ?_
          refine w_lo dX9_nights_168 rfl rfl rfl rfl ?_
          refine w_lo dX9_nights_170 rfl rfl rfl rfl ?_
          rcases Int.decEq v102_7.toInt (0 : Int) with h76 | h76
          · skip
            replace hb : zHd _ := hb.1 h76
            refine w_ieq_f dX9_nights_172 (t := 179) rfl (by omega) ?_
            refine w_ic dX9_nights_175 zi_1 ?_
            refine w_gt dX9_nights_176 (t := 180) rfl ?_
            refine w_puI dX9_nights_180 rfl rfl ?_
            intro x77
            replace hb : zHd _ := hb x77.toInt 
            refine w_lo (ml' := [some (.ref 386), some (.int v102_1), some (.int v102_2), some (.int v102_3), some (.int v102_4), some (.int x77), some (.int v102_6), some (.int v102_7), some (.int v102_8)]) dX9_nights_181 rfl rfl rfl rfl ?_
            refine w_inc (kk := 6) dX9_nights_183 rfl (m := 1) (by decide) (by omega) ?_
            intro x78 h79
            refine ⟨_, rfl, ?_⟩
            replace hb : zHd _ := hb x78.toInt h79
            show ZW _ _ _ _ _ _ _ (186, [some (.ref 386), some (.int v102_1), some (.int v102_2), some (.int v102_3), some (.int v102_4), some (.int x77), some (.int x78), some (.int v102_7), some (.int v102_8)], [], M)
            refine w_gt dX9_nights_186 (t := 52) rfl ?_
            obtain ⟨m, hm, hI⟩ := hb
            exact (ih m hm).1 M v102_1 v102_2 v102_3 v102_4 x77 x78 (some (.int v102_7)) (some (.int v102_8)) hJ (by omega) (by omega) (by omega) (by omega) (by omega) (by omega) (zbot _) (ztop _) (zbot _) (ztop _) (by omega) (by omega) hI
          · skip
            replace hb : zHd _ := hb.2 h76
            refine w_ieq_t dX9_nights_172 (t := 179) rfl (by omega) ?_
            refine w_ic dX9_nights_179 zi_0 ?_
            refine w_add dX9_nights_180 (by have := zt_0; omega) ?_
            intro x80 h81
            have := zt_0
            replace hb : zHd _ := hb x80.toInt (by have := zt_0; omega)
            refine w_lo (ml' := [some (.ref 386), some (.int v102_1), some (.int v102_2), some (.int v102_3), some (.int v102_4), some (.int x80), some (.int v102_6), some (.int v102_7), some (.int v102_8)]) dX9_nights_181 rfl rfl rfl rfl ?_
            refine w_inc (kk := 6) dX9_nights_183 rfl (m := 1) (by decide) (by omega) ?_
            intro x82 h83
            refine ⟨_, rfl, ?_⟩
            replace hb : zHd _ := hb x82.toInt h83
            show ZW _ _ _ _ _ _ _ (186, [some (.ref 386), some (.int v102_1), some (.int v102_2), some (.int v102_3), some (.int v102_4), some (.int x80), some (.int x82), some (.int v102_7), some (.int v102_8)], [], M)
            refine w_gt dX9_nights_186 (t := 52) rfl ?_
            obtain ⟨m, hm, hI⟩ := hb
            exact (ih m hm).1 M v102_1 v102_2 v102_3 v102_4 x80 x82 (some (.int v102_7)) (some (.int v102_8)) hJ (by omega) (by omega) (by omega) (by omega) (by omega) (by omega) (zbot _) (ztop _) (zbot _) (ztop _) (by omega) (by omega) hI
  have hb : zHd _ := hbE
  show ZW _ _ _ _ _ _ _ (0, [some (.ref 386), some (.int a0), some (.int a1), some (.int a2), none, none, none, none, none], [], M0)
  refine w_lo dX9_nights_0 rfl rfl rfl rfl ?_
  refine w_ic dX9_nights_1 zi_1 ?_
  refine w_bi dX9_nights_2 (c := 20) (by decide) ?_
  refine w_ss dX9_nights_4 rfl rfl (As := [.int a0, .int 1, .int 20]) rfl rfl (Nat.le_of_ble_eq_true rfl) ?_
  refine ZV.of (ini := false) rfl (Nat.le_of_ble_eq_true rfl) (by decide +kernel) ?_
  show ZW _ _ _ _ _ _ _ (0, [some (.int a0), some (.int 1), some (.int 20)], [], M0)
  refine w_lo dX9_is_0 rfl rfl rfl rfl ?_
  refine w_lo dX9_is_1 rfl rfl rfl rfl ?_
  rcases zcut a0.toInt (1 : Int) with h84 | h84
  · skip
    replace hb : zHd _ := hb.1 h84
    refine w_clt_t dX9_is_2 (t := 14) rfl (by have := zt_1; omega) ?_
    refine w_ic dX9_is_14 zi_0 ?_
    refine w_en dX9_is_15 rfl ?_
    show ZW _ _ _ _ _ _ _ (7, [some (.ref 386), some (.int a0), some (.int a1), some (.int a2), none, none, none, none, none], [.int 0], M0)
    refine w_ieq_t dX9_nights_7 (t := 36) rfl (by have := zt_0; omega) ?_
    refine w_ic dX9_nights_36 zi_m1 ?_
    refine w_en dX9_nights_37 rfl ?_
    exact ⟨_, _, rfl, (zbot _), (ztop _), hJ0, hb⟩
  · skip
    replace hb : zHd _ := hb.2 h84
    refine w_clt_f dX9_is_2 (t := 14) rfl (by have := zt_1; omega) ?_
    refine w_lo dX9_is_5 rfl rfl rfl rfl ?_
    refine w_lo dX9_is_6 rfl rfl rfl rfl ?_
    rcases zcut (20 : Int) a0.toInt with h85 | h85
    · skip
      replace hb : zHd _ := hb.1 h85
      refine w_cgt_t dX9_is_7 (t := 14) rfl (by have := zt_20; omega) ?_
      refine w_ic dX9_is_14 zi_0 ?_
      refine w_en dX9_is_15 rfl ?_
      show ZW _ _ _ _ _ _ _ (7, [some (.ref 386), some (.int a0), some (.int a1), some (.int a2), none, none, none, none, none], [.int 0], M0)
      refine w_ieq_t dX9_nights_7 (t := 36) rfl (by have := zt_0; omega) ?_
      refine w_ic dX9_nights_36 zi_m1 ?_
      refine w_en dX9_nights_37 rfl ?_
      exact ⟨_, _, rfl, (zbot _), (ztop _), hJ0, hb⟩
    · skip
      replace hb : zHd _ := hb.2 h85
      refine w_cgt_f dX9_is_7 (t := 14) rfl (by have := zt_20; omega) ?_
      refine w_ic dX9_is_10 zi_1 ?_
      refine w_gt dX9_is_11 (t := 15) rfl ?_
      refine w_en dX9_is_15 rfl ?_
      show ZW _ _ _ _ _ _ _ (7, [some (.ref 386), some (.int a0), some (.int a1), some (.int a2), none, none, none, none, none], [.int 1], M0)
      refine w_ieq_f dX9_nights_7 (t := 36) rfl (by have := zt_1; omega) ?_
      refine w_lo dX9_nights_10 rfl rfl rfl rfl ?_
      refine w_ic dX9_nights_11 zi_1 ?_
      refine w_bi dX9_nights_12 (c := 60) (by decide) ?_
      refine w_ss dX9_nights_14 rfl rfl (As := [.int a1, .int 1, .int 60]) rfl rfl (Nat.le_of_ble_eq_true rfl) ?_
      refine ZV.of (ini := false) rfl (Nat.le_of_ble_eq_true rfl) (by decide +kernel) ?_
      show ZW _ _ _ _ _ _ _ (0, [some (.int a1), some (.int 1), some (.int 60)], [], M0)
      refine w_lo dX9_is_0 rfl rfl rfl rfl ?_
      refine w_lo dX9_is_1 rfl rfl rfl rfl ?_
      rcases zcut a1.toInt (1 : Int) with h86 | h86
      · skip
        replace hb : zHd _ := hb.1 h86
        refine w_clt_t dX9_is_2 (t := 14) rfl (by have := zt_1; omega) ?_
        refine w_ic dX9_is_14 zi_0 ?_
        refine w_en dX9_is_15 rfl ?_
        show ZW _ _ _ _ _ _ _ (17, [some (.ref 386), some (.int a0), some (.int a1), some (.int a2), none, none, none, none, none], [.int 0], M0)
        refine w_ieq_t dX9_nights_17 (t := 36) rfl (by have := zt_0; omega) ?_
        refine w_ic dX9_nights_36 zi_m1 ?_
        refine w_en dX9_nights_37 rfl ?_
        exact ⟨_, _, rfl, (zbot _), (ztop _), hJ0, hb⟩
      · skip
        replace hb : zHd _ := hb.2 h86
        refine w_clt_f dX9_is_2 (t := 14) rfl (by have := zt_1; omega) ?_
        refine w_lo dX9_is_5 rfl rfl rfl rfl ?_
        refine w_lo dX9_is_6 rfl rfl rfl rfl ?_
        rcases zcut (60 : Int) a1.toInt with h87 | h87
        · skip
          replace hb : zHd _ := hb.1 h87
          refine w_cgt_t dX9_is_7 (t := 14) rfl (by have := zt_60; omega) ?_
          refine w_ic dX9_is_14 zi_0 ?_
          refine w_en dX9_is_15 rfl ?_
          show ZW _ _ _ _ _ _ _ (17, [some (.ref 386), some (.int a0), some (.int a1), some (.int a2), none, none, none, none, none], [.int 0], M0)
          refine w_ieq_t dX9_nights_17 (t := 36) rfl (by have := zt_0; omega) ?_
          refine w_ic dX9_nights_36 zi_m1 ?_
          refine w_en dX9_nights_37 rfl ?_
          exact ⟨_, _, rfl, (zbot _), (ztop _), hJ0, hb⟩
        · skip
          replace hb : zHd _ := hb.2 h87
          refine w_cgt_f dX9_is_7 (t := 14) rfl (by have := zt_60; omega) ?_
          refine w_ic dX9_is_10 zi_1 ?_
          refine w_gt dX9_is_11 (t := 15) rfl ?_
          refine w_en dX9_is_15 rfl ?_
          show ZW _ _ _ _ _ _ _ (17, [some (.ref 386), some (.int a0), some (.int a1), some (.int a2), none, none, none, none, none], [.int 1], M0)
          refine w_ieq_f dX9_nights_17 (t := 36) rfl (by have := zt_1; omega) ?_
          refine w_lo dX9_nights_20 rfl rfl rfl rfl ?_
          refine w_ic dX9_nights_21 zi_0 ?_
          refine w_ic dX9_nights_22 zi_2 ?_
          refine w_ss dX9_nights_23 rfl rfl (As := [.int a2, .int 0, .int 2]) rfl rfl (Nat.le_of_ble_eq_true rfl) ?_
          refine ZV.of (ini := false) rfl (Nat.le_of_ble_eq_true rfl) (by decide +kernel) ?_
          show ZW _ _ _ _ _ _ _ (0, [some (.int a2), some (.int 0), some (.int 2)], [], M0)
          refine w_lo dX9_is_0 rfl rfl rfl rfl ?_
          refine w_lo dX9_is_1 rfl rfl rfl rfl ?_
          rcases zcut a2.toInt (0 : Int) with h88 | h88
          · skip
            replace hb : zHd _ := hb.1 h88
            refine w_clt_t dX9_is_2 (t := 14) rfl (by have := zt_0; omega) ?_
            refine w_ic dX9_is_14 zi_0 ?_
            refine w_en dX9_is_15 rfl ?_
            show ZW _ _ _ _ _ _ _ (26, [some (.ref 386), some (.int a0), some (.int a1), some (.int a2), none, none, none, none, none], [.int 0], M0)
            refine w_ieq_t dX9_nights_26 (t := 36) rfl (by have := zt_0; omega) ?_
            refine w_ic dX9_nights_36 zi_m1 ?_
            refine w_en dX9_nights_37 rfl ?_
            exact ⟨_, _, rfl, (zbot _), (ztop _), hJ0, hb⟩
          · skip
            replace hb : zHd _ := hb.2 h88
            refine w_clt_f dX9_is_2 (t := 14) rfl (by have := zt_0; omega) ?_
            refine w_lo dX9_is_5 rfl rfl rfl rfl ?_
            refine w_lo dX9_is_6 rfl rfl rfl rfl ?_
            rcases zcut (2 : Int) a2.toInt with h89 | h89
            · skip
              replace hb : zHd _ := hb.1 h89
              refine w_cgt_t dX9_is_7 (t := 14) rfl (by have := zt_2; omega) ?_
              refine w_ic dX9_is_14 zi_0 ?_
              refine w_en dX9_is_15 rfl ?_
              show ZW _ _ _ _ _ _ _ (26, [some (.ref 386), some (.int a0), some (.int a1), some (.int a2), none, none, none, none, none], [.int 0], M0)
              refine w_ieq_t dX9_nights_26 (t := 36) rfl (by have := zt_0; omega) ?_
              refine w_ic dX9_nights_36 zi_m1 ?_
              refine w_en dX9_nights_37 rfl ?_
              exact ⟨_, _, rfl, (zbot _), (ztop _), hJ0, hb⟩
            · skip
              replace hb : zHd _ := hb.2 h89
              refine w_cgt_f dX9_is_7 (t := 14) rfl (by have := zt_2; omega) ?_
              refine w_ic dX9_is_10 zi_1 ?_
              refine w_gt dX9_is_11 (t := 15) rfl ?_
              refine w_en dX9_is_15 rfl ?_
              show ZW _ _ _ _ _ _ _ (26, [some (.ref 386), some (.int a0), some (.int a1), some (.int a2), none, none, none, none, none], [.int 1], M0)
              refine w_ieq_f dX9_nights_26 (t := 36) rfl (by have := zt_1; omega) ?_
              refine w_lo dX9_nights_29 rfl rfl rfl rfl ?_
              refine w_iv dX9_nights_30 rfl rfl (As := []) rfl rfl hJ0.1.1 zs_386 (Nat.le_of_ble_eq_true rfl) ?_
              refine ZV.of (ini := false) rfl (Nat.le_of_ble_eq_true rfl) (by decide +kernel) ?_
              show ZW _ _ _ _ _ _ _ (0, [some (.ref 386)], [], M0)
              refine w_lo dX9_many_0 rfl rfl rfl rfl ?_
              refine w_gf dX9_many_1 rfl hJ0.1.1 zs_386 (zr_386_13 hJ0.1) ?_
              refine w_lo dX9_many_4 rfl rfl rfl rfl ?_
              refine w_gfi dX9_many_5 rfl hJ0.1 zs_386 (Nat.le_of_ble_eq_true rfl) zo_386_12 ?_
              intro x90 f91 h92 h93
              replace hb : zHd _ := hb x90.toInt (ziE f91) h92 h93
              refine w_iai dX9_many_8 hJ0.1 zs_388 (by omega) (by omega) zu_388 ?_
              intro x97 f94 h95 h96
              replace hb : zHd _ := hb x97.toInt (ziEk f94 rfl) h95 h96
              refine w_eni dX9_many_9 rfl rfl ?_
              show ZW _ _ _ _ _ _ _ (33, [some (.ref 386), some (.int a0), some (.int a1), some (.int a2), none, none, none, none, none], [.int x97], M0)
              rcases Int.decEq x97.toInt (0 : Int) with h98 | h98
              · skip
                replace hb : zHd _ := hb.1 h98
                refine w_ine_t dX9_nights_33 (t := 38) rfl (by omega) ?_
                refine w_lo dX9_nights_38 rfl rfl rfl rfl ?_
                refine w_ic dX9_nights_39 zi_0 ?_
                refine w_pfi dX9_nights_40 rfl hJ0 zs_386 (Nat.le_of_ble_eq_true rfl) zo_386_75 (zbot _) (ztop _) (zIR_s (zIR_s (zIR_s (zIR_s (zIR_s (zIR_s (zIR_s (zIR_k (by omega) (by omega))))))))) rfl rfl rfl ?_
                intro M99 hJ100 f101 hn102
                replace hb : zHd _ := hb (zi M99) (zi_zup hn102 f101 rfl zt_0)
                refine w_ic dX9_nights_43 zi_0 ?_
                refine w_lo (ml' := [some (.ref 386), some (.int a0), some (.int a1), some (.int a2), some (.int 0), none, none, none, none]) dX9_nights_44 rfl rfl rfl rfl ?_
                refine w_ic dX9_nights_46 zi_0 ?_
                refine w_lo (ml' := [some (.ref 386), some (.int a0), some (.int a1), some (.int a2), some (.int 0), some (.int 0), none, none, none]) dX9_nights_47 rfl rfl rfl rfl ?_
                refine w_ic dX9_nights_49 zi_0 ?_
                refine w_lo (ml' := [some (.ref 386), some (.int a0), some (.int a1), some (.int a2), some (.int 0), some (.int 0), some (.int 0), none, none]) dX9_nights_50 rfl rfl rfl rfl ?_
                obtain ⟨m, hI⟩ := hb
                exact (main m).1 M99 a0 a1 a2 0 0 0 none none hJ100 (by omega) (by omega) (by omega) (by omega) (by omega) (by omega) (zbot _) (ztop _) (zbot _) (ztop _) (by have := zt_0; omega) (by have := zt_0; omega) hI
              · skip
                replace hb : zHd _ := hb.2 h98
                refine w_ine_f dX9_nights_33 (t := 38) rfl (by omega) ?_
                refine w_ic dX9_nights_36 zi_m1 ?_
                refine w_en dX9_nights_37 rfl ?_
                exact ⟨_, _, rfl, (zbot _), (ztop _), hJ0, hb⟩
