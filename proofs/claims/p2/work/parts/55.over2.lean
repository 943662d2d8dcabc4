/-! the reference's methods over private stubs, further (wip/safe/mks2.py) -/
set_option maxRecDepth 100000 in
theorem k_2409 {X : List Int32} {d N : Nat} {M0 : zM} (a0 : Int32) (ha00 : (-2147483648 : Int) ≤ a0.toInt) (ha01 : a0.toInt ≤ 255) (hN : N ≤ 600) (hB0 : zB N M0) : ZV X (d + 9) 2409 [.ref 386, .int a0] M0 (zRI N [(416, 418, 1000), (434, 436, 1000), (386, 387, 70), (386, 387, 71), (386, 387, 74)] M0 (-2147483648) (2147483647) (fun _ _ => True)) := by
  have hJ0 : zJ N [(416, 418, 1000), (434, 436, 1000), (386, 387, 70), (386, 387, 71), (386, 387, 74)] M0 M0 := zJ_refl hB0
  refine ZV.of (ini := false) rfl (Nat.le_of_ble_eq_true rfl) (by decide +kernel) ?_
  have main : ∀ n : Nat,
      (∀ (M : zM) (v7_1 : Int32) (v7_2 : Int32) (r_7 : Int32), zJ N [(416, 418, 1000), (434, 436, 1000), (386, 387, 70), (386, 387, 71), (386, 387, 74)] M0 M → ((-2147483648 : Int) ≤ v7_1.toInt) → (v7_1.toInt ≤ 255) → ((0 : Int) ≤ v7_2.toInt) → (v7_2.toInt ≤ 12) → (zvl M (386) 70 = some (.int r_7)) → (0 ≤ r_7.toInt) → (r_7.toInt ≤ v7_2.toInt) → 3 * (12 - v7_2.toInt) + 1 < (n : Int) → ZW X (d + 8) 9 false (some .int) cX9_ropeOf (zRI N [(416, 418, 1000), (434, 436, 1000), (386, 387, 70), (386, 387, 71), (386, 387, 74)] M0 (-2147483648) (2147483647) (fun _ _ => True)) (7, [some (.ref 386), some (.int v7_1), some (.int v7_2)], [], M)) := by
    intro n
    induction n with
    | zero =>
      exact (fun M v7_1 v7_2 r_7 hJ v7_10 v7_11 v7_20 v7_21 hfr_7 hrr_70 hrr_71 hn => absurd hn (by omega))
    | succ n ih =>
      have ih7 := ih
      · intro M v7_1 v7_2 r_7 hJ v7_10 v7_11 v7_20 v7_21 hfr_7 hrr_70 hrr_71 hn
        refine w_lo dX9_ropeOf_7 rfl rfl rfl rfl ?_
        refine w_lo dX9_ropeOf_8 rfl rfl rfl rfl ?_
        refine w_iv dX9_ropeOf_9 rfl rfl (As := []) rfl rfl hJ.1.1 zs_386 (Nat.le_of_ble_eq_true rfl) ?_
        refine ZV.of (ini := false) rfl (Nat.le_of_ble_eq_true rfl) (by decide +kernel) ?_
        show ZW _ _ _ _ _ _ _ (0, [some (.ref 386)], [], M)
        refine w_lo dX9_many_0 rfl rfl rfl rfl ?_
        refine w_gf dX9_many_1 rfl hJ.1.1 zs_386 (zr_386_13 hJ.1) ?_
        refine w_lo dX9_many_4 rfl rfl rfl rfl ?_
        refine w_gfi dX9_many_5 rfl hJ.1 zs_386 (Nat.le_of_ble_eq_true rfl) zo_386_12 ?_
        intro x1 f2 h3 h4
        refine w_iai dX9_many_8 hJ.1 zs_388 (by omega) (by omega) zu_388 ?_
        intro x8 f5 h6 h7
        refine w_eni dX9_many_9 rfl rfl ?_
        show ZW _ _ _ _ _ _ _ (12, [some (.ref 386), some (.int v7_1), some (.int v7_2)], [.int x8, .int v7_2], M)
        rcases zcut v7_2.toInt x8.toInt with h9 | h9
        · skip
          refine w_cge_f dX9_ropeOf_12 (t := 62) rfl (by omega) ?_
          refine w_lo dX9_ropeOf_15 rfl rfl rfl rfl ?_
          refine w_lo dX9_ropeOf_16 rfl rfl rfl rfl ?_
          refine w_gf dX9_ropeOf_17 rfl hJ.1.1 zs_386 (zr_386_50 hJ.1) ?_
          refine w_lo dX9_ropeOf_20 rfl rfl rfl rfl ?_
          refine w_iai dX9_ropeOf_21 hJ.1 zs_419 (by omega) (by omega) zu_419 ?_
          intro x13 f10 h11 h12
          refine w_puI dX9_ropeOf_22 rfl rfl ?_
          intro x14
          refine w_ic dX9_ropeOf_23 zi_1 ?_
          refine w_and dX9_ropeOf_24 (m := 1) zt_1 (by omega) ?_
          intro x15 h16 h17
          rcases Int.decEq x15.toInt (0 : Int) with h18 | h18
          · skip
            refine w_ine_t dX9_ropeOf_25 (t := 31) rfl (by omega) ?_
            refine w_lo dX9_ropeOf_31 rfl rfl rfl rfl ?_
            refine w_gf dX9_ropeOf_32 rfl hJ.1.1 zs_386 (zr_386_69 hJ.1) ?_
            refine w_lo dX9_ropeOf_35 rfl rfl rfl rfl ?_
            refine w_gf dX9_ropeOf_36 rfl hJ.1.1 zs_386 hfr_7 ?_
            refine w_lo dX9_ropeOf_39 rfl rfl rfl rfl ?_
            refine w_gf dX9_ropeOf_40 rfl hJ.1.1 zs_386 (zr_386_50 hJ.1) ?_
            refine w_lo dX9_ropeOf_43 rfl rfl rfl rfl ?_
            refine w_ia dX9_ropeOf_44 hJ.1.1 zs_419 (znat (by omega)) f10 ?_
            refine w_isi dX9_ropeOf_45 hJ zs_434 (by omega) (by omega) zu_434 (by omega) (by omega) (zIR_s (zIR_a (by omega) (by omega))) ?_
            intro M22 hJ23 f24 hn25
            refine w_lo dX9_ropeOf_46 rfl rfl rfl rfl ?_
            refine w_pu dX9_ropeOf_47 rfl rfl ?_
            have f26 := (hn25 (386) 70 (Or.inl (by omega))).trans (hfr_7)
            refine w_gf dX9_ropeOf_48 rfl hJ23.1.1 zs_386 f26 ?_
            refine w_ic dX9_ropeOf_51 zi_1 ?_
            refine w_add dX9_ropeOf_52 (by have := zt_1; omega) ?_
            intro x27 h28
            have := zt_1
            refine w_pfi dX9_ropeOf_53 rfl hJ23 zs_386 (Nat.le_of_ble_eq_true rfl) zo_386_70 (by omega) (by omega) (zIR_s (zIR_s (zIR_k (by omega) (by omega)))) rfl rfl rfl ?_
            intro M29 hJ30 f31 hn32
            refine w_inc (kk := 2) dX9_ropeOf_56 rfl (m := 1) (by decide) (by omega) ?_
            intro x33 h34
            refine ⟨_, rfl, ?_⟩
            show ZW _ _ _ _ _ _ _ (59, [some (.ref 386), some (.int v7_1), some (.int x33)], [], M29)
            refine w_gt dX9_ropeOf_59 (t := 7) rfl ?_
            exact ih7 M29 v7_1 x33 x27 hJ30 (zbot _) (by omega) (by omega) (by omega) f31 (by omega) (by omega) (by omega)
          · skip
            refine w_ine_f dX9_ropeOf_25 (t := 31) rfl (by omega) ?_
            refine w_gt dX9_ropeOf_28 (t := 56) rfl ?_
            refine w_inc (kk := 2) dX9_ropeOf_56 rfl (m := 1) (by decide) (by omega) ?_
            intro x35 h36
            refine ⟨_, rfl, ?_⟩
            show ZW _ _ _ _ _ _ _ (59, [some (.ref 386), some (.int v7_1), some (.int x35)], [], M)
            refine w_gt dX9_ropeOf_59 (t := 7) rfl ?_
            exact ih7 M v7_1 x35 r_7 hJ (zbot _) (by omega) (by omega) (by omega) hfr_7 (by omega) (by omega) (by omega)
        · skip
          refine w_cge_t dX9_ropeOf_12 (t := 62) rfl (by omega) ?_
          refine w_lo dX9_ropeOf_62 rfl rfl rfl rfl ?_
          refine w_iv dX9_ropeOf_63 rfl rfl (As := []) rfl rfl hJ.1.1 zs_386 (Nat.le_of_ble_eq_true rfl) ?_
          refine ZV.imp (k_2401 hN hJ.1) ?_
          rintro _ ⟨x40, M37, rfl, h41, h42, hJ38, hq39⟩
          have hJ43 := zJ_trans hJ hJ38 (zSub_cons (fun _ _ h h' hk => zIR_a (by omega) (by omega)) (zSub_cons (fun _ _ h h' hk => zIR_s (zIR_a (by omega) (by omega))) (zSub_cons (fun _ _ h h' hk => zIR_s (zIR_s (zIR_s (zIR_e (by omega) (by omega) hk)))) (zSub_cons (fun _ _ h h' hk => zIR_s (zIR_s (zIR_s (zIR_s (zIR_e (by omega) (by omega) hk))))) zSub_nil))))
          show ZW _ _ _ _ _ _ _ (66, [some (.ref 386), some (.int v7_1), some (.int v7_2)], [.int x40], M37)
          refine w_eni dX9_ropeOf_66 rfl rfl ?_
          exact ⟨_, _, rfl, (zbot _), (ztop _), hJ43, trivial⟩
  have ih7 := main 48
  show ZW _ _ _ _ _ _ _ (0, [some (.ref 386), some (.int a0), none], [], M0)
  refine w_lo dX9_ropeOf_0 rfl rfl rfl rfl ?_
  refine w_ic dX9_ropeOf_1 zi_0 ?_
  refine w_pfi dX9_ropeOf_2 rfl hJ0 zs_386 (Nat.le_of_ble_eq_true rfl) zo_386_70 (by have := zt_0; omega) (by have := zt_0; omega) (zIR_s (zIR_s (zIR_k (by omega) (by omega)))) rfl rfl rfl ?_
  intro M44 hJ45 f46 hn47
  refine w_ic dX9_ropeOf_5 zi_0 ?_
  refine w_lo (ml' := [some (.ref 386), some (.int a0), some (.int 0)]) dX9_ropeOf_6 rfl rfl rfl rfl ?_
  exact ih7 M44 a0 0 0 hJ45 (zbot _) (by omega) (by have := zt_0; omega) (by have := zt_0; omega) f46 (by have := zt_0; omega) (by have := zt_0; omega) (by have := zt_0; omega)
set_option maxRecDepth 100000 in
theorem k_2408 {X : List Int32} {d N : Nat} {M0 : zM} (a0 : Int32) (hN : N ≤ 600) (hB0 : zB N M0) : ZV X (d + 10) 2408 [.ref 386, .int a0] M0 (zRI N [(416, 418, 1000), (434, 436, 1000), (386, 387, 70), (386, 387, 71), (386, 387, 74)] M0 (-2147483648) (2147483647) (fun _ _ => True)) := by
  have hJ0 : zJ N [(416, 418, 1000), (434, 436, 1000), (386, 387, 70), (386, 387, 71), (386, 387, 74)] M0 M0 := zJ_refl hB0
  refine ZV.of (ini := false) rfl (Nat.le_of_ble_eq_true rfl) (by decide +kernel) ?_
  have main : ∀ n : Nat,
      (∀ (M : zM) (v41_1 : Int32) (v41_2 : Int32) (v41_3 : Int32) (v41_4 : Int32) (v41_5 : Int32) (o41_6 : Option Value), zJ N [(416, 418, 1000), (434, 436, 1000), (386, 387, 70), (386, 387, 71), (386, 387, 74)] M0 M → ((0 : Int) ≤ v41_1.toInt) → (v41_1.toInt ≤ 1) → ((0 : Int) ≤ v41_2.toInt) → (v41_2.toInt ≤ 255) → ((-1 : Int) ≤ v41_3.toInt) → (v41_3.toInt ≤ 255) → ((-2147483648 : Int) ≤ v41_4.toInt) → (v41_4.toInt ≤ 2147483647) → ((0 : Int) ≤ v41_5.toInt) → (v41_5.toInt ≤ 998) → 3 * (998 - v41_5.toInt) + 1 < (n : Int) → ZW X (d + 9) 9 false (some .int) cX9_two (zRI N [(416, 418, 1000), (434, 436, 1000), (386, 387, 70), (386, 387, 71), (386, 387, 74)] M0 (-2147483648) (2147483647) (fun _ _ => True)) (41, [some (.ref 386), some (.int v41_1), some (.int v41_2), some (.int v41_3), some (.int v41_4), some (.int v41_5), o41_6], [], M)) := by
    intro n
    induction n with
    | zero =>
      exact (fun M v41_1 v41_2 v41_3 v41_4 v41_5 o41_6 hJ v41_10 v41_11 v41_20 v41_21 v41_30 v41_31 v41_40 v41_41 v41_50 v41_51 hn => absurd hn (by omega))
    | succ n ih =>
      have ih41 := ih
      · intro M v41_1 v41_2 v41_3 v41_4 v41_5 o41_6 hJ v41_10 v41_11 v41_20 v41_21 v41_30 v41_31 v41_40 v41_41 v41_50 v41_51 hn
        refine w_lo dX9_two_41 rfl rfl rfl rfl ?_
        refine w_lo dX9_two_43 rfl rfl rfl rfl ?_
        rcases zcut v41_2.toInt v41_5.toInt with h1 | h1
        · skip
          refine w_cgt_t dX9_two_44 (t := 110) rfl (by omega) ?_
          refine w_lo dX9_two_110 rfl rfl rfl rfl ?_
          rcases Int.decEq v41_1.toInt (0 : Int) with h2 | h2
          · skip
            refine w_ine_t dX9_two_111 (t := 119) rfl (by omega) ?_
            refine w_lo dX9_two_119 rfl rfl rfl rfl ?_
            refine w_eni dX9_two_120 rfl rfl ?_
            exact ⟨_, _, rfl, (zbot _), (ztop _), hJ, trivial⟩
          · skip
            refine w_ine_f dX9_two_111 (t := 119) rfl (by omega) ?_
            refine w_lo dX9_two_114 rfl rfl rfl rfl ?_
            refine w_gt dX9_two_116 (t := 120) rfl ?_
            refine w_eni dX9_two_120 rfl rfl ?_
            exact ⟨_, _, rfl, (zbot _), (ztop _), hJ, trivial⟩
        · skip
          refine w_cgt_f dX9_two_44 (t := 110) rfl (by omega) ?_
          refine w_lo dX9_two_47 rfl rfl rfl rfl ?_
          refine w_lo dX9_two_49 rfl rfl rfl rfl ?_
          refine w_gf dX9_two_50 rfl hJ.1.1 zs_386 (zr_386_50 hJ.1) ?_
          refine w_ic dX9_two_53 zi_0 ?_
          refine w_iai dX9_two_54 hJ.1 zs_419 (by have := zt_0; omega) (by have := zt_0; omega) zu_419 ?_
          intro x6 f3 h4 h5
          refine w_puI dX9_two_55 rfl rfl ?_
          intro x7
          refine w_ic dX9_two_56 zi_1 ?_
          refine w_and dX9_two_57 (m := 1) zt_1 (by omega) ?_
          intro x8 h9 h10
          refine w_ic dX9_two_58 zi_1 ?_
          rcases Int.decEq x8.toInt (1 : Int) with h11 | h11
          · skip
            refine w_cne_t dX9_two_59 (t := 65) rfl (by have := zt_1; omega) ?_
            refine w_lo dX9_two_65 rfl rfl rfl rfl ?_
            refine w_lo dX9_two_66 rfl rfl rfl rfl ?_
            refine w_iv dX9_two_68 rfl rfl (As := [.int v41_5]) rfl rfl hJ.1.1 zs_386 (Nat.le_of_ble_eq_true rfl) ?_
            refine ZV.imp (k_2409 v41_5 (zbot _) (by omega) hN hJ.1) ?_
            rintro _ ⟨x15, M12, rfl, h16, h17, hJ13, hq14⟩
            have hJ18 := zJ_trans hJ hJ13 (zSub_cons (fun _ _ h h' hk => zIR_a (by omega) (by omega)) (zSub_cons (fun _ _ h h' hk => zIR_s (zIR_a (by omega) (by omega))) (zSub_cons (fun _ _ h h' hk => zIR_s (zIR_s (zIR_e (by omega) (by omega) hk))) (zSub_cons (fun _ _ h h' hk => zIR_s (zIR_s (zIR_s (zIR_e (by omega) (by omega) hk)))) (zSub_cons (fun _ _ h h' hk => zIR_s (zIR_s (zIR_s (zIR_s (zIR_e (by omega) (by omega) hk))))) zSub_nil)))))
            show ZW _ _ _ _ _ _ _ (71, [some (.ref 386), some (.int v41_1), some (.int v41_2), some (.int v41_3), some (.int v41_4), some (.int v41_5), o41_6], [.int x15], M12)
            refine w_lo dX9_two_71 rfl rfl rfl rfl ?_
            refine w_lo dX9_two_72 rfl rfl rfl rfl ?_
            refine w_lo dX9_two_73 rfl rfl rfl rfl ?_
            refine w_sub dX9_two_75 (by omega) ?_
            intro x19 h20
            refine w_iv dX9_two_76 rfl rfl (As := [.int x19]) rfl rfl hJ18.1.1 zs_386 (Nat.le_of_ble_eq_true rfl) ?_
            refine ZV.imp (k_2409 x19 (zbot _) (by omega) hN hJ18.1) ?_
            rintro _ ⟨x24, M21, rfl, h25, h26, hJ22, hq23⟩
            have hJ27 := zJ_trans hJ18 hJ22 (zSub_cons (fun _ _ h h' hk => zIR_a (by omega) (by omega)) (zSub_cons (fun _ _ h h' hk => zIR_s (zIR_a (by omega) (by omega))) (zSub_cons (fun _ _ h h' hk => zIR_s (zIR_s (zIR_e (by omega) (by omega) hk))) (zSub_cons (fun _ _ h h' hk => zIR_s (zIR_s (zIR_s (zIR_e (by omega) (by omega) hk)))) (zSub_cons (fun _ _ h h' hk => zIR_s (zIR_s (zIR_s (zIR_s (zIR_e (by omega) (by omega) hk))))) zSub_nil)))))
            show ZW _ _ _ _ _ _ _ (79, [some (.ref 386), some (.int v41_1), some (.int v41_2), some (.int v41_3), some (.int v41_4), some (.int v41_5), o41_6], [.int x24, .int x15], M21)
            refine w_puI dX9_two_79 rfl rfl ?_
            intro x28
            refine w_lo (ml' := [some (.ref 386), some (.int v41_1), some (.int v41_2), some (.int v41_3), some (.int v41_4), some (.int v41_5), some (.int x28)]) dX9_two_80 rfl rfl rfl rfl ?_
            refine w_lo dX9_two_82 rfl rfl rfl rfl ?_
            refine w_ic dX9_two_83 zi_m1 ?_
            rcases Int.decEq v41_3.toInt (-1 : Int) with h29 | h29
            · skip
              refine w_ceq_f dX9_two_84 (t := 97) rfl (by have := zt_m1; omega) ?_
              refine w_lo dX9_two_87 rfl rfl rfl rfl ?_
              refine w_lo dX9_two_89 rfl rfl rfl rfl ?_
              rcases zcut x28.toInt v41_4.toInt with h30 | h30
              · skip
                refine w_clt_t dX9_two_91 (t := 97) rfl (by omega) ?_
                refine w_lo dX9_two_97 rfl rfl rfl rfl ?_
                refine w_lo (ml' := [some (.ref 386), some (.int v41_1), some (.int v41_2), some (.int v41_5), some (.int v41_4), some (.int v41_5), some (.int x28)]) dX9_two_99 rfl rfl rfl rfl ?_
                refine w_lo dX9_two_100 rfl rfl rfl rfl ?_
                refine w_lo (ml' := [some (.ref 386), some (.int v41_1), some (.int v41_2), some (.int v41_5), some (.int x28), some (.int v41_5), some (.int x28)]) dX9_two_102 rfl rfl rfl rfl ?_
                refine w_inc (kk := 5) dX9_two_104 rfl (m := 1) (by decide) (by omega) ?_
                intro x31 h32
                refine ⟨_, rfl, ?_⟩
                show ZW _ _ _ _ _ _ _ (107, [some (.ref 386), some (.int v41_1), some (.int v41_2), some (.int v41_5), some (.int x28), some (.int x31), some (.int x28)], [], M21)
                refine w_gt dX9_two_107 (t := 41) rfl ?_
                exact ih41 M21 v41_1 v41_2 v41_5 x28 x31 (some (.int x28)) hJ27 (by omega) (by omega) (by omega) (by omega) (by omega) (by omega) (zbot _) (ztop _) (by omega) (by omega) (by omega)
              · skip
                refine w_clt_f dX9_two_91 (t := 97) rfl (by omega) ?_
                refine w_gt dX9_two_94 (t := 104) rfl ?_
                refine w_inc (kk := 5) dX9_two_104 rfl (m := 1) (by decide) (by omega) ?_
                intro x33 h34
                refine ⟨_, rfl, ?_⟩
                show ZW _ _ _ _ _ _ _ (107, [some (.ref 386), some (.int v41_1), some (.int v41_2), some (.int v41_3), some (.int v41_4), some (.int x33), some (.int x28)], [], M21)
                refine w_gt dX9_two_107 (t := 41) rfl ?_
                exact ih41 M21 v41_1 v41_2 v41_3 v41_4 x33 (some (.int x28)) hJ27 (by omega) (by omega) (by omega) (by omega) (by omega) (by omega) (zbot _) (ztop _) (by omega) (by omega) (by omega)
            · skip
              refine w_ceq_t dX9_two_84 (t := 97) rfl (by have := zt_m1; omega) ?_
              refine w_lo dX9_two_97 rfl rfl rfl rfl ?_
              refine w_lo (ml' := [some (.ref 386), some (.int v41_1), some (.int v41_2), some (.int v41_5), some (.int v41_4), some (.int v41_5), some (.int x28)]) dX9_two_99 rfl rfl rfl rfl ?_
              refine w_lo dX9_two_100 rfl rfl rfl rfl ?_
              refine w_lo (ml' := [some (.ref 386), some (.int v41_1), some (.int v41_2), some (.int v41_5), some (.int x28), some (.int v41_5), some (.int x28)]) dX9_two_102 rfl rfl rfl rfl ?_
              refine w_inc (kk := 5) dX9_two_104 rfl (m := 1) (by decide) (by omega) ?_
              intro x35 h36
              refine ⟨_, rfl, ?_⟩
              show ZW _ _ _ _ _ _ _ (107, [some (.ref 386), some (.int v41_1), some (.int v41_2), some (.int v41_5), some (.int x28), some (.int x35), some (.int x28)], [], M21)
              refine w_gt dX9_two_107 (t := 41) rfl ?_
              exact ih41 M21 v41_1 v41_2 v41_5 x28 x35 (some (.int x28)) hJ27 (by omega) (by omega) (by omega) (by omega) (by omega) (by omega) (zbot _) (ztop _) (by omega) (by omega) (by omega)
          · skip
            refine w_cne_f dX9_two_59 (t := 65) rfl (by have := zt_1; omega) ?_
            refine w_gt dX9_two_62 (t := 104) rfl ?_
            refine w_inc (kk := 5) dX9_two_104 rfl (m := 1) (by decide) (by omega) ?_
            intro x37 h38
            refine ⟨_, rfl, ?_⟩
            show ZW _ _ _ _ _ _ _ (107, [some (.ref 386), some (.int v41_1), some (.int v41_2), some (.int v41_3), some (.int v41_4), some (.int x37), o41_6], [], M)
            refine w_gt dX9_two_107 (t := 41) rfl ?_
            exact ih41 M v41_1 v41_2 v41_3 v41_4 x37 o41_6 hJ (by omega) (by omega) (by omega) (by omega) (by omega) (by omega) (zbot _) (ztop _) (by omega) (by omega) (by omega)
  have ih41 := main 3006
  show ZW _ _ _ _ _ _ _ (0, [some (.ref 386), some (.int a0), none, none, none, none, none], [], M0)
  refine w_lo dX9_two_0 rfl rfl rfl rfl ?_
  refine w_iv dX9_two_1 rfl rfl (As := []) rfl rfl hJ0.1.1 zs_386 (Nat.le_of_ble_eq_true rfl) ?_
  refine ZV.of (ini := false) rfl (Nat.le_of_ble_eq_true rfl) (by decide +kernel) ?_
  show ZW _ _ _ _ _ _ _ (0, [some (.ref 386)], [], M0)
  refine w_lo dX9_many_0 rfl rfl rfl rfl ?_
  refine w_gf dX9_many_1 rfl hJ0.1.1 zs_386 (zr_386_13 hJ0.1) ?_
  refine w_lo dX9_many_4 rfl rfl rfl rfl ?_
  refine w_gfi dX9_many_5 rfl hJ0.1 zs_386 (Nat.le_of_ble_eq_true rfl) zo_386_12 ?_
  intro x39 f40 h41 h42
  refine w_iai dX9_many_8 hJ0.1 zs_388 (by omega) (by omega) zu_388 ?_
  intro x46 f43 h44 h45
  refine w_eni dX9_many_9 rfl rfl ?_
  show ZW _ _ _ _ _ _ _ (4, [some (.ref 386), some (.int a0), none, none, none, none, none], [.int x46], M0)
  refine w_ic dX9_two_4 zi_2 ?_
  refine w_bi dX9_two_5 (c := 8) (by decide) ?_
  refine w_ss dX9_two_7 rfl rfl (As := [.int x46, .int 2, .int 8]) rfl rfl (Nat.le_of_ble_eq_true rfl) ?_
  refine ZV.of (ini := false) rfl (Nat.le_of_ble_eq_true rfl) (by decide +kernel) ?_
  show ZW _ _ _ _ _ _ _ (0, [some (.int x46), some (.int 2), some (.int 8)], [], M0)
  refine w_lo dX9_is_0 rfl rfl rfl rfl ?_
  refine w_lo dX9_is_1 rfl rfl rfl rfl ?_
  rcases zcut x46.toInt (2 : Int) with h47 | h47
  · skip
    refine w_clt_t dX9_is_2 (t := 14) rfl (by have := zt_2; omega) ?_
    refine w_ic dX9_is_14 zi_0 ?_
    refine w_en dX9_is_15 rfl ?_
    show ZW _ _ _ _ _ _ _ (10, [some (.ref 386), some (.int a0), none, none, none, none, none], [.int 0], M0)
    refine w_ieq_t dX9_two_10 (t := 22) rfl (by have := zt_0; omega) ?_
    refine w_ic dX9_two_22 zi_m1 ?_
    refine w_en dX9_two_23 rfl ?_
    exact ⟨_, _, rfl, (zbot _), (ztop _), hJ0, trivial⟩
  · skip
    refine w_clt_f dX9_is_2 (t := 14) rfl (by have := zt_2; omega) ?_
    refine w_lo dX9_is_5 rfl rfl rfl rfl ?_
    refine w_lo dX9_is_6 rfl rfl rfl rfl ?_
    rcases zcut (8 : Int) x46.toInt with h48 | h48
    · skip
      refine w_cgt_t dX9_is_7 (t := 14) rfl (by have := zt_8; omega) ?_
      refine w_ic dX9_is_14 zi_0 ?_
      refine w_en dX9_is_15 rfl ?_
      show ZW _ _ _ _ _ _ _ (10, [some (.ref 386), some (.int a0), none, none, none, none, none], [.int 0], M0)
      refine w_ieq_t dX9_two_10 (t := 22) rfl (by have := zt_0; omega) ?_
      refine w_ic dX9_two_22 zi_m1 ?_
      refine w_en dX9_two_23 rfl ?_
      exact ⟨_, _, rfl, (zbot _), (ztop _), hJ0, trivial⟩
    · skip
      refine w_cgt_f dX9_is_7 (t := 14) rfl (by have := zt_8; omega) ?_
      refine w_ic dX9_is_10 zi_1 ?_
      refine w_gt dX9_is_11 (t := 15) rfl ?_
      refine w_en dX9_is_15 rfl ?_
      show ZW _ _ _ _ _ _ _ (10, [some (.ref 386), some (.int a0), none, none, none, none, none], [.int 1], M0)
      refine w_ieq_f dX9_two_10 (t := 22) rfl (by have := zt_1; omega) ?_
      refine w_lo dX9_two_13 rfl rfl rfl rfl ?_
      refine w_ic dX9_two_14 zi_0 ?_
      refine w_ic dX9_two_15 zi_1 ?_
      refine w_ss dX9_two_16 rfl rfl (As := [.int a0, .int 0, .int 1]) rfl rfl (Nat.le_of_ble_eq_true rfl) ?_
      refine ZV.of (ini := false) rfl (Nat.le_of_ble_eq_true rfl) (by decide +kernel) ?_
      show ZW _ _ _ _ _ _ _ (0, [some (.int a0), some (.int 0), some (.int 1)], [], M0)
      refine w_lo dX9_is_0 rfl rfl rfl rfl ?_
      refine w_lo dX9_is_1 rfl rfl rfl rfl ?_
      rcases zcut a0.toInt (0 : Int) with h49 | h49
      · skip
        refine w_clt_t dX9_is_2 (t := 14) rfl (by have := zt_0; omega) ?_
        refine w_ic dX9_is_14 zi_0 ?_
        refine w_en dX9_is_15 rfl ?_
        show ZW _ _ _ _ _ _ _ (19, [some (.ref 386), some (.int a0), none, none, none, none, none], [.int 0], M0)
        refine w_ine_f dX9_two_19 (t := 24) rfl (by have := zt_0; omega) ?_
        refine w_ic dX9_two_22 zi_m1 ?_
        refine w_en dX9_two_23 rfl ?_
        exact ⟨_, _, rfl, (zbot _), (ztop _), hJ0, trivial⟩
      · skip
        refine w_clt_f dX9_is_2 (t := 14) rfl (by have := zt_0; omega) ?_
        refine w_lo dX9_is_5 rfl rfl rfl rfl ?_
        refine w_lo dX9_is_6 rfl rfl rfl rfl ?_
        rcases zcut (1 : Int) a0.toInt with h50 | h50
        · skip
          refine w_cgt_t dX9_is_7 (t := 14) rfl (by have := zt_1; omega) ?_
          refine w_ic dX9_is_14 zi_0 ?_
          refine w_en dX9_is_15 rfl ?_
          show ZW _ _ _ _ _ _ _ (19, [some (.ref 386), some (.int a0), none, none, none, none, none], [.int 0], M0)
          refine w_ine_f dX9_two_19 (t := 24) rfl (by have := zt_0; omega) ?_
          refine w_ic dX9_two_22 zi_m1 ?_
          refine w_en dX9_two_23 rfl ?_
          exact ⟨_, _, rfl, (zbot _), (ztop _), hJ0, trivial⟩
        · skip
          refine w_cgt_f dX9_is_7 (t := 14) rfl (by have := zt_1; omega) ?_
          refine w_ic dX9_is_10 zi_1 ?_
          refine w_gt dX9_is_11 (t := 15) rfl ?_
          refine w_en dX9_is_15 rfl ?_
          show ZW _ _ _ _ _ _ _ (19, [some (.ref 386), some (.int a0), none, none, none, none, none], [.int 1], M0)
          refine w_ine_t dX9_two_19 (t := 24) rfl (by have := zt_1; omega) ?_
          refine w_ic dX9_two_24 zi_1 ?_
          refine w_lo dX9_two_25 rfl rfl rfl rfl ?_
          refine w_iv dX9_two_26 rfl rfl (As := []) rfl rfl hJ0.1.1 zs_386 (Nat.le_of_ble_eq_true rfl) ?_
          refine ZV.of (ini := false) rfl (Nat.le_of_ble_eq_true rfl) (by decide +kernel) ?_
          show ZW _ _ _ _ _ _ _ (0, [some (.ref 386)], [], M0)
          refine w_lo dX9_many_0 rfl rfl rfl rfl ?_
          refine w_gf dX9_many_1 rfl hJ0.1.1 zs_386 (zr_386_13 hJ0.1) ?_
          refine w_lo dX9_many_4 rfl rfl rfl rfl ?_
          refine w_gf dX9_many_5 rfl hJ0.1.1 zs_386 f40 ?_
          refine w_ia dX9_many_8 hJ0.1.1 zs_388 (znat (by omega)) f43 ?_
          refine w_eni dX9_many_9 rfl rfl ?_
          show ZW _ _ _ _ _ _ _ (29, [some (.ref 386), some (.int a0), none, none, none, none, none], [.int x46, .int 1], M0)
          refine w_shl dX9_two_29 (by omega) (by omega) (m := 8) (by omega) ?_
          intro x54 h55 h56
          have : (2 : Int) ^ 8 = 256 := by decide
          refine w_ic dX9_two_30 zi_1 ?_
          refine w_sub dX9_two_31 (by have := zt_1; omega) ?_
          intro x57 h58
          have := zt_1
          refine w_lo (ml' := [some (.ref 386), some (.int a0), some (.int x57), none, none, none, none]) dX9_two_32 rfl rfl rfl rfl ?_
          refine w_ic dX9_two_33 zi_m1 ?_
          refine w_lo (ml' := [some (.ref 386), some (.int a0), some (.int x57), some (.int (-1)), none, none, none]) dX9_two_34 rfl rfl rfl rfl ?_
          refine w_ic dX9_two_35 zi_0 ?_
          refine w_lo (ml' := [some (.ref 386), some (.int a0), some (.int x57), some (.int (-1)), some (.int 0), none, none]) dX9_two_36 rfl rfl rfl rfl ?_
          refine w_ic dX9_two_38 zi_0 ?_
          refine w_lo (ml' := [some (.ref 386), some (.int a0), some (.int x57), some (.int (-1)), some (.int 0), some (.int 0), none]) dX9_two_39 rfl rfl rfl rfl ?_
          exact ih41 M0 a0 x57 (-1) 0 0 none hJ0 (by omega) (by omega) (by omega) (by omega) (by have := zt_m1; omega) (by have := zt_m1; omega) (zbot _) (ztop _) (by have := zt_0; omega) (by have := zt_0; omega) (by have := zt_m1; have := zt_0; omega)
