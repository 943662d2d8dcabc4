/-! the class's methods come to an end, within the box (wip/safe/mks.py) -/
set_option maxRecDepth 100000 in
theorem k_1289 {X : List Int32} {d N : Nat} {M0 : zM}  (hN : N ≤ 600) (hB0 : zB N M0) : ZV X (d + 1) 1289 [.ref 2] M0 (zRV N [(2, 3, 7)] M0 (fun _ => True)) := by
  have hJ0 : zJ N [(2, 3, 7)] M0 M0 := zJ_refl hB0
  refine ZV.of (ini := false) rfl (Nat.le_of_ble_eq_true rfl) (by decide +kernel) ?_
  show ZW _ _ _ _ _ _ _ (0, [some (.ref 2)], [], M0)
  refine w_lo dX5_step_0 rfl rfl rfl rfl ?_
  refine w_gfi dX5_step_1 rfl hJ0.1 zs_2 (Nat.le_of_ble_eq_true rfl) zo_2_7 ?_
  intro x1 f2 h3 h4
  refine w_lo dX5_step_4 rfl rfl rfl rfl ?_
  refine w_gfi dX5_step_5 rfl hJ0.1 zs_2 (Nat.le_of_ble_eq_true rfl) zo_2_6 ?_
  intro x5 f6 h7 h8
  refine w_ic dX5_step_8 zi_1 ?_
  refine w_sub dX5_step_9 (by have := zt_1; omega) ?_
  intro x9 h10
  have := zt_1
  rcases zcut x1.toInt x9.toInt with h11 | h11
  · skip
    refine w_cge_f dX5_step_10 (t := 23) rfl (by omega) ?_
    refine w_lo dX5_step_13 rfl rfl rfl rfl ?_
    refine w_pu dX5_step_14 rfl rfl ?_
    refine w_gf dX5_step_15 rfl hJ0.1.1 zs_2 f2 ?_
    refine w_ic dX5_step_18 zi_1 ?_
    refine w_add dX5_step_19 (by have := zt_1; omega) ?_
    intro x12 h13
    have := zt_1
    refine w_pfi dX5_step_20 rfl hJ0 zs_2 (Nat.le_of_ble_eq_true rfl) zo_2_7 (by omega) (by omega) (zIR_k (by omega) (by omega)) rfl rfl rfl ?_
    intro M14 hJ15 f16 hn17
    refine w_en dX5_step_23 rfl ?_
    exact ⟨_, rfl, hJ15, trivial⟩
  · skip
    refine w_cge_t dX5_step_10 (t := 23) rfl (by omega) ?_
    refine w_en dX5_step_23 rfl ?_
    exact ⟨_, rfl, hJ0, trivial⟩
set_option maxRecDepth 100000 in
theorem k_258 {X : List Int32} {d N : Nat} {M0 : zM} (t : Nat) (ht : zDm t) (a0 : Int32) (hN : N ≤ 600) (hB0 : zB N M0) : ZV X (d + 1) 258 [.ref t, .int a0] M0 (zRI N [] M0 (0) (1) (fun _ _ => True)) := by
  have hbt := zDm_b ht
  have hJ0 : zJ N [] M0 M0 := zJ_refl hB0
  refine ZV.of (ini := false) rfl (Nat.le_of_ble_eq_true rfl) (by decide +kernel) ?_
  have main : ∀ n : Nat,
      (∀ (M : zM) (v2_1 : Int32) (v2_2 : Int32), zJ N [] M0 M → ((-2147483648 : Int) ≤ v2_1.toInt) → (v2_1.toInt ≤ 2147483647) → ((0 : Int) ≤ v2_2.toInt) → (v2_2.toInt ≤ 12) → 4 * (12 - v2_2.toInt) + 34 < (n : Int) → ZW X (d + 0) 1 false (some .boolean) cX1_isTaken (zRI N [] M0 (0) (1) (fun _ _ => True)) (2, [some (.ref t), some (.int v2_1), some (.int v2_2)], [], M)) ∧
      (∀ (M : zM) (v30_1 : Int32) (v30_2 : Int32), zJ N [] M0 M → ((-2147483648 : Int) ≤ v30_1.toInt) → (v30_1.toInt ≤ 2147483647) → ((0 : Int) ≤ v30_2.toInt) → (v30_2.toInt ≤ 6) → 4 * (6 - v30_2.toInt) + 1 < (n : Int) → ZW X (d + 0) 1 false (some .boolean) cX1_isTaken (zRI N [] M0 (0) (1) (fun _ _ => True)) (30, [some (.ref t), some (.int v30_1), some (.int v30_2)], [], M)) := by
    intro n
    induction n with
    | zero =>
      exact ⟨(fun M v2_1 v2_2 hJ v2_10 v2_11 v2_20 v2_21 hn => absurd hn (by omega)), (fun M v30_1 v30_2 hJ v30_10 v30_11 v30_20 v30_21 hn => absurd hn (by omega))⟩
    | succ n ih =>
      obtain ⟨ih2, ih30⟩ := ih
      refine ⟨?_, ?_⟩
      · intro M v2_1 v2_2 hJ v2_10 v2_11 v2_20 v2_21 hn
        refine w_lo dX1_isTaken_2 rfl rfl rfl rfl ?_
        refine w_lo dX1_isTaken_3 rfl rfl rfl rfl ?_
        refine w_gfi dX1_isTaken_4 rfl hJ.1 (zs_1_0 ht) (Nat.le_of_ble_eq_true rfl) (zo_1_0_1 ht) ?_
        intro x1 f2 h3 h4
        rcases zcut v2_2.toInt x1.toInt with h5 | h5
        · skip
          refine w_cge_f dX1_isTaken_7 (t := 28) rfl (by omega) ?_
          refine w_lo dX1_isTaken_10 rfl rfl rfl rfl ?_
          refine w_gf dX1_isTaken_11 rfl hJ.1.1 (zs_1_0 ht) (zr_1_0_3 ht hJ.1) ?_
          refine w_lo dX1_isTaken_14 rfl rfl rfl rfl ?_
          refine w_iai dX1_isTaken_15 hJ.1 (zs_1_1 ht) (by omega) (by omega) (zu_1_1 ht) ?_
          intro x9 f6 h7 h8
          refine w_lo dX1_isTaken_16 rfl rfl rfl rfl ?_
          rcases Int.decEq x9.toInt v2_1.toInt with h10 | h10
          · skip
            refine w_cne_t dX1_isTaken_17 (t := 22) rfl (by omega) ?_
            refine w_inc (kk := 2) dX1_isTaken_22 rfl (m := 1) (by decide) (by omega) ?_
            intro x11 h12
            refine ⟨_, rfl, ?_⟩
            show ZW _ _ _ _ _ _ _ (25, [some (.ref t), some (.int v2_1), some (.int x11)], [], M)
            refine w_gt dX1_isTaken_25 (t := 2) rfl ?_
            exact ih2 M v2_1 x11 hJ (zbot _) (ztop _) (by omega) (by omega) (by omega)
          · skip
            refine w_cne_f dX1_isTaken_17 (t := 22) rfl (by omega) ?_
            refine w_ic dX1_isTaken_20 zi_1 ?_
            refine w_en dX1_isTaken_21 rfl ?_
            exact ⟨_, _, rfl, (by have := zt_1; omega), (by have := zt_1; omega), hJ, trivial⟩
        · skip
          refine w_cge_t dX1_isTaken_7 (t := 28) rfl (by omega) ?_
          refine w_ic dX1_isTaken_28 zi_0 ?_
          refine w_lo (ml' := [some (.ref t), some (.int v2_1), some (.int 0)]) dX1_isTaken_29 rfl rfl rfl rfl ?_
          exact ih30 M v2_1 0 hJ (zbot _) (ztop _) (by have := zt_0; omega) (by have := zt_0; omega) (by have := zt_0; omega)
      · intro M v30_1 v30_2 hJ v30_10 v30_11 v30_20 v30_21 hn
        refine w_lo dX1_isTaken_30 rfl rfl rfl rfl ?_
        refine w_lo dX1_isTaken_31 rfl rfl rfl rfl ?_
        refine w_gfi dX1_isTaken_32 rfl hJ.1 (zs_1_0 ht) (Nat.le_of_ble_eq_true rfl) (zo_1_0_2 ht) ?_
        intro x13 f14 h15 h16
        rcases zcut v30_2.toInt x13.toInt with h17 | h17
        · skip
          refine w_cge_f dX1_isTaken_35 (t := 56) rfl (by omega) ?_
          refine w_lo dX1_isTaken_38 rfl rfl rfl rfl ?_
          refine w_gf dX1_isTaken_39 rfl hJ.1.1 (zs_1_0 ht) (zr_1_0_9 ht hJ.1) ?_
          refine w_lo dX1_isTaken_42 rfl rfl rfl rfl ?_
          refine w_iai dX1_isTaken_43 hJ.1 (zs_1_7 ht) (by omega) (by omega) (zu_1_7 ht) ?_
          intro x21 f18 h19 h20
          refine w_lo dX1_isTaken_44 rfl rfl rfl rfl ?_
          rcases Int.decEq x21.toInt v30_1.toInt with h22 | h22
          · skip
            refine w_cne_t dX1_isTaken_45 (t := 50) rfl (by omega) ?_
            refine w_inc (kk := 2) dX1_isTaken_50 rfl (m := 1) (by decide) (by omega) ?_
            intro x23 h24
            refine ⟨_, rfl, ?_⟩
            show ZW _ _ _ _ _ _ _ (53, [some (.ref t), some (.int v30_1), some (.int x23)], [], M)
            refine w_gt dX1_isTaken_53 (t := 30) rfl ?_
            exact ih30 M v30_1 x23 hJ (zbot _) (ztop _) (by omega) (by omega) (by omega)
          · skip
            refine w_cne_f dX1_isTaken_45 (t := 50) rfl (by omega) ?_
            refine w_ic dX1_isTaken_48 zi_1 ?_
            refine w_en dX1_isTaken_49 rfl ?_
            exact ⟨_, _, rfl, (by have := zt_1; omega), (by have := zt_1; omega), hJ, trivial⟩
        · skip
          refine w_cge_t dX1_isTaken_35 (t := 56) rfl (by omega) ?_
          refine w_ic dX1_isTaken_56 zi_0 ?_
          refine w_en dX1_isTaken_57 rfl ?_
          exact ⟨_, _, rfl, (by have := zt_0; omega), (by have := zt_0; omega), hJ, trivial⟩
  obtain ⟨ih2, ih30⟩ := main 95
  show ZW _ _ _ _ _ _ _ (0, [some (.ref t), some (.int a0), none], [], M0)
  refine w_ic dX1_isTaken_0 zi_0 ?_
  refine w_lo (ml' := [some (.ref t), some (.int a0), some (.int 0)]) dX1_isTaken_1 rfl rfl rfl rfl ?_
  exact ih2 M0 a0 0 hJ0 (zbot _) (ztop _) (by have := zt_0; omega) (by have := zt_0; omega) (by have := zt_0; omega)
set_option maxRecDepth 100000 in
theorem k_1290 {X : List Int32} {d N : Nat} {M0 : zM}  (hN : N ≤ 600) (hB0 : zB N M0) : ZV X (d + 2) 1290 [.ref 2] M0 (zRI N [(2, 3, 0), (2, 3, 1), (2, 3, 7), (2, 3, 9)] M0 (0) (1) (fun _ _ => True)) := by
  have hJ0 : zJ N [(2, 3, 0), (2, 3, 1), (2, 3, 7), (2, 3, 9)] M0 M0 := zJ_refl hB0
  refine ZV.of (ini := false) rfl (Nat.le_of_ble_eq_true rfl) (by decide +kernel) ?_
  show ZW _ _ _ _ _ _ _ (0, [some (.ref 2)], [], M0)
  refine w_lo dX5_needsName_0 rfl rfl rfl rfl ?_
  refine w_gf dX5_needsName_1 rfl hJ0.1.1 zs_2 (zr_2_3 hJ0.1) ?_
  refine w_lo dX5_needsName_4 rfl rfl rfl rfl ?_
  refine w_gfi dX5_needsName_5 rfl hJ0.1 zs_2 (Nat.le_of_ble_eq_true rfl) zo_2_7 ?_
  intro x1 f2 h3 h4
  refine w_iai dX5_needsName_8 hJ0.1 zs_4 (by omega) (by omega) zu_4 ?_
  intro x8 f5 h6 h7
  refine w_ic dX5_needsName_9 zi_2 ?_
  rcases Int.decEq x8.toInt (2 : Int) with h9 | h9
  · skip
    refine w_cne_t dX5_needsName_10 (t := 21) rfl (by have := zt_2; omega) ?_
    refine w_lo dX5_needsName_21 rfl rfl rfl rfl ?_
    refine w_ic dX5_needsName_22 zi_1 ?_
    refine w_iv dX5_needsName_23 rfl rfl (As := [.int 1]) rfl rfl hJ0.1.1 zs_2 (Nat.le_of_ble_eq_true rfl) ?_
    refine ZV.imp (k_1286 1 (by have := zt_1; omega) (by have := zt_1; omega) hN hJ0.1) ?_
    rintro _ ⟨x13, M10, rfl, h14, h15, hJ11, hq12⟩
    have hJ16 := zJ_trans hJ0 hJ11 (zSub_cons (fun _ _ h h' hk => zIR_e (by omega) (by omega) hk) (zSub_cons (fun _ _ h h' hk => zIR_s (zIR_e (by omega) (by omega) hk)) zSub_nil))
    show ZW _ _ _ _ _ _ _ (26, [some (.ref 2)], [.int x13], M10)
    refine w_eni dX5_needsName_26 rfl (znb (by omega) (by omega)) ?_
    exact ⟨_, _, rfl, (by omega), (by omega), hJ16, trivial⟩
  · skip
    refine w_cne_f dX5_needsName_10 (t := 21) rfl (by have := zt_2; omega) ?_
    refine w_lo dX5_needsName_13 rfl rfl rfl rfl ?_
    refine w_iv dX5_needsName_14 rfl rfl (As := []) rfl rfl hJ0.1.1 zs_2 (Nat.le_of_ble_eq_true rfl) ?_
    refine ZV.imp (k_1287 hN hJ0.1) ?_
    rintro _ ⟨x20, M17, rfl, h21, h22, hJ18, hq19⟩
    have hJ23 := zJ_trans hJ0 hJ18 zSub_nil
    show ZW _ _ _ _ _ _ _ (17, [some (.ref 2)], [.int x20], M17)
    refine w_ic dX5_needsName_17 zi_m1 ?_
    rcases Int.decEq x20.toInt (-1 : Int) with h24 | h24
    · skip
      refine w_ceq_f dX5_needsName_18 (t := 27) rfl (by have := zt_m1; omega) ?_
      refine w_lo dX5_needsName_21 rfl rfl rfl rfl ?_
      refine w_ic dX5_needsName_22 zi_1 ?_
      refine w_iv dX5_needsName_23 rfl rfl (As := [.int 1]) rfl rfl hJ23.1.1 zs_2 (Nat.le_of_ble_eq_true rfl) ?_
      refine ZV.imp (k_1286 1 (by have := zt_1; omega) (by have := zt_1; omega) hN hJ23.1) ?_
      rintro _ ⟨x28, M25, rfl, h29, h30, hJ26, hq27⟩
      have hJ31 := zJ_trans hJ23 hJ26 (zSub_cons (fun _ _ h h' hk => zIR_e (by omega) (by omega) hk) (zSub_cons (fun _ _ h h' hk => zIR_s (zIR_e (by omega) (by omega) hk)) zSub_nil))
      show ZW _ _ _ _ _ _ _ (26, [some (.ref 2)], [.int x28], M25)
      refine w_eni dX5_needsName_26 rfl (znb (by omega) (by omega)) ?_
      exact ⟨_, _, rfl, (by omega), (by omega), hJ31, trivial⟩
    · skip
      refine w_ceq_t dX5_needsName_18 (t := 27) rfl (by have := zt_m1; omega) ?_
      refine w_lo dX5_needsName_27 rfl rfl rfl rfl ?_
      refine w_lo dX5_needsName_28 rfl rfl rfl rfl ?_
      refine w_gf dX5_needsName_29 rfl hJ23.1.1 zs_2 (zr_2_4 hJ23.1) ?_
      refine w_lo dX5_needsName_32 rfl rfl rfl rfl ?_
      have f32 := (hJ18.2 (2) 7 zNI_nil).trans (f2)
      refine w_gf dX5_needsName_33 rfl hJ23.1.1 zs_2 f32 ?_
      refine w_iai dX5_needsName_36 hJ23.1 zs_5 (by omega) (by omega) zu_5 ?_
      intro x36 f33 h34 h35
      refine w_pfi dX5_needsName_37 rfl hJ23 zs_2 (Nat.le_of_ble_eq_true rfl) zo_2_9 (zbot _) (ztop _) (zIR_s (zIR_s (zIR_s (zIR_k (by omega) (by omega))))) rfl rfl rfl ?_
      intro M37 hJ38 f39 hn40
      refine w_lo dX5_needsName_40 rfl rfl rfl rfl ?_
      obtain ⟨b41, f42, h43⟩ := zd_2_8 hJ38.1
      have h44 := zDm_b h43
      refine w_gf dX5_needsName_41 rfl hJ38.1.1 zs_2 f42 ?_
      refine w_lo dX5_needsName_44 rfl rfl rfl rfl ?_
      refine w_gf dX5_needsName_45 rfl hJ38.1.1 zs_2 f39 ?_
      refine w_iv dX5_needsName_48 rfl rfl (As := [.int x36]) rfl rfl hJ38.1.1 (zs_1_0 h43) (Nat.le_of_ble_eq_true rfl) ?_
      refine ZV.imp (k_258 b41 h43 x36 hN hJ38.1) ?_
      rintro _ ⟨x48, M45, rfl, h49, h50, hJ46, hq47⟩
      have hJ51 := zJ_trans hJ38 hJ46 zSub_nil
      show ZW _ _ _ _ _ _ _ (51, [some (.ref 2)], [.int x48], M45)
      rcases Int.decEq x48.toInt (0 : Int) with h52 | h52
      · skip
        refine w_ieq_f dX5_needsName_51 (t := 60) rfl (by omega) ?_
        refine w_lo dX5_needsName_54 rfl rfl rfl rfl ?_
        refine w_ic dX5_needsName_55 zi_2 ?_
        refine w_iv dX5_needsName_56 rfl rfl (As := [.int 2]) rfl rfl hJ51.1.1 zs_2 (Nat.le_of_ble_eq_true rfl) ?_
        refine ZV.imp (k_1286 2 (by have := zt_2; omega) (by have := zt_2; omega) hN hJ51.1) ?_
        rintro _ ⟨x56, M53, rfl, h57, h58, hJ54, hq55⟩
        have hJ59 := zJ_trans hJ51 hJ54 (zSub_cons (fun _ _ h h' hk => zIR_e (by omega) (by omega) hk) (zSub_cons (fun _ _ h h' hk => zIR_s (zIR_e (by omega) (by omega) hk)) zSub_nil))
        show ZW _ _ _ _ _ _ _ (59, [some (.ref 2)], [.int x56], M53)
        refine w_eni dX5_needsName_59 rfl (znb (by omega) (by omega)) ?_
        exact ⟨_, _, rfl, (by omega), (by omega), hJ59, trivial⟩
      · skip
        refine w_ieq_t dX5_needsName_51 (t := 60) rfl (by omega) ?_
        refine w_lo dX5_needsName_60 rfl rfl rfl rfl ?_
        refine w_iv dX5_needsName_61 rfl rfl (As := []) rfl rfl hJ51.1.1 zs_2 (Nat.le_of_ble_eq_true rfl) ?_
        refine ZV.imp (k_1289 hN hJ51.1) ?_
        rintro _ ⟨M60, rfl, hJ61, hq62⟩
        have hJ63 := zJ_trans hJ51 hJ61 (zSub_cons (fun _ _ h h' hk => zIR_s (zIR_s (zIR_e (by omega) (by omega) hk))) zSub_nil)
        show ZW _ _ _ _ _ _ _ (64, [some (.ref 2)], [], M60)
        refine w_ic dX5_needsName_64 zi_1 ?_
        refine w_en dX5_needsName_65 rfl ?_
        exact ⟨_, _, rfl, (by have := zt_1; omega), (by have := zt_1; omega), hJ63, trivial⟩
set_option maxRecDepth 100000 in
theorem k_1291 {X : List Int32} {d N : Nat} {M0 : zM} (a0 : Int32) (ha00 : (1 : Int) ≤ a0.toInt) (ha01 : a0.toInt ≤ 20) (hN : N ≤ 600) (hB0 : zB N M0) : ZV X (d + 2) 1291 [.ref 2, .int a0] M0 (zRI N [(2, 3, 0), (2, 3, 1), (2, 3, 7)] M0 (0) (1) (fun _ _ => True)) := by
  have hJ0 : zJ N [(2, 3, 0), (2, 3, 1), (2, 3, 7)] M0 M0 := zJ_refl hB0
  refine ZV.of (ini := false) rfl (Nat.le_of_ble_eq_true rfl) (by decide +kernel) ?_
  show ZW _ _ _ _ _ _ _ (0, [some (.ref 2), some (.int a0)], [], M0)
  refine w_lo dX5_needsOwn_0 rfl rfl rfl rfl ?_
  refine w_iv dX5_needsOwn_1 rfl rfl (As := []) rfl rfl hJ0.1.1 zs_2 (Nat.le_of_ble_eq_true rfl) ?_
  refine ZV.imp (k_1287 hN hJ0.1) ?_
  rintro _ ⟨x4, M1, rfl, h5, h6, hJ2, hq3⟩
  have hJ7 := zJ_trans hJ0 hJ2 zSub_nil
  show ZW _ _ _ _ _ _ _ (4, [some (.ref 2), some (.int a0)], [.int x4], M1)
  refine w_lo dX5_needsOwn_4 rfl rfl rfl rfl ?_
  rcases Int.decEq x4.toInt a0.toInt with h8 | h8
  · skip
    refine w_ceq_f dX5_needsOwn_5 (t := 14) rfl (by omega) ?_
    refine w_lo dX5_needsOwn_8 rfl rfl rfl rfl ?_
    refine w_ic dX5_needsOwn_9 zi_1 ?_
    refine w_iv dX5_needsOwn_10 rfl rfl (As := [.int 1]) rfl rfl hJ7.1.1 zs_2 (Nat.le_of_ble_eq_true rfl) ?_
    refine ZV.imp (k_1286 1 (by have := zt_1; omega) (by have := zt_1; omega) hN hJ7.1) ?_
    rintro _ ⟨x12, M9, rfl, h13, h14, hJ10, hq11⟩
    have hJ15 := zJ_trans hJ7 hJ10 (zSub_cons (fun _ _ h h' hk => zIR_e (by omega) (by omega) hk) (zSub_cons (fun _ _ h h' hk => zIR_s (zIR_e (by omega) (by omega) hk)) zSub_nil))
    show ZW _ _ _ _ _ _ _ (13, [some (.ref 2), some (.int a0)], [.int x12], M9)
    refine w_eni dX5_needsOwn_13 rfl (znb (by omega) (by omega)) ?_
    exact ⟨_, _, rfl, (by omega), (by omega), hJ15, trivial⟩
  · skip
    refine w_ceq_t dX5_needsOwn_5 (t := 14) rfl (by omega) ?_
    refine w_lo dX5_needsOwn_14 rfl rfl rfl rfl ?_
    refine w_iv dX5_needsOwn_15 rfl rfl (As := []) rfl rfl hJ7.1.1 zs_2 (Nat.le_of_ble_eq_true rfl) ?_
    refine ZV.imp (k_1289 hN hJ7.1) ?_
    rintro _ ⟨M16, rfl, hJ17, hq18⟩
    have hJ19 := zJ_trans hJ7 hJ17 (zSub_cons (fun _ _ h h' hk => zIR_s (zIR_s (zIR_e (by omega) (by omega) hk))) zSub_nil)
    show ZW _ _ _ _ _ _ _ (18, [some (.ref 2), some (.int a0)], [], M16)
    refine w_ic dX5_needsOwn_18 zi_1 ?_
    refine w_en dX5_needsOwn_19 rfl ?_
    exact ⟨_, _, rfl, (by have := zt_1; omega), (by have := zt_1; omega), hJ19, trivial⟩
set_option maxRecDepth 100000 in
theorem k_1292 {X : List Int32} {d N : Nat} {M0 : zM} (a0 : Int32) (ha00 : (0 : Int) ≤ a0.toInt) (ha01 : a0.toInt ≤ 1) (a1 : Int32) (ha10 : (60 : Int) ≤ a1.toInt) (ha11 : a1.toInt ≤ 999) (hN : N ≤ 600) (hB0 : zB N M0) : ZV X (d + 2) 1292 [.ref 2, .int a0, .int a1] M0 (zRI N [(2, 3, 0), (2, 3, 1), (2, 3, 10), (2, 3, 7)] M0 (0) (1) (fun _ _ => True)) := by
  have hJ0 : zJ N [(2, 3, 0), (2, 3, 1), (2, 3, 10), (2, 3, 7)] M0 M0 := zJ_refl hB0
  refine ZV.of (ini := false) rfl (Nat.le_of_ble_eq_true rfl) (by decide +kernel) ?_
  show ZW _ _ _ _ _ _ _ (0, [some (.ref 2), some (.int a0), some (.int a1)], [], M0)
  refine w_lo dX5_needsNumber_0 rfl rfl rfl rfl ?_
  refine w_gf dX5_needsNumber_1 rfl hJ0.1.1 zs_2 (zr_2_3 hJ0.1) ?_
  refine w_lo dX5_needsNumber_4 rfl rfl rfl rfl ?_
  refine w_gfi dX5_needsNumber_5 rfl hJ0.1 zs_2 (Nat.le_of_ble_eq_true rfl) zo_2_7 ?_
  intro x1 f2 h3 h4
  refine w_iai dX5_needsNumber_8 hJ0.1 zs_4 (by omega) (by omega) zu_4 ?_
  intro x8 f5 h6 h7
  refine w_ic dX5_needsNumber_9 zi_4 ?_
  rcases Int.decEq x8.toInt (4 : Int) with h9 | h9
  · skip
    refine w_ceq_f dX5_needsNumber_10 (t := 19) rfl (by have := zt_4; omega) ?_
    refine w_lo dX5_needsNumber_13 rfl rfl rfl rfl ?_
    refine w_ic dX5_needsNumber_14 zi_1 ?_
    refine w_iv dX5_needsNumber_15 rfl rfl (As := [.int 1]) rfl rfl hJ0.1.1 zs_2 (Nat.le_of_ble_eq_true rfl) ?_
    refine ZV.imp (k_1286 1 (by have := zt_1; omega) (by have := zt_1; omega) hN hJ0.1) ?_
    rintro _ ⟨x13, M10, rfl, h14, h15, hJ11, hq12⟩
    have hJ16 := zJ_trans hJ0 hJ11 (zSub_cons (fun _ _ h h' hk => zIR_e (by omega) (by omega) hk) (zSub_cons (fun _ _ h h' hk => zIR_s (zIR_e (by omega) (by omega) hk)) zSub_nil))
    show ZW _ _ _ _ _ _ _ (18, [some (.ref 2), some (.int a0), some (.int a1)], [.int x13], M10)
    refine w_eni dX5_needsNumber_18 rfl (znb (by omega) (by omega)) ?_
    exact ⟨_, _, rfl, (by omega), (by omega), hJ16, trivial⟩
  · skip
    refine w_ceq_t dX5_needsNumber_10 (t := 19) rfl (by have := zt_4; omega) ?_
    refine w_lo dX5_needsNumber_19 rfl rfl rfl rfl ?_
    refine w_lo dX5_needsNumber_20 rfl rfl rfl rfl ?_
    refine w_gf dX5_needsNumber_21 rfl hJ0.1.1 zs_2 (zr_2_4 hJ0.1) ?_
    refine w_lo dX5_needsNumber_24 rfl rfl rfl rfl ?_
    refine w_gf dX5_needsNumber_25 rfl hJ0.1.1 zs_2 f2 ?_
    refine w_iai dX5_needsNumber_28 hJ0.1 zs_5 (by omega) (by omega) zu_5 ?_
    intro x20 f17 h18 h19
    refine w_pfi dX5_needsNumber_29 rfl hJ0 zs_2 (Nat.le_of_ble_eq_true rfl) zo_2_10 (zbot _) (ztop _) (zIR_s (zIR_s (zIR_k (by omega) (by omega)))) rfl rfl rfl ?_
    intro M21 hJ22 f23 hn24
    refine w_lo dX5_needsNumber_32 rfl rfl rfl rfl ?_
    refine w_gf dX5_needsNumber_33 rfl hJ22.1.1 zs_2 f23 ?_
    refine w_lo dX5_needsNumber_36 rfl rfl rfl rfl ?_
    rcases zcut x20.toInt a0.toInt with h25 | h25
    · skip
      refine w_clt_t dX5_needsNumber_37 (t := 48) rfl (by omega) ?_
      refine w_lo dX5_needsNumber_48 rfl rfl rfl rfl ?_
      refine w_ic dX5_needsNumber_49 zi_4 ?_
      refine w_iv dX5_needsNumber_50 rfl rfl (As := [.int 4]) rfl rfl hJ22.1.1 zs_2 (Nat.le_of_ble_eq_true rfl) ?_
      refine ZV.imp (k_1286 4 (by have := zt_4; omega) (by have := zt_4; omega) hN hJ22.1) ?_
      rintro _ ⟨x29, M26, rfl, h30, h31, hJ27, hq28⟩
      have hJ32 := zJ_trans hJ22 hJ27 (zSub_cons (fun _ _ h h' hk => zIR_e (by omega) (by omega) hk) (zSub_cons (fun _ _ h h' hk => zIR_s (zIR_e (by omega) (by omega) hk)) zSub_nil))
      show ZW _ _ _ _ _ _ _ (53, [some (.ref 2), some (.int a0), some (.int a1)], [.int x29], M26)
      refine w_eni dX5_needsNumber_53 rfl (znb (by omega) (by omega)) ?_
      exact ⟨_, _, rfl, (by omega), (by omega), hJ32, trivial⟩
    · skip
      refine w_clt_f dX5_needsNumber_37 (t := 48) rfl (by omega) ?_
      refine w_lo dX5_needsNumber_40 rfl rfl rfl rfl ?_
      refine w_gf dX5_needsNumber_41 rfl hJ22.1.1 zs_2 f23 ?_
      refine w_lo dX5_needsNumber_44 rfl rfl rfl rfl ?_
      rcases zcut a1.toInt x20.toInt with h33 | h33
      · skip
        refine w_cle_f dX5_needsNumber_45 (t := 54) rfl (by omega) ?_
        refine w_lo dX5_needsNumber_48 rfl rfl rfl rfl ?_
        refine w_ic dX5_needsNumber_49 zi_4 ?_
        refine w_iv dX5_needsNumber_50 rfl rfl (As := [.int 4]) rfl rfl hJ22.1.1 zs_2 (Nat.le_of_ble_eq_true rfl) ?_
        refine ZV.imp (k_1286 4 (by have := zt_4; omega) (by have := zt_4; omega) hN hJ22.1) ?_
        rintro _ ⟨x37, M34, rfl, h38, h39, hJ35, hq36⟩
        have hJ40 := zJ_trans hJ22 hJ35 (zSub_cons (fun _ _ h h' hk => zIR_e (by omega) (by omega) hk) (zSub_cons (fun _ _ h h' hk => zIR_s (zIR_e (by omega) (by omega) hk)) zSub_nil))
        show ZW _ _ _ _ _ _ _ (53, [some (.ref 2), some (.int a0), some (.int a1)], [.int x37], M34)
        refine w_eni dX5_needsNumber_53 rfl (znb (by omega) (by omega)) ?_
        exact ⟨_, _, rfl, (by omega), (by omega), hJ40, trivial⟩
      · skip
        refine w_cle_t dX5_needsNumber_45 (t := 54) rfl (by omega) ?_
        refine w_lo dX5_needsNumber_54 rfl rfl rfl rfl ?_
        refine w_iv dX5_needsNumber_55 rfl rfl (As := []) rfl rfl hJ22.1.1 zs_2 (Nat.le_of_ble_eq_true rfl) ?_
        refine ZV.imp (k_1289 hN hJ22.1) ?_
        rintro _ ⟨M41, rfl, hJ42, hq43⟩
        have hJ44 := zJ_trans hJ22 hJ42 (zSub_cons (fun _ _ h h' hk => zIR_s (zIR_s (zIR_s (zIR_e (by omega) (by omega) hk)))) zSub_nil)
        show ZW _ _ _ _ _ _ _ (58, [some (.ref 2), some (.int a0), some (.int a1)], [], M41)
        refine w_ic dX5_needsNumber_58 zi_1 ?_
        refine w_en dX5_needsNumber_59 rfl ?_
        exact ⟨_, _, rfl, (by have := zt_1; omega), (by have := zt_1; omega), hJ44, trivial⟩
set_option maxRecDepth 100000 in
theorem k_1293 {X : List Int32} {d N : Nat} {M0 : zM} (a0 : Int32) (ha00 : (0 : Int) ≤ a0.toInt) (ha01 : a0.toInt ≤ 11) (hN : N ≤ 600) (hB0 : zB N M0) : ZV X (d + 2) 1293 [.ref 2, .int a0] M0 (zRI N [(2, 3, 0), (2, 3, 1), (13, 14, 1000), (34, 35, 1000), (2, 3, 7)] M0 (0) (1) (fun _ _ => True)) := by
  have hJ0 : zJ N [(2, 3, 0), (2, 3, 1), (13, 14, 1000), (34, 35, 1000), (2, 3, 7)] M0 M0 := zJ_refl hB0
  refine ZV.of (ini := false) rfl (Nat.le_of_ble_eq_true rfl) (by decide +kernel) ?_
  have main : ∀ n : Nat,
      (∀ (M : zM) (v12_1 : Int32) (v12_2 : Int32) (o12_3 : Option Value) (o12_4 : Option Value), zJ N [(2, 3, 0), (2, 3, 1), (13, 14, 1000), (34, 35, 1000), (2, 3, 7)] M0 M → ((0 : Int) ≤ v12_1.toInt) → (v12_1.toInt ≤ 11) → ((0 : Int) ≤ v12_2.toInt) → (v12_2.toInt ≤ 3) → 3 * (3 - v12_2.toInt) + 1 < (n : Int) → ZW X (d + 1) 5 false (some .boolean) cX5_readMarks (zRI N [(2, 3, 0), (2, 3, 1), (13, 14, 1000), (34, 35, 1000), (2, 3, 7)] M0 (0) (1) (fun _ _ => True)) (12, [some (.ref 2), some (.int v12_1), some (.int v12_2), o12_3, o12_4], [], M)) := by
    intro n
    induction n with
    | zero =>
      exact (fun M v12_1 v12_2 o12_3 o12_4 hJ v12_10 v12_11 v12_20 v12_21 hn => absurd hn (by omega))
    | succ n ih =>
      have ih12 := ih
      · intro M v12_1 v12_2 o12_3 o12_4 hJ v12_10 v12_11 v12_20 v12_21 hn
        refine w_lo dX5_readMarks_12 rfl rfl rfl rfl ?_
        refine w_ic dX5_readMarks_13 zi_2 ?_
        rcases zcut (2 : Int) v12_2.toInt with h1 | h1
        · skip
          refine w_cgt_t dX5_readMarks_14 (t := 97) rfl (by have := zt_2; omega) ?_
          refine w_ic dX5_readMarks_97 zi_1 ?_
          refine w_en dX5_readMarks_98 rfl ?_
          exact ⟨_, _, rfl, (by have := zt_1; omega), (by have := zt_1; omega), hJ, trivial⟩
        · skip
          refine w_cgt_f dX5_readMarks_14 (t := 97) rfl (by have := zt_2; omega) ?_
          refine w_lo dX5_readMarks_17 rfl rfl rfl rfl ?_
          refine w_iv dX5_readMarks_18 rfl rfl (As := []) rfl rfl hJ.1.1 zs_2 (Nat.le_of_ble_eq_true rfl) ?_
          refine ZV.imp (k_1287 hN hJ.1) ?_
          rintro _ ⟨x5, M2, rfl, h6, h7, hJ3, hq4⟩
          have hJ8 := zJ_trans hJ hJ3 zSub_nil
          show ZW _ _ _ _ _ _ _ (21, [some (.ref 2), some (.int v12_1), some (.int v12_2), o12_3, o12_4], [.int x5], M2)
          refine w_lo (ml' := [some (.ref 2), some (.int v12_1), some (.int v12_2), some (.int x5), o12_4]) dX5_readMarks_21 rfl rfl rfl rfl ?_
          refine w_lo dX5_readMarks_22 rfl rfl rfl rfl ?_
          refine w_bi dX5_readMarks_23 (c := 10) (by decide) ?_
          rcases Int.decEq x5.toInt (10 : Int) with h9 | h9
          · skip
            refine w_cne_t dX5_readMarks_25 (t := 32) rfl (by have := zt_10; omega) ?_
            refine w_lo dX5_readMarks_32 rfl rfl rfl rfl ?_
            refine w_bi dX5_readMarks_33 (c := 11) (by decide) ?_
            rcases Int.decEq x5.toInt (11 : Int) with h10 | h10
            · skip
              refine w_cne_t dX5_readMarks_35 (t := 42) rfl (by have := zt_11; omega) ?_
              refine w_ic dX5_readMarks_42 zi_0 ?_
              refine w_lo (ml' := [some (.ref 2), some (.int v12_1), some (.int v12_2), some (.int x5), some (.int 0)]) dX5_readMarks_43 rfl rfl rfl rfl ?_
              refine w_lo dX5_readMarks_45 rfl rfl rfl rfl ?_
              refine w_ine_f dX5_readMarks_47 (t := 52) rfl (by have := zt_0; omega) ?_
              refine w_ic dX5_readMarks_50 zi_1 ?_
              refine w_en dX5_readMarks_51 rfl ?_
              exact ⟨_, _, rfl, (by have := zt_1; omega), (by have := zt_1; omega), hJ8, trivial⟩
            · skip
              refine w_cne_f dX5_readMarks_35 (t := 42) rfl (by have := zt_11; omega) ?_
              refine w_ic dX5_readMarks_38 zi_2 ?_
              refine w_gt dX5_readMarks_39 (t := 43) rfl ?_
              refine w_lo (ml' := [some (.ref 2), some (.int v12_1), some (.int v12_2), some (.int x5), some (.int 2)]) dX5_readMarks_43 rfl rfl rfl rfl ?_
              refine w_lo dX5_readMarks_45 rfl rfl rfl rfl ?_
              refine w_ine_t dX5_readMarks_47 (t := 52) rfl (by have := zt_2; omega) ?_
              refine w_lo dX5_readMarks_52 rfl rfl rfl rfl ?_
              obtain ⟨b11, f12, h13⟩ := zd_2_8 hJ8.1
              have h14 := zDm_b h13
              refine w_gf dX5_readMarks_53 rfl hJ8.1.1 zs_2 f12 ?_
              refine w_gf dX5_readMarks_56 rfl hJ8.1.1 (zs_1_0 h13) (zr_1_0_8 h13 hJ8.1) ?_
              refine w_lo dX5_readMarks_59 rfl rfl rfl rfl ?_
              refine w_iai dX5_readMarks_60 hJ8.1 (zs_1_6 h13) (by omega) (by omega) (zu_1_6 h13) ?_
              intro x18 f15 h16 h17
              refine w_lo dX5_readMarks_61 rfl rfl rfl rfl ?_
              refine w_and dX5_readMarks_63 (m := 2) zt_2 (by omega) ?_
              intro x19 h20 h21
              rcases Int.decEq x19.toInt (0 : Int) with h22 | h22
              · skip
                refine w_ieq_f dX5_readMarks_64 (t := 73) rfl (by omega) ?_
                refine w_lo dX5_readMarks_67 rfl rfl rfl rfl ?_
                refine w_ic dX5_readMarks_68 zi_1 ?_
                refine w_iv dX5_readMarks_69 rfl rfl (As := [.int 1]) rfl rfl hJ8.1.1 zs_2 (Nat.le_of_ble_eq_true rfl) ?_
                refine ZV.imp (k_1286 1 (by have := zt_1; omega) (by have := zt_1; omega) hN hJ8.1) ?_
                rintro _ ⟨x26, M23, rfl, h27, h28, hJ24, hq25⟩
                have hJ29 := zJ_trans hJ8 hJ24 (zSub_cons (fun _ _ h h' hk => zIR_e (by omega) (by omega) hk) (zSub_cons (fun _ _ h h' hk => zIR_s (zIR_e (by omega) (by omega) hk)) zSub_nil))
                show ZW _ _ _ _ _ _ _ (72, [some (.ref 2), some (.int v12_1), some (.int v12_2), some (.int x5), some (.int 2)], [.int x26], M23)
                refine w_eni dX5_readMarks_72 rfl (znb (by omega) (by omega)) ?_
                exact ⟨_, _, rfl, (by omega), (by omega), hJ29, trivial⟩
              · skip
                refine w_ieq_t dX5_readMarks_64 (t := 73) rfl (by omega) ?_
                refine w_lo dX5_readMarks_73 rfl rfl rfl rfl ?_
                refine w_gf dX5_readMarks_74 rfl hJ8.1.1 zs_2 f12 ?_
                refine w_gf dX5_readMarks_77 rfl hJ8.1.1 (zs_1_0 h13) (zr_1_0_8 h13 hJ8.1) ?_
                refine w_lo dX5_readMarks_80 rfl rfl rfl rfl ?_
                refine w_pu dX5_readMarks_81 rfl rfl ?_
                refine w_ia dX5_readMarks_82 hJ8.1.1 (zs_1_6 h13) (znat (by omega)) f15 ?_
                refine w_lo dX5_readMarks_83 rfl rfl rfl rfl ?_
                refine w_or dX5_readMarks_85 (m := 2) (by decide) (by omega) (by omega) (by have := zt_2; omega) (by have := zt_2; omega) ?_
                intro x33 h34 h35
                have : (2 : Int) ^ 2 = 4 := by decide
                refine w_isi dX5_readMarks_86 hJ8 (zs_1_6 h13) (by omega) (by omega) (zu_1_6 h13) (by omega) (by omega) ((zDm_or h13).elim (fun e => zIR_s (zIR_s (zIR_a (by omega) (by omega)))) (fun e => zIR_s (zIR_s (zIR_s (zIR_a (by omega) (by omega)))))) ?_
                intro M36 hJ37 f38 hn39
                refine w_lo dX5_readMarks_87 rfl rfl rfl rfl ?_
                refine w_iv dX5_readMarks_88 rfl rfl (As := []) rfl rfl hJ37.1.1 zs_2 (Nat.le_of_ble_eq_true rfl) ?_
                refine ZV.imp (k_1289 hN hJ37.1) ?_
                rintro _ ⟨M40, rfl, hJ41, hq42⟩
                have hJ43 := zJ_trans hJ37 hJ41 (zSub_cons (fun _ _ h h' hk => zIR_s (zIR_s (zIR_s (zIR_s (zIR_e (by omega) (by omega) hk))))) zSub_nil)
                show ZW _ _ _ _ _ _ _ (91, [some (.ref 2), some (.int v12_1), some (.int v12_2), some (.int x5), some (.int 2)], [], M40)
                refine w_inc (kk := 2) dX5_readMarks_91 rfl (m := 1) (by decide) (by omega) ?_
                intro x44 h45
                refine ⟨_, rfl, ?_⟩
                show ZW _ _ _ _ _ _ _ (94, [some (.ref 2), some (.int v12_1), some (.int x44), some (.int x5), some (.int 2)], [], M40)
                refine w_gt dX5_readMarks_94 (t := 12) rfl ?_
                exact ih12 M40 v12_1 x44 (some (.int x5)) (some (.int 2)) hJ43 (by omega) (by omega) (by omega) (by omega) (by have := zt_2; omega)
          · skip
            refine w_cne_f dX5_readMarks_25 (t := 32) rfl (by have := zt_10; omega) ?_
            refine w_ic dX5_readMarks_28 zi_1 ?_
            refine w_gt dX5_readMarks_29 (t := 43) rfl ?_
            refine w_lo (ml' := [some (.ref 2), some (.int v12_1), some (.int v12_2), some (.int x5), some (.int 1)]) dX5_readMarks_43 rfl rfl rfl rfl ?_
            refine w_lo dX5_readMarks_45 rfl rfl rfl rfl ?_
            refine w_ine_t dX5_readMarks_47 (t := 52) rfl (by have := zt_1; omega) ?_
            refine w_lo dX5_readMarks_52 rfl rfl rfl rfl ?_
            obtain ⟨b46, f47, h48⟩ := zd_2_8 hJ8.1
            have h49 := zDm_b h48
            refine w_gf dX5_readMarks_53 rfl hJ8.1.1 zs_2 f47 ?_
            refine w_gf dX5_readMarks_56 rfl hJ8.1.1 (zs_1_0 h48) (zr_1_0_8 h48 hJ8.1) ?_
            refine w_lo dX5_readMarks_59 rfl rfl rfl rfl ?_
            refine w_iai dX5_readMarks_60 hJ8.1 (zs_1_6 h48) (by omega) (by omega) (zu_1_6 h48) ?_
            intro x53 f50 h51 h52
            refine w_lo dX5_readMarks_61 rfl rfl rfl rfl ?_
            refine w_and dX5_readMarks_63 (m := 1) zt_1 (by omega) ?_
            intro x54 h55 h56
            rcases Int.decEq x54.toInt (0 : Int) with h57 | h57
            · skip
              refine w_ieq_f dX5_readMarks_64 (t := 73) rfl (by omega) ?_
              refine w_lo dX5_readMarks_67 rfl rfl rfl rfl ?_
              refine w_ic dX5_readMarks_68 zi_1 ?_
              refine w_iv dX5_readMarks_69 rfl rfl (As := [.int 1]) rfl rfl hJ8.1.1 zs_2 (Nat.le_of_ble_eq_true rfl) ?_
              refine ZV.imp (k_1286 1 (by have := zt_1; omega) (by have := zt_1; omega) hN hJ8.1) ?_
              rintro _ ⟨x61, M58, rfl, h62, h63, hJ59, hq60⟩
              have hJ64 := zJ_trans hJ8 hJ59 (zSub_cons (fun _ _ h h' hk => zIR_e (by omega) (by omega) hk) (zSub_cons (fun _ _ h h' hk => zIR_s (zIR_e (by omega) (by omega) hk)) zSub_nil))
              show ZW _ _ _ _ _ _ _ (72, [some (.ref 2), some (.int v12_1), some (.int v12_2), some (.int x5), some (.int 1)], [.int x61], M58)
              refine w_eni dX5_readMarks_72 rfl (znb (by omega) (by omega)) ?_
              exact ⟨_, _, rfl, (by omega), (by omega), hJ64, trivial⟩
            · skip
              refine w_ieq_t dX5_readMarks_64 (t := 73) rfl (by omega) ?_
              refine w_lo dX5_readMarks_73 rfl rfl rfl rfl ?_
              refine w_gf dX5_readMarks_74 rfl hJ8.1.1 zs_2 f47 ?_
              refine w_gf dX5_readMarks_77 rfl hJ8.1.1 (zs_1_0 h48) (zr_1_0_8 h48 hJ8.1) ?_
              refine w_lo dX5_readMarks_80 rfl rfl rfl rfl ?_
              refine w_pu dX5_readMarks_81 rfl rfl ?_
              refine w_ia dX5_readMarks_82 hJ8.1.1 (zs_1_6 h48) (znat (by omega)) f50 ?_
              refine w_lo dX5_readMarks_83 rfl rfl rfl rfl ?_
              refine w_or dX5_readMarks_85 (m := 2) (by decide) (by omega) (by omega) (by have := zt_1; omega) (by have := zt_1; omega) ?_
              intro x68 h69 h70
              have : (2 : Int) ^ 2 = 4 := by decide
              refine w_isi dX5_readMarks_86 hJ8 (zs_1_6 h48) (by omega) (by omega) (zu_1_6 h48) (by omega) (by omega) ((zDm_or h48).elim (fun e => zIR_s (zIR_s (zIR_a (by omega) (by omega)))) (fun e => zIR_s (zIR_s (zIR_s (zIR_a (by omega) (by omega)))))) ?_
              intro M71 hJ72 f73 hn74
              refine w_lo dX5_readMarks_87 rfl rfl rfl rfl ?_
              refine w_iv dX5_readMarks_88 rfl rfl (As := []) rfl rfl hJ72.1.1 zs_2 (Nat.le_of_ble_eq_true rfl) ?_
              refine ZV.imp (k_1289 hN hJ72.1) ?_
              rintro _ ⟨M75, rfl, hJ76, hq77⟩
              have hJ78 := zJ_trans hJ72 hJ76 (zSub_cons (fun _ _ h h' hk => zIR_s (zIR_s (zIR_s (zIR_s (zIR_e (by omega) (by omega) hk))))) zSub_nil)
              show ZW _ _ _ _ _ _ _ (91, [some (.ref 2), some (.int v12_1), some (.int v12_2), some (.int x5), some (.int 1)], [], M75)
              refine w_inc (kk := 2) dX5_readMarks_91 rfl (m := 1) (by decide) (by omega) ?_
              intro x79 h80
              refine ⟨_, rfl, ?_⟩
              show ZW _ _ _ _ _ _ _ (94, [some (.ref 2), some (.int v12_1), some (.int x79), some (.int x5), some (.int 1)], [], M75)
              refine w_gt dX5_readMarks_94 (t := 12) rfl ?_
              exact ih12 M75 v12_1 x79 (some (.int x5)) (some (.int 1)) hJ78 (by omega) (by omega) (by omega) (by omega) (by have := zt_1; omega)
  have ih12 := main 21
  show ZW _ _ _ _ _ _ _ (0, [some (.ref 2), some (.int a0), none, none, none], [], M0)
  refine w_lo dX5_readMarks_0 rfl rfl rfl rfl ?_
  obtain ⟨b81, f82, h83⟩ := zd_2_8 hJ0.1
  have h84 := zDm_b h83
  refine w_gf dX5_readMarks_1 rfl hJ0.1.1 zs_2 f82 ?_
  refine w_gf dX5_readMarks_4 rfl hJ0.1.1 (zs_1_0 h83) (zr_1_0_8 h83 hJ0.1) ?_
  refine w_lo dX5_readMarks_7 rfl rfl rfl rfl ?_
  refine w_ic dX5_readMarks_8 zi_0 ?_
  refine w_isi dX5_readMarks_9 hJ0 (zs_1_6 h83) (by omega) (by omega) (zu_1_6 h83) (by have := zt_0; omega) (by have := zt_0; omega) ((zDm_or h83).elim (fun e => zIR_s (zIR_s (zIR_a (by omega) (by omega)))) (fun e => zIR_s (zIR_s (zIR_s (zIR_a (by omega) (by omega)))))) ?_
  intro M85 hJ86 f87 hn88
  refine w_ic dX5_readMarks_10 zi_0 ?_
  refine w_lo (ml' := [some (.ref 2), some (.int a0), some (.int 0), none, none]) dX5_readMarks_11 rfl rfl rfl rfl ?_
  exact ih12 M85 a0 0 none none hJ86 (by omega) (by omega) (by have := zt_0; omega) (by have := zt_0; omega) (by have := zt_0; omega)
set_option maxRecDepth 100000 in
theorem k_1288 {X : List Int32} {d N : Nat} {M0 : zM}  (hN : N ≤ 600) (hB0 : zB N M0) : ZV X (d + 3) 1288 [.ref 2] M0 (zRI N [(2, 3, 0), (2, 3, 1), (7, 8, 1), (28, 29, 1), (2, 3, 10), (8, 14, 1000), (29, 35, 1000), (2, 3, 7), (2, 3, 9)] M0 (0) (1) (fun _ _ => True)) := by
  have hJ0 : zJ N [(2, 3, 0), (2, 3, 1), (7, 8, 1), (28, 29, 1), (2, 3, 10), (8, 14, 1000), (29, 35, 1000), (2, 3, 7), (2, 3, 9)] M0 M0 := zJ_refl hB0
  refine ZV.of (ini := false) rfl (Nat.le_of_ble_eq_true rfl) (by decide +kernel) ?_
  show ZW _ _ _ _ _ _ _ (0, [some (.ref 2), none], [], M0)
  refine w_lo dX5_readBoy_0 rfl rfl rfl rfl ?_
  obtain ⟨b1, f2, h3⟩ := zd_2_8 hJ0.1
  have h4 := zDm_b h3
  refine w_gf dX5_readBoy_1 rfl hJ0.1.1 zs_2 f2 ?_
  refine w_gfi dX5_readBoy_4 rfl hJ0.1 (zs_1_0 h3) (Nat.le_of_ble_eq_true rfl) (zo_1_0_1 h3) ?_
  intro x5 f6 h7 h8
  refine w_lo (ml' := [some (.ref 2), some (.int x5)]) dX5_readBoy_7 rfl rfl rfl rfl ?_
  refine w_lo dX5_readBoy_8 rfl rfl rfl rfl ?_
  refine w_bi dX5_readBoy_9 (c := 12) (by decide) ?_
  rcases zcut x5.toInt (12 : Int) with h9 | h9
  · skip
    refine w_clt_t dX5_readBoy_11 (t := 20) rfl (by have := zt_12; omega) ?_
    refine w_lo dX5_readBoy_20 rfl rfl rfl rfl ?_
    refine w_iv dX5_readBoy_21 rfl rfl (As := []) rfl rfl hJ0.1.1 zs_2 (Nat.le_of_ble_eq_true rfl) ?_
    refine ZV.imp (k_1289 hN hJ0.1) ?_
    rintro _ ⟨M10, rfl, hJ11, hq12⟩
    have hJ13 := zJ_trans hJ0 hJ11 (zSub_cons (fun _ _ h h' hk => zIR_s (zIR_s (zIR_s (zIR_s (zIR_s (zIR_s (zIR_s (zIR_e (by omega) (by omega) hk)))))))) zSub_nil)
    show ZW _ _ _ _ _ _ _ (24, [some (.ref 2), some (.int x5)], [], M10)
    refine w_lo dX5_readBoy_24 rfl rfl rfl rfl ?_
    refine w_iv dX5_readBoy_25 rfl rfl (As := []) rfl rfl hJ13.1.1 zs_2 (Nat.le_of_ble_eq_true rfl) ?_
    refine ZV.imp (k_1290 hN hJ13.1) ?_
    rintro _ ⟨x17, M14, rfl, h18, h19, hJ15, hq16⟩
    have hJ20 := zJ_trans hJ13 hJ15 (zSub_cons (fun _ _ h h' hk => zIR_e (by omega) (by omega) hk) (zSub_cons (fun _ _ h h' hk => zIR_s (zIR_e (by omega) (by omega) hk)) (zSub_cons (fun _ _ h h' hk => zIR_s (zIR_s (zIR_s (zIR_s (zIR_s (zIR_s (zIR_s (zIR_e (by omega) (by omega) hk)))))))) (zSub_cons (fun _ _ h h' hk => zIR_s (zIR_s (zIR_s (zIR_s (zIR_s (zIR_s (zIR_s (zIR_s (zIR_e (by omega) (by omega) hk))))))))) zSub_nil))))
    show ZW _ _ _ _ _ _ _ (28, [some (.ref 2), some (.int x5)], [.int x17], M14)
    rcases Int.decEq x17.toInt (0 : Int) with h21 | h21
    · skip
      refine w_ine_t dX5_readBoy_28 (t := 33) rfl (by omega) ?_
      refine w_lo dX5_readBoy_33 rfl rfl rfl rfl ?_
      have f22 := (hJ15.2 (2) 8 (zNI_k (by decide) (by decide) (zNI_k (by decide) (by decide) (zNI_k (by decide) (by decide) (zNI_k (by decide) (by decide) zNI_nil))))).trans ((hJ11.2 (2) 8 (zNI_k (by decide) (by decide) zNI_nil)).trans (f2))
      refine w_gf dX5_readBoy_34 rfl hJ20.1.1 zs_2 f22 ?_
      refine w_gf dX5_readBoy_37 rfl hJ20.1.1 (zs_1_0 h3) (zr_1_0_3 h3 hJ20.1) ?_
      refine w_lo dX5_readBoy_40 rfl rfl rfl rfl ?_
      refine w_lo dX5_readBoy_41 rfl rfl rfl rfl ?_
      refine w_gfi dX5_readBoy_42 rfl hJ20.1 zs_2 (Nat.le_of_ble_eq_true rfl) zo_2_9 ?_
      intro x23 f24 h25 h26
      refine w_isi dX5_readBoy_45 hJ20 (zs_1_1 h3) (by omega) (by omega) (zu_1_1 h3) (zbot _) (ztop _) ((zDm_or h3).elim (fun e => zIR_s (zIR_s (zIR_s (zIR_s (zIR_s (zIR_a (by omega) (by omega))))))) (fun e => zIR_s (zIR_s (zIR_s (zIR_s (zIR_s (zIR_s (zIR_a (by omega) (by omega))))))))) ?_
      intro M27 hJ28 f29 hn30
      refine w_lo dX5_readBoy_46 rfl rfl rfl rfl ?_
      refine w_ic dX5_readBoy_47 zi_1 ?_
      refine w_iv dX5_readBoy_48 rfl rfl (As := [.int 1]) rfl rfl hJ28.1.1 zs_2 (Nat.le_of_ble_eq_true rfl) ?_
      refine ZV.imp (k_1291 1 (by have := zt_1; omega) (by have := zt_1; omega) hN hJ28.1) ?_
      rintro _ ⟨x34, M31, rfl, h35, h36, hJ32, hq33⟩
      have hJ37 := zJ_trans hJ28 hJ32 (zSub_cons (fun _ _ h h' hk => zIR_e (by omega) (by omega) hk) (zSub_cons (fun _ _ h h' hk => zIR_s (zIR_e (by omega) (by omega) hk)) (zSub_cons (fun _ _ h h' hk => zIR_s (zIR_s (zIR_s (zIR_s (zIR_s (zIR_s (zIR_s (zIR_e (by omega) (by omega) hk)))))))) zSub_nil)))
      show ZW _ _ _ _ _ _ _ (51, [some (.ref 2), some (.int x5)], [.int x34], M31)
      rcases Int.decEq x34.toInt (0 : Int) with h38 | h38
      · skip
        refine w_ieq_f dX5_readBoy_51 (t := 64) rfl (by omega) ?_
        refine w_lo dX5_readBoy_54 rfl rfl rfl rfl ?_
        refine w_ic dX5_readBoy_55 zi_1 ?_
        refine w_bi dX5_readBoy_56 (c := 99) (by decide) ?_
        refine w_iv dX5_readBoy_58 rfl rfl (As := [.int 1, .int 99]) rfl rfl hJ37.1.1 zs_2 (Nat.le_of_ble_eq_true rfl) ?_
        refine ZV.imp (k_1292 1 (by have := zt_1; omega) (by have := zt_1; omega) 99 (by have := zt_99; omega) (by have := zt_99; omega) hN hJ37.1) ?_
        rintro _ ⟨x42, M39, rfl, h43, h44, hJ40, hq41⟩
        have hJ45 := zJ_trans hJ37 hJ40 (zSub_cons (fun _ _ h h' hk => zIR_e (by omega) (by omega) hk) (zSub_cons (fun _ _ h h' hk => zIR_s (zIR_e (by omega) (by omega) hk)) (zSub_cons (fun _ _ h h' hk => zIR_s (zIR_s (zIR_s (zIR_s (zIR_e (by omega) (by omega) hk))))) (zSub_cons (fun _ _ h h' hk => zIR_s (zIR_s (zIR_s (zIR_s (zIR_s (zIR_s (zIR_s (zIR_e (by omega) (by omega) hk)))))))) zSub_nil))))
        show ZW _ _ _ _ _ _ _ (61, [some (.ref 2), some (.int x5)], [.int x42], M39)
        rcases Int.decEq x42.toInt (0 : Int) with h46 | h46
        · skip
          refine w_ine_t dX5_readBoy_61 (t := 66) rfl (by omega) ?_
          refine w_lo dX5_readBoy_66 rfl rfl rfl rfl ?_
          have f47 := (hJ40.2 (2) 8 (zNI_k (by decide) (by decide) (zNI_k (by decide) (by decide) (zNI_k (by decide) (by decide) (zNI_k (by decide) (by decide) zNI_nil))))).trans ((hJ32.2 (2) 8 (zNI_k (by decide) (by decide) (zNI_k (by decide) (by decide) (zNI_k (by decide) (by decide) zNI_nil)))).trans ((hn30 (2) 8 (Or.inl (by omega))).trans (f22)))
          refine w_gf dX5_readBoy_67 rfl hJ45.1.1 zs_2 f47 ?_
          refine w_gf dX5_readBoy_70 rfl hJ45.1.1 (zs_1_0 h3) (zr_1_0_4 h3 hJ45.1) ?_
          refine w_lo dX5_readBoy_73 rfl rfl rfl rfl ?_
          refine w_lo dX5_readBoy_74 rfl rfl rfl rfl ?_
          refine w_gfi dX5_readBoy_75 rfl hJ45.1 zs_2 (Nat.le_of_ble_eq_true rfl) zo_2_10 ?_
          intro x48 f49 h50 h51
          refine w_isi dX5_readBoy_78 hJ45 (zs_1_2 h3) (by omega) (by omega) (zu_1_2 h3) (zbot _) (ztop _) ((zDm_or h3).elim (fun e => zIR_s (zIR_s (zIR_s (zIR_s (zIR_s (zIR_a (by omega) (by omega))))))) (fun e => zIR_s (zIR_s (zIR_s (zIR_s (zIR_s (zIR_s (zIR_a (by omega) (by omega))))))))) ?_
          intro M52 hJ53 f54 hn55
          refine w_lo dX5_readBoy_79 rfl rfl rfl rfl ?_
          refine w_ic dX5_readBoy_80 zi_2 ?_
          refine w_iv dX5_readBoy_81 rfl rfl (As := [.int 2]) rfl rfl hJ53.1.1 zs_2 (Nat.le_of_ble_eq_true rfl) ?_
          refine ZV.imp (k_1291 2 (by have := zt_2; omega) (by have := zt_2; omega) hN hJ53.1) ?_
          rintro _ ⟨x59, M56, rfl, h60, h61, hJ57, hq58⟩
          have hJ62 := zJ_trans hJ53 hJ57 (zSub_cons (fun _ _ h h' hk => zIR_e (by omega) (by omega) hk) (zSub_cons (fun _ _ h h' hk => zIR_s (zIR_e (by omega) (by omega) hk)) (zSub_cons (fun _ _ h h' hk => zIR_s (zIR_s (zIR_s (zIR_s (zIR_s (zIR_s (zIR_s (zIR_e (by omega) (by omega) hk)))))))) zSub_nil)))
          show ZW _ _ _ _ _ _ _ (84, [some (.ref 2), some (.int x5)], [.int x59], M56)
          rcases Int.decEq x59.toInt (0 : Int) with h63 | h63
          · skip
            refine w_ieq_f dX5_readBoy_84 (t := 98) rfl (by omega) ?_
            refine w_lo dX5_readBoy_87 rfl rfl rfl rfl ?_
            refine w_ic dX5_readBoy_88 zi_1 ?_
            refine w_si dX5_readBoy_89 (c := 999) (by decide) ?_
            refine w_iv dX5_readBoy_92 rfl rfl (As := [.int 1, .int 999]) rfl rfl hJ62.1.1 zs_2 (Nat.le_of_ble_eq_true rfl) ?_
            refine ZV.imp (k_1292 1 (by have := zt_1; omega) (by have := zt_1; omega) 999 (by have := zt_999; omega) (by have := zt_999; omega) hN hJ62.1) ?_
            rintro _ ⟨x67, M64, rfl, h68, h69, hJ65, hq66⟩
            have hJ70 := zJ_trans hJ62 hJ65 (zSub_cons (fun _ _ h h' hk => zIR_e (by omega) (by omega) hk) (zSub_cons (fun _ _ h h' hk => zIR_s (zIR_e (by omega) (by omega) hk)) (zSub_cons (fun _ _ h h' hk => zIR_s (zIR_s (zIR_s (zIR_s (zIR_e (by omega) (by omega) hk))))) (zSub_cons (fun _ _ h h' hk => zIR_s (zIR_s (zIR_s (zIR_s (zIR_s (zIR_s (zIR_s (zIR_e (by omega) (by omega) hk)))))))) zSub_nil))))
            show ZW _ _ _ _ _ _ _ (95, [some (.ref 2), some (.int x5)], [.int x67], M64)
            rcases Int.decEq x67.toInt (0 : Int) with h71 | h71
            · skip
              refine w_ine_t dX5_readBoy_95 (t := 100) rfl (by omega) ?_
              refine w_lo dX5_readBoy_100 rfl rfl rfl rfl ?_
              have f72 := (hJ65.2 (2) 8 (zNI_k (by decide) (by decide) (zNI_k (by decide) (by decide) (zNI_k (by decide) (by decide) (zNI_k (by decide) (by decide) zNI_nil))))).trans ((hJ57.2 (2) 8 (zNI_k (by decide) (by decide) (zNI_k (by decide) (by decide) (zNI_k (by decide) (by decide) zNI_nil)))).trans ((hn55 (2) 8 (Or.inl (by omega))).trans (f47)))
              refine w_gf dX5_readBoy_101 rfl hJ70.1.1 zs_2 f72 ?_
              refine w_gf dX5_readBoy_104 rfl hJ70.1.1 (zs_1_0 h3) (zr_1_0_5 h3 hJ70.1) ?_
              refine w_lo dX5_readBoy_107 rfl rfl rfl rfl ?_
              refine w_lo dX5_readBoy_108 rfl rfl rfl rfl ?_
              refine w_gfi dX5_readBoy_109 rfl hJ70.1 zs_2 (Nat.le_of_ble_eq_true rfl) zo_2_10 ?_
              intro x73 f74 h75 h76
              refine w_isi dX5_readBoy_112 hJ70 (zs_1_3 h3) (by omega) (by omega) (zu_1_3 h3) (zbot _) (ztop _) ((zDm_or h3).elim (fun e => zIR_s (zIR_s (zIR_s (zIR_s (zIR_s (zIR_a (by omega) (by omega))))))) (fun e => zIR_s (zIR_s (zIR_s (zIR_s (zIR_s (zIR_s (zIR_a (by omega) (by omega))))))))) ?_
              intro M77 hJ78 f79 hn80
              refine w_lo dX5_readBoy_113 rfl rfl rfl rfl ?_
              refine w_bi dX5_readBoy_114 (c := 8) (by decide) ?_
              refine w_iv dX5_readBoy_116 rfl rfl (As := [.int 8]) rfl rfl hJ78.1.1 zs_2 (Nat.le_of_ble_eq_true rfl) ?_
              refine ZV.imp (k_1291 8 (by have := zt_8; omega) (by have := zt_8; omega) hN hJ78.1) ?_
              rintro _ ⟨x84, M81, rfl, h85, h86, hJ82, hq83⟩
              have hJ87 := zJ_trans hJ78 hJ82 (zSub_cons (fun _ _ h h' hk => zIR_e (by omega) (by omega) hk) (zSub_cons (fun _ _ h h' hk => zIR_s (zIR_e (by omega) (by omega) hk)) (zSub_cons (fun _ _ h h' hk => zIR_s (zIR_s (zIR_s (zIR_s (zIR_s (zIR_s (zIR_s (zIR_e (by omega) (by omega) hk)))))))) zSub_nil)))
              show ZW _ _ _ _ _ _ _ (119, [some (.ref 2), some (.int x5)], [.int x84], M81)
              rcases Int.decEq x84.toInt (0 : Int) with h88 | h88
              · skip
                refine w_ieq_f dX5_readBoy_119 (t := 132) rfl (by omega) ?_
                refine w_lo dX5_readBoy_122 rfl rfl rfl rfl ?_
                refine w_ic dX5_readBoy_123 zi_0 ?_
                refine w_bi dX5_readBoy_124 (c := 100) (by decide) ?_
                refine w_iv dX5_readBoy_126 rfl rfl (As := [.int 0, .int 100]) rfl rfl hJ87.1.1 zs_2 (Nat.le_of_ble_eq_true rfl) ?_
                refine ZV.imp (k_1292 0 (by have := zt_0; omega) (by have := zt_0; omega) 100 (by have := zt_100; omega) (by have := zt_100; omega) hN hJ87.1) ?_
                rintro _ ⟨x92, M89, rfl, h93, h94, hJ90, hq91⟩
                have hJ95 := zJ_trans hJ87 hJ90 (zSub_cons (fun _ _ h h' hk => zIR_e (by omega) (by omega) hk) (zSub_cons (fun _ _ h h' hk => zIR_s (zIR_e (by omega) (by omega) hk)) (zSub_cons (fun _ _ h h' hk => zIR_s (zIR_s (zIR_s (zIR_s (zIR_e (by omega) (by omega) hk))))) (zSub_cons (fun _ _ h h' hk => zIR_s (zIR_s (zIR_s (zIR_s (zIR_s (zIR_s (zIR_s (zIR_e (by omega) (by omega) hk)))))))) zSub_nil))))
                show ZW _ _ _ _ _ _ _ (129, [some (.ref 2), some (.int x5)], [.int x92], M89)
                rcases Int.decEq x92.toInt (0 : Int) with h96 | h96
                · skip
                  refine w_ine_t dX5_readBoy_129 (t := 134) rfl (by omega) ?_
                  refine w_lo dX5_readBoy_134 rfl rfl rfl rfl ?_
                  have f97 := (hJ90.2 (2) 8 (zNI_k (by decide) (by decide) (zNI_k (by decide) (by decide) (zNI_k (by decide) (by decide) (zNI_k (by decide) (by decide) zNI_nil))))).trans ((hJ82.2 (2) 8 (zNI_k (by decide) (by decide) (zNI_k (by decide) (by decide) (zNI_k (by decide) (by decide) zNI_nil)))).trans ((hn80 (2) 8 (Or.inl (by omega))).trans (f72)))
                  refine w_gf dX5_readBoy_135 rfl hJ95.1.1 zs_2 f97 ?_
                  refine w_gf dX5_readBoy_138 rfl hJ95.1.1 (zs_1_0 h3) (zr_1_0_6 h3 hJ95.1) ?_
                  refine w_lo dX5_readBoy_141 rfl rfl rfl rfl ?_
                  refine w_lo dX5_readBoy_142 rfl rfl rfl rfl ?_
                  refine w_gfi dX5_readBoy_143 rfl hJ95.1 zs_2 (Nat.le_of_ble_eq_true rfl) zo_2_10 ?_
                  intro x98 f99 h100 h101
                  refine w_isi dX5_readBoy_146 hJ95 (zs_1_4 h3) (by omega) (by omega) (zu_1_4 h3) (zbot _) (ztop _) ((zDm_or h3).elim (fun e => zIR_s (zIR_s (zIR_s (zIR_s (zIR_s (zIR_a (by omega) (by omega))))))) (fun e => zIR_s (zIR_s (zIR_s (zIR_s (zIR_s (zIR_s (zIR_a (by omega) (by omega))))))))) ?_
                  intro M102 hJ103 f104 hn105
                  refine w_lo dX5_readBoy_147 rfl rfl rfl rfl ?_
                  refine w_bi dX5_readBoy_148 (c := 9) (by decide) ?_
                  refine w_iv dX5_readBoy_150 rfl rfl (As := [.int 9]) rfl rfl hJ103.1.1 zs_2 (Nat.le_of_ble_eq_true rfl) ?_
                  refine ZV.imp (k_1291 9 (by have := zt_9; omega) (by have := zt_9; omega) hN hJ103.1) ?_
                  rintro _ ⟨x109, M106, rfl, h110, h111, hJ107, hq108⟩
                  have hJ112 := zJ_trans hJ103 hJ107 (zSub_cons (fun _ _ h h' hk => zIR_e (by omega) (by omega) hk) (zSub_cons (fun _ _ h h' hk => zIR_s (zIR_e (by omega) (by omega) hk)) (zSub_cons (fun _ _ h h' hk => zIR_s (zIR_s (zIR_s (zIR_s (zIR_s (zIR_s (zIR_s (zIR_e (by omega) (by omega) hk)))))))) zSub_nil)))
                  show ZW _ _ _ _ _ _ _ (153, [some (.ref 2), some (.int x5)], [.int x109], M106)
                  rcases Int.decEq x109.toInt (0 : Int) with h113 | h113
                  · skip
                    refine w_ieq_f dX5_readBoy_153 (t := 166) rfl (by omega) ?_
                    refine w_lo dX5_readBoy_156 rfl rfl rfl rfl ?_
                    refine w_ic dX5_readBoy_157 zi_0 ?_
                    refine w_bi dX5_readBoy_158 (c := 99) (by decide) ?_
                    refine w_iv dX5_readBoy_160 rfl rfl (As := [.int 0, .int 99]) rfl rfl hJ112.1.1 zs_2 (Nat.le_of_ble_eq_true rfl) ?_
                    refine ZV.imp (k_1292 0 (by have := zt_0; omega) (by have := zt_0; omega) 99 (by have := zt_99; omega) (by have := zt_99; omega) hN hJ112.1) ?_
                    rintro _ ⟨x117, M114, rfl, h118, h119, hJ115, hq116⟩
                    have hJ120 := zJ_trans hJ112 hJ115 (zSub_cons (fun _ _ h h' hk => zIR_e (by omega) (by omega) hk) (zSub_cons (fun _ _ h h' hk => zIR_s (zIR_e (by omega) (by omega) hk)) (zSub_cons (fun _ _ h h' hk => zIR_s (zIR_s (zIR_s (zIR_s (zIR_e (by omega) (by omega) hk))))) (zSub_cons (fun _ _ h h' hk => zIR_s (zIR_s (zIR_s (zIR_s (zIR_s (zIR_s (zIR_s (zIR_e (by omega) (by omega) hk)))))))) zSub_nil))))
                    show ZW _ _ _ _ _ _ _ (163, [some (.ref 2), some (.int x5)], [.int x117], M114)
                    rcases Int.decEq x117.toInt (0 : Int) with h121 | h121
                    · skip
                      refine w_ine_t dX5_readBoy_163 (t := 168) rfl (by omega) ?_
                      refine w_lo dX5_readBoy_168 rfl rfl rfl rfl ?_
                      have f122 := (hJ115.2 (2) 8 (zNI_k (by decide) (by decide) (zNI_k (by decide) (by decide) (zNI_k (by decide) (by decide) (zNI_k (by decide) (by decide) zNI_nil))))).trans ((hJ107.2 (2) 8 (zNI_k (by decide) (by decide) (zNI_k (by decide) (by decide) (zNI_k (by decide) (by decide) zNI_nil)))).trans ((hn105 (2) 8 (Or.inl (by omega))).trans (f97)))
                      refine w_gf dX5_readBoy_169 rfl hJ120.1.1 zs_2 f122 ?_
                      refine w_gf dX5_readBoy_172 rfl hJ120.1.1 (zs_1_0 h3) (zr_1_0_7 h3 hJ120.1) ?_
                      refine w_lo dX5_readBoy_175 rfl rfl rfl rfl ?_
                      refine w_lo dX5_readBoy_176 rfl rfl rfl rfl ?_
                      refine w_gfi dX5_readBoy_177 rfl hJ120.1 zs_2 (Nat.le_of_ble_eq_true rfl) zo_2_10 ?_
                      intro x123 f124 h125 h126
                      refine w_isi dX5_readBoy_180 hJ120 (zs_1_5 h3) (by omega) (by omega) (zu_1_5 h3) (zbot _) (ztop _) ((zDm_or h3).elim (fun e => zIR_s (zIR_s (zIR_s (zIR_s (zIR_s (zIR_a (by omega) (by omega))))))) (fun e => zIR_s (zIR_s (zIR_s (zIR_s (zIR_s (zIR_s (zIR_a (by omega) (by omega))))))))) ?_
                      intro M127 hJ128 f129 hn130
                      refine w_lo dX5_readBoy_181 rfl rfl rfl rfl ?_
                      have f131 := (hn130 (2) 8 (Or.inl (by omega))).trans (f122)
                      refine w_gf dX5_readBoy_182 rfl hJ128.1.1 zs_2 f131 ?_
                      refine w_pu dX5_readBoy_185 rfl rfl ?_
                      have f132 := (hn130 (b1) 1 (Or.inl (by omega))).trans ((hJ115.2 (b1) 1 (zNI_k (by decide) (by decide) (zNI (by omega) (zNI_k (by decide) (by decide) (zNI_k (by decide) (by decide) zNI_nil))))).trans ((hJ107.2 (b1) 1 (zNI_k (by decide) (by decide) (zNI (by omega) (zNI_k (by decide) (by decide) zNI_nil)))).trans ((hn105 (b1) 1 (Or.inl (by omega))).trans ((hJ90.2 (b1) 1 (zNI_k (by decide) (by decide) (zNI (by omega) (zNI_k (by decide) (by decide) (zNI_k (by decide) (by decide) zNI_nil))))).trans ((hJ82.2 (b1) 1 (zNI_k (by decide) (by decide) (zNI (by omega) (zNI_k (by decide) (by decide) zNI_nil)))).trans ((hn80 (b1) 1 (Or.inl (by omega))).trans ((hJ65.2 (b1) 1 (zNI_k (by decide) (by decide) (zNI (by omega) (zNI_k (by decide) (by decide) (zNI_k (by decide) (by decide) zNI_nil))))).trans ((hJ57.2 (b1) 1 (zNI_k (by decide) (by decide) (zNI (by omega) (zNI_k (by decide) (by decide) zNI_nil)))).trans ((hn55 (b1) 1 (Or.inl (by omega))).trans ((hJ40.2 (b1) 1 (zNI_k (by decide) (by decide) (zNI (by omega) (zNI_k (by decide) (by decide) (zNI_k (by decide) (by decide) zNI_nil))))).trans ((hJ32.2 (b1) 1 (zNI_k (by decide) (by decide) (zNI (by omega) (zNI_k (by decide) (by decide) zNI_nil)))).trans ((hn30 (b1) 1 (Or.inl (by omega))).trans ((hJ15.2 (b1) 1 (zNI_k (by decide) (by decide) (zNI (by omega) (zNI_k (by decide) (by decide) (zNI_k (by decide) (by decide) zNI_nil))))).trans ((hJ11.2 (b1) 1 (zNI_k (by decide) (by decide) zNI_nil)).trans (f6)))))))))))))))
                      refine w_gf dX5_readBoy_186 rfl hJ128.1.1 (zs_1_0 h3) f132 ?_
                      refine w_ic dX5_readBoy_189 zi_1 ?_
                      refine w_add dX5_readBoy_190 (by have := zt_1; omega) ?_
                      intro x133 h134
                      have := zt_1
                      refine w_pfi dX5_readBoy_191 rfl hJ128 (zs_1_0 h3) (Nat.le_of_ble_eq_true rfl) (zo_1_0_1 h3) (by omega) (by omega) ((zDm_or h3).elim (fun e => zIR_s (zIR_s (zIR_k (by omega) (by omega)))) (fun e => zIR_s (zIR_s (zIR_s (zIR_k (by omega) (by omega)))))) rfl rfl rfl ?_
                      intro M135 hJ136 f137 hn138
                      refine w_lo dX5_readBoy_194 rfl rfl rfl rfl ?_
                      refine w_lo dX5_readBoy_195 rfl rfl rfl rfl ?_
                      refine w_iv dX5_readBoy_196 rfl rfl (As := [.int x5]) rfl rfl hJ136.1.1 zs_2 (Nat.le_of_ble_eq_true rfl) ?_
                      refine ZV.imp (k_1293 x5 (by omega) (by omega) hN hJ136.1) ?_
                      rintro _ ⟨x142, M139, rfl, h143, h144, hJ140, hq141⟩
                      have hJ145 := zJ_trans hJ136 hJ140 (zSub_cons (fun _ _ h h' hk => zIR_e (by omega) (by omega) hk) (zSub_cons (fun _ _ h h' hk => zIR_s (zIR_e (by omega) (by omega) hk)) (zSub_cons (fun _ _ h h' hk => zIR_s (zIR_s (zIR_s (zIR_s (zIR_s (zIR_a (by omega) (by omega))))))) (zSub_cons (fun _ _ h h' hk => zIR_s (zIR_s (zIR_s (zIR_s (zIR_s (zIR_s (zIR_a (by omega) (by omega)))))))) (zSub_cons (fun _ _ h h' hk => zIR_s (zIR_s (zIR_s (zIR_s (zIR_s (zIR_s (zIR_s (zIR_e (by omega) (by omega) hk)))))))) zSub_nil)))))
                      show ZW _ _ _ _ _ _ _ (199, [some (.ref 2), some (.int x5)], [.int x142], M139)
                      refine w_eni dX5_readBoy_199 rfl (znb (by omega) (by omega)) ?_
                      exact ⟨_, _, rfl, (by omega), (by omega), hJ145, trivial⟩
                    · skip
                      refine w_ine_f dX5_readBoy_163 (t := 168) rfl (by omega) ?_
                      refine w_ic dX5_readBoy_166 zi_0 ?_
                      refine w_en dX5_readBoy_167 rfl ?_
                      exact ⟨_, _, rfl, (by have := zt_0; omega), (by have := zt_0; omega), hJ120, trivial⟩
                  · skip
                    refine w_ieq_t dX5_readBoy_153 (t := 166) rfl (by omega) ?_
                    refine w_ic dX5_readBoy_166 zi_0 ?_
                    refine w_en dX5_readBoy_167 rfl ?_
                    exact ⟨_, _, rfl, (by have := zt_0; omega), (by have := zt_0; omega), hJ112, trivial⟩
                · skip
                  refine w_ine_f dX5_readBoy_129 (t := 134) rfl (by omega) ?_
                  refine w_ic dX5_readBoy_132 zi_0 ?_
                  refine w_en dX5_readBoy_133 rfl ?_
                  exact ⟨_, _, rfl, (by have := zt_0; omega), (by have := zt_0; omega), hJ95, trivial⟩
              · skip
                refine w_ieq_t dX5_readBoy_119 (t := 132) rfl (by omega) ?_
                refine w_ic dX5_readBoy_132 zi_0 ?_
                refine w_en dX5_readBoy_133 rfl ?_
                exact ⟨_, _, rfl, (by have := zt_0; omega), (by have := zt_0; omega), hJ87, trivial⟩
            · skip
              refine w_ine_f dX5_readBoy_95 (t := 100) rfl (by omega) ?_
              refine w_ic dX5_readBoy_98 zi_0 ?_
              refine w_en dX5_readBoy_99 rfl ?_
              exact ⟨_, _, rfl, (by have := zt_0; omega), (by have := zt_0; omega), hJ70, trivial⟩
          · skip
            refine w_ieq_t dX5_readBoy_84 (t := 98) rfl (by omega) ?_
            refine w_ic dX5_readBoy_98 zi_0 ?_
            refine w_en dX5_readBoy_99 rfl ?_
            exact ⟨_, _, rfl, (by have := zt_0; omega), (by have := zt_0; omega), hJ62, trivial⟩
        · skip
          refine w_ine_f dX5_readBoy_61 (t := 66) rfl (by omega) ?_
          refine w_ic dX5_readBoy_64 zi_0 ?_
          refine w_en dX5_readBoy_65 rfl ?_
          exact ⟨_, _, rfl, (by have := zt_0; omega), (by have := zt_0; omega), hJ45, trivial⟩
      · skip
        refine w_ieq_t dX5_readBoy_51 (t := 64) rfl (by omega) ?_
        refine w_ic dX5_readBoy_64 zi_0 ?_
        refine w_en dX5_readBoy_65 rfl ?_
        exact ⟨_, _, rfl, (by have := zt_0; omega), (by have := zt_0; omega), hJ37, trivial⟩
    · skip
      refine w_ine_f dX5_readBoy_28 (t := 33) rfl (by omega) ?_
      refine w_ic dX5_readBoy_31 zi_0 ?_
      refine w_en dX5_readBoy_32 rfl ?_
      exact ⟨_, _, rfl, (by have := zt_0; omega), (by have := zt_0; omega), hJ20, trivial⟩
  · skip
    refine w_clt_f dX5_readBoy_11 (t := 20) rfl (by have := zt_12; omega) ?_
    refine w_lo dX5_readBoy_14 rfl rfl rfl rfl ?_
    refine w_ic dX5_readBoy_15 zi_5 ?_
    refine w_iv dX5_readBoy_16 rfl rfl (As := [.int 5]) rfl rfl hJ0.1.1 zs_2 (Nat.le_of_ble_eq_true rfl) ?_
    refine ZV.imp (k_1286 5 (by have := zt_5; omega) (by have := zt_5; omega) hN hJ0.1) ?_
    rintro _ ⟨x149, M146, rfl, h150, h151, hJ147, hq148⟩
    have hJ152 := zJ_trans hJ0 hJ147 (zSub_cons (fun _ _ h h' hk => zIR_e (by omega) (by omega) hk) (zSub_cons (fun _ _ h h' hk => zIR_s (zIR_e (by omega) (by omega) hk)) zSub_nil))
    show ZW _ _ _ _ _ _ _ (19, [some (.ref 2), some (.int x5)], [.int x149], M146)
    refine w_eni dX5_readBoy_19 rfl (znb (by omega) (by omega)) ?_
    exact ⟨_, _, rfl, (by omega), (by omega), hJ152, trivial⟩
set_option maxRecDepth 100000 in
theorem k_1294 {X : List Int32} {d N : Nat} {M0 : zM}  (hN : N ≤ 600) (hB0 : zB N M0) : ZV X (d + 3) 1294 [.ref 2] M0 (zRI N [(2, 3, 0), (2, 3, 1), (2, 3, 10), (19, 20, 1000), (40, 41, 1000), (2, 3, 7)] M0 (0) (1) (fun _ _ => True)) := by
  have hJ0 : zJ N [(2, 3, 0), (2, 3, 1), (2, 3, 10), (19, 20, 1000), (40, 41, 1000), (2, 3, 7)] M0 M0 := zJ_refl hB0
  refine ZV.of (ini := false) rfl (Nat.le_of_ble_eq_true rfl) (by decide +kernel) ?_
  show ZW _ _ _ _ _ _ _ (0, [some (.ref 2), none], [], M0)
  refine w_lo dX5_readSlack_0 rfl rfl rfl rfl ?_
  refine w_iv dX5_readSlack_1 rfl rfl (As := []) rfl rfl hJ0.1.1 zs_2 (Nat.le_of_ble_eq_true rfl) ?_
  refine ZV.imp (k_1289 hN hJ0.1) ?_
  rintro _ ⟨M1, rfl, hJ2, hq3⟩
  have hJ4 := zJ_trans hJ0 hJ2 (zSub_cons (fun _ _ h h' hk => zIR_s (zIR_s (zIR_s (zIR_s (zIR_s (zIR_e (by omega) (by omega) hk)))))) zSub_nil)
  show ZW _ _ _ _ _ _ _ (4, [some (.ref 2), none], [], M1)
  refine w_lo dX5_readSlack_4 rfl rfl rfl rfl ?_
  refine w_ic dX5_readSlack_5 zi_0 ?_
  refine w_bi dX5_readSlack_6 (c := 99) (by decide) ?_
  refine w_iv dX5_readSlack_8 rfl rfl (As := [.int 0, .int 99]) rfl rfl hJ4.1.1 zs_2 (Nat.le_of_ble_eq_true rfl) ?_
  refine ZV.of (ini := false) rfl (Nat.le_of_ble_eq_true rfl) (by decide +kernel) ?_
  show ZW _ _ _ _ _ _ _ (0, [some (.ref 2), some (.int 0), some (.int 99)], [], M1)
  refine w_lo dX5_needsNumber_0 rfl rfl rfl rfl ?_
  refine w_gf dX5_needsNumber_1 rfl hJ4.1.1 zs_2 (zr_2_3 hJ4.1) ?_
  refine w_lo dX5_needsNumber_4 rfl rfl rfl rfl ?_
  refine w_gfi dX5_needsNumber_5 rfl hJ4.1 zs_2 (Nat.le_of_ble_eq_true rfl) zo_2_7 ?_
  intro x5 f6 h7 h8
  refine w_iai dX5_needsNumber_8 hJ4.1 zs_4 (by omega) (by omega) zu_4 ?_
  intro x12 f9 h10 h11
  refine w_ic dX5_needsNumber_9 zi_4 ?_
  rcases Int.decEq x12.toInt (4 : Int) with h13 | h13
  · skip
    refine w_ceq_f dX5_needsNumber_10 (t := 19) rfl (by have := zt_4; omega) ?_
    refine w_lo dX5_needsNumber_13 rfl rfl rfl rfl ?_
    refine w_ic dX5_needsNumber_14 zi_1 ?_
    refine w_iv dX5_needsNumber_15 rfl rfl (As := [.int 1]) rfl rfl hJ4.1.1 zs_2 (Nat.le_of_ble_eq_true rfl) ?_
    refine ZV.imp (k_1286 1 (by have := zt_1; omega) (by have := zt_1; omega) hN hJ4.1) ?_
    rintro _ ⟨x17, M14, rfl, h18, h19, hJ15, hq16⟩
    have hJ20 := zJ_trans hJ4 hJ15 (zSub_cons (fun _ _ h h' hk => zIR_e (by omega) (by omega) hk) (zSub_cons (fun _ _ h h' hk => zIR_s (zIR_e (by omega) (by omega) hk)) zSub_nil))
    show ZW _ _ _ _ _ _ _ (18, [some (.ref 2), some (.int 0), some (.int 99)], [.int x17], M14)
    refine w_eni dX5_needsNumber_18 rfl (znb (by omega) (by omega)) ?_
    show ZW _ _ _ _ _ _ _ (11, [some (.ref 2), none], [.int x17], M14)
    refine w_ine_f dX5_readSlack_11 (t := 16) rfl (by omega) ?_
    refine w_ic dX5_readSlack_14 zi_0 ?_
    refine w_en dX5_readSlack_15 rfl ?_
    exact ⟨_, _, rfl, (by have := zt_0; omega), (by have := zt_0; omega), hJ20, trivial⟩
  · skip
    refine w_ceq_t dX5_needsNumber_10 (t := 19) rfl (by have := zt_4; omega) ?_
    refine w_lo dX5_needsNumber_19 rfl rfl rfl rfl ?_
    refine w_lo dX5_needsNumber_20 rfl rfl rfl rfl ?_
    refine w_gf dX5_needsNumber_21 rfl hJ4.1.1 zs_2 (zr_2_4 hJ4.1) ?_
    refine w_lo dX5_needsNumber_24 rfl rfl rfl rfl ?_
    refine w_gf dX5_needsNumber_25 rfl hJ4.1.1 zs_2 f6 ?_
    refine w_iai dX5_needsNumber_28 hJ4.1 zs_5 (by omega) (by omega) zu_5 ?_
    intro x24 f21 h22 h23
    refine w_pfi dX5_needsNumber_29 rfl hJ4 zs_2 (Nat.le_of_ble_eq_true rfl) zo_2_10 (zbot _) (ztop _) (zIR_s (zIR_s (zIR_k (by omega) (by omega)))) rfl rfl rfl ?_
    intro M25 hJ26 f27 hn28
    refine w_lo dX5_needsNumber_32 rfl rfl rfl rfl ?_
    refine w_gf dX5_needsNumber_33 rfl hJ26.1.1 zs_2 f27 ?_
    refine w_lo dX5_needsNumber_36 rfl rfl rfl rfl ?_
    rcases zcut x24.toInt (0 : Int) with h29 | h29
    · skip
      refine w_clt_t dX5_needsNumber_37 (t := 48) rfl (by have := zt_0; omega) ?_
      refine w_lo dX5_needsNumber_48 rfl rfl rfl rfl ?_
      refine w_ic dX5_needsNumber_49 zi_4 ?_
      refine w_iv dX5_needsNumber_50 rfl rfl (As := [.int 4]) rfl rfl hJ26.1.1 zs_2 (Nat.le_of_ble_eq_true rfl) ?_
      refine ZV.imp (k_1286 4 (by have := zt_4; omega) (by have := zt_4; omega) hN hJ26.1) ?_
      rintro _ ⟨x33, M30, rfl, h34, h35, hJ31, hq32⟩
      have hJ36 := zJ_trans hJ26 hJ31 (zSub_cons (fun _ _ h h' hk => zIR_e (by omega) (by omega) hk) (zSub_cons (fun _ _ h h' hk => zIR_s (zIR_e (by omega) (by omega) hk)) zSub_nil))
      show ZW _ _ _ _ _ _ _ (53, [some (.ref 2), some (.int 0), some (.int 99)], [.int x33], M30)
      refine w_eni dX5_needsNumber_53 rfl (znb (by omega) (by omega)) ?_
      show ZW _ _ _ _ _ _ _ (11, [some (.ref 2), none], [.int x33], M30)
      refine w_ine_f dX5_readSlack_11 (t := 16) rfl (by omega) ?_
      refine w_ic dX5_readSlack_14 zi_0 ?_
      refine w_en dX5_readSlack_15 rfl ?_
      exact ⟨_, _, rfl, (by have := zt_0; omega), (by have := zt_0; omega), hJ36, trivial⟩
    · skip
      refine w_clt_f dX5_needsNumber_37 (t := 48) rfl (by have := zt_0; omega) ?_
      refine w_lo dX5_needsNumber_40 rfl rfl rfl rfl ?_
      refine w_gf dX5_needsNumber_41 rfl hJ26.1.1 zs_2 f27 ?_
      refine w_lo dX5_needsNumber_44 rfl rfl rfl rfl ?_
      rcases zcut (99 : Int) x24.toInt with h37 | h37
      · skip
        refine w_cle_f dX5_needsNumber_45 (t := 54) rfl (by have := zt_99; omega) ?_
        refine w_lo dX5_needsNumber_48 rfl rfl rfl rfl ?_
        refine w_ic dX5_needsNumber_49 zi_4 ?_
        refine w_iv dX5_needsNumber_50 rfl rfl (As := [.int 4]) rfl rfl hJ26.1.1 zs_2 (Nat.le_of_ble_eq_true rfl) ?_
        refine ZV.imp (k_1286 4 (by have := zt_4; omega) (by have := zt_4; omega) hN hJ26.1) ?_
        rintro _ ⟨x41, M38, rfl, h42, h43, hJ39, hq40⟩
        have hJ44 := zJ_trans hJ26 hJ39 (zSub_cons (fun _ _ h h' hk => zIR_e (by omega) (by omega) hk) (zSub_cons (fun _ _ h h' hk => zIR_s (zIR_e (by omega) (by omega) hk)) zSub_nil))
        show ZW _ _ _ _ _ _ _ (53, [some (.ref 2), some (.int 0), some (.int 99)], [.int x41], M38)
        refine w_eni dX5_needsNumber_53 rfl (znb (by omega) (by omega)) ?_
        show ZW _ _ _ _ _ _ _ (11, [some (.ref 2), none], [.int x41], M38)
        refine w_ine_f dX5_readSlack_11 (t := 16) rfl (by omega) ?_
        refine w_ic dX5_readSlack_14 zi_0 ?_
        refine w_en dX5_readSlack_15 rfl ?_
        exact ⟨_, _, rfl, (by have := zt_0; omega), (by have := zt_0; omega), hJ44, trivial⟩
      · skip
        refine w_cle_t dX5_needsNumber_45 (t := 54) rfl (by have := zt_99; omega) ?_
        refine w_lo dX5_needsNumber_54 rfl rfl rfl rfl ?_
        refine w_iv dX5_needsNumber_55 rfl rfl (As := []) rfl rfl hJ26.1.1 zs_2 (Nat.le_of_ble_eq_true rfl) ?_
        refine ZV.imp (k_1289 hN hJ26.1) ?_
        rintro _ ⟨M45, rfl, hJ46, hq47⟩
        have hJ48 := zJ_trans hJ26 hJ46 (zSub_cons (fun _ _ h h' hk => zIR_s (zIR_s (zIR_s (zIR_s (zIR_s (zIR_e (by omega) (by omega) hk)))))) zSub_nil)
        show ZW _ _ _ _ _ _ _ (58, [some (.ref 2), some (.int 0), some (.int 99)], [], M45)
        refine w_ic dX5_needsNumber_58 zi_1 ?_
        refine w_en dX5_needsNumber_59 rfl ?_
        show ZW _ _ _ _ _ _ _ (11, [some (.ref 2), none], [.int 1], M45)
        refine w_ine_t dX5_readSlack_11 (t := 16) rfl (by have := zt_1; omega) ?_
        refine w_lo dX5_readSlack_16 rfl rfl rfl rfl ?_
        have f49 := (hJ46.2 (2) 10 (zNI_k (by decide) (by decide) zNI_nil)).trans (f27)
        refine w_gf dX5_readSlack_17 rfl hJ48.1.1 zs_2 f49 ?_
        refine w_lo (ml' := [some (.ref 2), some (.int x24)]) dX5_readSlack_20 rfl rfl rfl rfl ?_
        refine w_lo dX5_readSlack_21 rfl rfl rfl rfl ?_
        refine w_bi dX5_readSlack_22 (c := 13) (by decide) ?_
        refine w_iv dX5_readSlack_24 rfl rfl (As := [.int 13]) rfl rfl hJ48.1.1 zs_2 (Nat.le_of_ble_eq_true rfl) ?_
        refine ZV.imp (k_1291 13 (by have := zt_13; omega) (by have := zt_13; omega) hN hJ48.1) ?_
        rintro _ ⟨x53, M50, rfl, h54, h55, hJ51, hq52⟩
        have hJ56 := zJ_trans hJ48 hJ51 (zSub_cons (fun _ _ h h' hk => zIR_e (by omega) (by omega) hk) (zSub_cons (fun _ _ h h' hk => zIR_s (zIR_e (by omega) (by omega) hk)) (zSub_cons (fun _ _ h h' hk => zIR_s (zIR_s (zIR_s (zIR_s (zIR_s (zIR_e (by omega) (by omega) hk)))))) zSub_nil)))
        show ZW _ _ _ _ _ _ _ (27, [some (.ref 2), some (.int x24)], [.int x53], M50)
        rcases Int.decEq x53.toInt (0 : Int) with h57 | h57
        · skip
          refine w_ieq_f dX5_readSlack_27 (t := 40) rfl (by omega) ?_
          refine w_lo dX5_readSlack_30 rfl rfl rfl rfl ?_
          refine w_ic dX5_readSlack_31 zi_0 ?_
          refine w_bi dX5_readSlack_32 (c := 10) (by decide) ?_
          refine w_iv dX5_readSlack_34 rfl rfl (As := [.int 0, .int 10]) rfl rfl hJ56.1.1 zs_2 (Nat.le_of_ble_eq_true rfl) ?_
          refine ZV.of (ini := false) rfl (Nat.le_of_ble_eq_true rfl) (by decide +kernel) ?_
          show ZW _ _ _ _ _ _ _ (0, [some (.ref 2), some (.int 0), some (.int 10)], [], M50)
          refine w_lo dX5_needsNumber_0 rfl rfl rfl rfl ?_
          refine w_gf dX5_needsNumber_1 rfl hJ56.1.1 zs_2 (zr_2_3 hJ56.1) ?_
          refine w_lo dX5_needsNumber_4 rfl rfl rfl rfl ?_
          refine w_gfi dX5_needsNumber_5 rfl hJ56.1 zs_2 (Nat.le_of_ble_eq_true rfl) zo_2_7 ?_
          intro x58 f59 h60 h61
          refine w_iai dX5_needsNumber_8 hJ56.1 zs_4 (by omega) (by omega) zu_4 ?_
          intro x65 f62 h63 h64
          refine w_ic dX5_needsNumber_9 zi_4 ?_
          rcases Int.decEq x65.toInt (4 : Int) with h66 | h66
          · skip
            refine w_ceq_f dX5_needsNumber_10 (t := 19) rfl (by have := zt_4; omega) ?_
            refine w_lo dX5_needsNumber_13 rfl rfl rfl rfl ?_
            refine w_ic dX5_needsNumber_14 zi_1 ?_
            refine w_iv dX5_needsNumber_15 rfl rfl (As := [.int 1]) rfl rfl hJ56.1.1 zs_2 (Nat.le_of_ble_eq_true rfl) ?_
            refine ZV.imp (k_1286 1 (by have := zt_1; omega) (by have := zt_1; omega) hN hJ56.1) ?_
            rintro _ ⟨x70, M67, rfl, h71, h72, hJ68, hq69⟩
            have hJ73 := zJ_trans hJ56 hJ68 (zSub_cons (fun _ _ h h' hk => zIR_e (by omega) (by omega) hk) (zSub_cons (fun _ _ h h' hk => zIR_s (zIR_e (by omega) (by omega) hk)) zSub_nil))
            show ZW _ _ _ _ _ _ _ (18, [some (.ref 2), some (.int 0), some (.int 10)], [.int x70], M67)
            refine w_eni dX5_needsNumber_18 rfl (znb (by omega) (by omega)) ?_
            show ZW _ _ _ _ _ _ _ (37, [some (.ref 2), some (.int x24)], [.int x70], M67)
            refine w_ine_f dX5_readSlack_37 (t := 42) rfl (by omega) ?_
            refine w_ic dX5_readSlack_40 zi_0 ?_
            refine w_en dX5_readSlack_41 rfl ?_
            exact ⟨_, _, rfl, (by have := zt_0; omega), (by have := zt_0; omega), hJ73, trivial⟩
          · skip
            refine w_ceq_t dX5_needsNumber_10 (t := 19) rfl (by have := zt_4; omega) ?_
            refine w_lo dX5_needsNumber_19 rfl rfl rfl rfl ?_
            refine w_lo dX5_needsNumber_20 rfl rfl rfl rfl ?_
            refine w_gf dX5_needsNumber_21 rfl hJ56.1.1 zs_2 (zr_2_4 hJ56.1) ?_
            refine w_lo dX5_needsNumber_24 rfl rfl rfl rfl ?_
            refine w_gf dX5_needsNumber_25 rfl hJ56.1.1 zs_2 f59 ?_
            refine w_iai dX5_needsNumber_28 hJ56.1 zs_5 (by omega) (by omega) zu_5 ?_
            intro x77 f74 h75 h76
            refine w_pfi dX5_needsNumber_29 rfl hJ56 zs_2 (Nat.le_of_ble_eq_true rfl) zo_2_10 (zbot _) (ztop _) (zIR_s (zIR_s (zIR_k (by omega) (by omega)))) rfl rfl rfl ?_
            intro M78 hJ79 f80 hn81
            refine w_lo dX5_needsNumber_32 rfl rfl rfl rfl ?_
            refine w_gf dX5_needsNumber_33 rfl hJ79.1.1 zs_2 f80 ?_
            refine w_lo dX5_needsNumber_36 rfl rfl rfl rfl ?_
            rcases zcut x77.toInt (0 : Int) with h82 | h82
            · skip
              refine w_clt_t dX5_needsNumber_37 (t := 48) rfl (by have := zt_0; omega) ?_
              refine w_lo dX5_needsNumber_48 rfl rfl rfl rfl ?_
              refine w_ic dX5_needsNumber_49 zi_4 ?_
              refine w_iv dX5_needsNumber_50 rfl rfl (As := [.int 4]) rfl rfl hJ79.1.1 zs_2 (Nat.le_of_ble_eq_true rfl) ?_
              refine ZV.imp (k_1286 4 (by have := zt_4; omega) (by have := zt_4; omega) hN hJ79.1) ?_
              rintro _ ⟨x86, M83, rfl, h87, h88, hJ84, hq85⟩
              have hJ89 := zJ_trans hJ79 hJ84 (zSub_cons (fun _ _ h h' hk => zIR_e (by omega) (by omega) hk) (zSub_cons (fun _ _ h h' hk => zIR_s (zIR_e (by omega) (by omega) hk)) zSub_nil))
              show ZW _ _ _ _ _ _ _ (53, [some (.ref 2), some (.int 0), some (.int 10)], [.int x86], M83)
              refine w_eni dX5_needsNumber_53 rfl (znb (by omega) (by omega)) ?_
              show ZW _ _ _ _ _ _ _ (37, [some (.ref 2), some (.int x24)], [.int x86], M83)
              refine w_ine_f dX5_readSlack_37 (t := 42) rfl (by omega) ?_
              refine w_ic dX5_readSlack_40 zi_0 ?_
              refine w_en dX5_readSlack_41 rfl ?_
              exact ⟨_, _, rfl, (by have := zt_0; omega), (by have := zt_0; omega), hJ89, trivial⟩
            · skip
              refine w_clt_f dX5_needsNumber_37 (t := 48) rfl (by have := zt_0; omega) ?_
              refine w_lo dX5_needsNumber_40 rfl rfl rfl rfl ?_
              refine w_gf dX5_needsNumber_41 rfl hJ79.1.1 zs_2 f80 ?_
              refine w_lo dX5_needsNumber_44 rfl rfl rfl rfl ?_
              rcases zcut (10 : Int) x77.toInt with h90 | h90
              · skip
                refine w_cle_f dX5_needsNumber_45 (t := 54) rfl (by have := zt_10; omega) ?_
                refine w_lo dX5_needsNumber_48 rfl rfl rfl rfl ?_
                refine w_ic dX5_needsNumber_49 zi_4 ?_
                refine w_iv dX5_needsNumber_50 rfl rfl (As := [.int 4]) rfl rfl hJ79.1.1 zs_2 (Nat.le_of_ble_eq_true rfl) ?_
                refine ZV.imp (k_1286 4 (by have := zt_4; omega) (by have := zt_4; omega) hN hJ79.1) ?_
                rintro _ ⟨x94, M91, rfl, h95, h96, hJ92, hq93⟩
                have hJ97 := zJ_trans hJ79 hJ92 (zSub_cons (fun _ _ h h' hk => zIR_e (by omega) (by omega) hk) (zSub_cons (fun _ _ h h' hk => zIR_s (zIR_e (by omega) (by omega) hk)) zSub_nil))
                show ZW _ _ _ _ _ _ _ (53, [some (.ref 2), some (.int 0), some (.int 10)], [.int x94], M91)
                refine w_eni dX5_needsNumber_53 rfl (znb (by omega) (by omega)) ?_
                show ZW _ _ _ _ _ _ _ (37, [some (.ref 2), some (.int x24)], [.int x94], M91)
                refine w_ine_f dX5_readSlack_37 (t := 42) rfl (by omega) ?_
                refine w_ic dX5_readSlack_40 zi_0 ?_
                refine w_en dX5_readSlack_41 rfl ?_
                exact ⟨_, _, rfl, (by have := zt_0; omega), (by have := zt_0; omega), hJ97, trivial⟩
              · skip
                refine w_cle_t dX5_needsNumber_45 (t := 54) rfl (by have := zt_10; omega) ?_
                refine w_lo dX5_needsNumber_54 rfl rfl rfl rfl ?_
                refine w_iv dX5_needsNumber_55 rfl rfl (As := []) rfl rfl hJ79.1.1 zs_2 (Nat.le_of_ble_eq_true rfl) ?_
                refine ZV.imp (k_1289 hN hJ79.1) ?_
                rintro _ ⟨M98, rfl, hJ99, hq100⟩
                have hJ101 := zJ_trans hJ79 hJ99 (zSub_cons (fun _ _ h h' hk => zIR_s (zIR_s (zIR_s (zIR_s (zIR_s (zIR_e (by omega) (by omega) hk)))))) zSub_nil)
                show ZW _ _ _ _ _ _ _ (58, [some (.ref 2), some (.int 0), some (.int 10)], [], M98)
                refine w_ic dX5_needsNumber_58 zi_1 ?_
                refine w_en dX5_needsNumber_59 rfl ?_
                show ZW _ _ _ _ _ _ _ (37, [some (.ref 2), some (.int x24)], [.int 1], M98)
                refine w_ine_t dX5_readSlack_37 (t := 42) rfl (by have := zt_1; omega) ?_
                refine w_lo dX5_readSlack_42 rfl rfl rfl rfl ?_
                obtain ⟨b102, f103, h104⟩ := zd_2_8 hJ101.1
                have h105 := zDm_b h104
                refine w_gf dX5_readSlack_43 rfl hJ101.1.1 zs_2 f103 ?_
                refine w_gf dX5_readSlack_46 rfl hJ101.1.1 (zs_1_0 h104) (zr_1_0_14 h104 hJ101.1) ?_
                refine w_lo dX5_readSlack_49 rfl rfl rfl rfl ?_
                have f106 := (hJ99.2 (2) 10 (zNI_k (by decide) (by decide) zNI_nil)).trans (f80)
                refine w_gf dX5_readSlack_50 rfl hJ101.1.1 zs_2 f106 ?_
                refine w_lo dX5_readSlack_53 rfl rfl rfl rfl ?_
                refine w_isi dX5_readSlack_54 hJ101 (zs_1_12 h104) (by omega) (by omega) (zu_1_12 h104) (by omega) (by omega) ((zDm_or h104).elim (fun e => zIR_s (zIR_s (zIR_s (zIR_a (by omega) (by omega))))) (fun e => zIR_s (zIR_s (zIR_s (zIR_s (zIR_a (by omega) (by omega))))))) ?_
                intro M107 hJ108 f109 hn110
                refine w_ic dX5_readSlack_55 zi_1 ?_
                refine w_en dX5_readSlack_56 rfl ?_
                exact ⟨_, _, rfl, (by have := zt_1; omega), (by have := zt_1; omega), hJ108, trivial⟩
        · skip
          refine w_ieq_t dX5_readSlack_27 (t := 40) rfl (by omega) ?_
          refine w_ic dX5_readSlack_40 zi_0 ?_
          refine w_en dX5_readSlack_41 rfl ?_
          exact ⟨_, _, rfl, (by have := zt_0; omega), (by have := zt_0; omega), hJ56, trivial⟩
set_option maxRecDepth 100000 in
theorem k_1295 {X : List Int32} {d N : Nat} {M0 : zM}  (hN : N ≤ 600) (hB0 : zB N M0) : ZV X (d + 3) 1295 [.ref 2] M0 (zRI N [(2, 3, 0), (2, 3, 1), (2, 3, 10), (14, 19, 1000), (35, 40, 1000), (7, 8, 2), (28, 29, 2), (2, 3, 7), (2, 3, 9)] M0 (0) (1) (fun _ _ => True)) := by
  have hJ0 : zJ N [(2, 3, 0), (2, 3, 1), (2, 3, 10), (14, 19, 1000), (35, 40, 1000), (7, 8, 2), (28, 29, 2), (2, 3, 7), (2, 3, 9)] M0 M0 := zJ_refl hB0
  refine ZV.of (ini := false) rfl (Nat.le_of_ble_eq_true rfl) (by decide +kernel) ?_
  show ZW _ _ _ _ _ _ _ (0, [some (.ref 2), none], [], M0)
  refine w_lo dX5_readDream_0 rfl rfl rfl rfl ?_
  obtain ⟨b1, f2, h3⟩ := zd_2_8 hJ0.1
  have h4 := zDm_b h3
  refine w_gf dX5_readDream_1 rfl hJ0.1.1 zs_2 f2 ?_
  refine w_gfi dX5_readDream_4 rfl hJ0.1 (zs_1_0 h3) (Nat.le_of_ble_eq_true rfl) (zo_1_0_2 h3) ?_
  intro x5 f6 h7 h8
  refine w_lo (ml' := [some (.ref 2), some (.int x5)]) dX5_readDream_7 rfl rfl rfl rfl ?_
  refine w_lo dX5_readDream_8 rfl rfl rfl rfl ?_
  refine w_bi dX5_readDream_9 (c := 6) (by decide) ?_
  rcases zcut x5.toInt (6 : Int) with h9 | h9
  · skip
    refine w_clt_t dX5_readDream_11 (t := 20) rfl (by have := zt_6; omega) ?_
    refine w_lo dX5_readDream_20 rfl rfl rfl rfl ?_
    refine w_iv dX5_readDream_21 rfl rfl (As := []) rfl rfl hJ0.1.1 zs_2 (Nat.le_of_ble_eq_true rfl) ?_
    refine ZV.imp (k_1289 hN hJ0.1) ?_
    rintro _ ⟨M10, rfl, hJ11, hq12⟩
    have hJ13 := zJ_trans hJ0 hJ11 (zSub_cons (fun _ _ h h' hk => zIR_s (zIR_s (zIR_s (zIR_s (zIR_s (zIR_s (zIR_s (zIR_e (by omega) (by omega) hk)))))))) zSub_nil)
    show ZW _ _ _ _ _ _ _ (24, [some (.ref 2), some (.int x5)], [], M10)
    refine w_lo dX5_readDream_24 rfl rfl rfl rfl ?_
    refine w_iv dX5_readDream_25 rfl rfl (As := []) rfl rfl hJ13.1.1 zs_2 (Nat.le_of_ble_eq_true rfl) ?_
    refine ZV.imp (k_1290 hN hJ13.1) ?_
    rintro _ ⟨x17, M14, rfl, h18, h19, hJ15, hq16⟩
    have hJ20 := zJ_trans hJ13 hJ15 (zSub_cons (fun _ _ h h' hk => zIR_e (by omega) (by omega) hk) (zSub_cons (fun _ _ h h' hk => zIR_s (zIR_e (by omega) (by omega) hk)) (zSub_cons (fun _ _ h h' hk => zIR_s (zIR_s (zIR_s (zIR_s (zIR_s (zIR_s (zIR_s (zIR_e (by omega) (by omega) hk)))))))) (zSub_cons (fun _ _ h h' hk => zIR_s (zIR_s (zIR_s (zIR_s (zIR_s (zIR_s (zIR_s (zIR_s (zIR_e (by omega) (by omega) hk))))))))) zSub_nil))))
    show ZW _ _ _ _ _ _ _ (28, [some (.ref 2), some (.int x5)], [.int x17], M14)
    rcases Int.decEq x17.toInt (0 : Int) with h21 | h21
    · skip
      refine w_ine_t dX5_readDream_28 (t := 33) rfl (by omega) ?_
      refine w_lo dX5_readDream_33 rfl rfl rfl rfl ?_
      have f22 := (hJ15.2 (2) 8 (zNI_k (by decide) (by decide) (zNI_k (by decide) (by decide) (zNI_k (by decide) (by decide) (zNI_k (by decide) (by decide) zNI_nil))))).trans ((hJ11.2 (2) 8 (zNI_k (by decide) (by decide) zNI_nil)).trans (f2))
      refine w_gf dX5_readDream_34 rfl hJ20.1.1 zs_2 f22 ?_
      refine w_gf dX5_readDream_37 rfl hJ20.1.1 (zs_1_0 h3) (zr_1_0_9 h3 hJ20.1) ?_
      refine w_lo dX5_readDream_40 rfl rfl rfl rfl ?_
      refine w_lo dX5_readDream_41 rfl rfl rfl rfl ?_
      refine w_gfi dX5_readDream_42 rfl hJ20.1 zs_2 (Nat.le_of_ble_eq_true rfl) zo_2_9 ?_
      intro x23 f24 h25 h26
      refine w_isi dX5_readDream_45 hJ20 (zs_1_7 h3) (by omega) (by omega) (zu_1_7 h3) (zbot _) (ztop _) ((zDm_or h3).elim (fun e => zIR_s (zIR_s (zIR_s (zIR_a (by omega) (by omega))))) (fun e => zIR_s (zIR_s (zIR_s (zIR_s (zIR_a (by omega) (by omega))))))) ?_
      intro M27 hJ28 f29 hn30
      refine w_lo dX5_readDream_46 rfl rfl rfl rfl ?_
      refine w_bi dX5_readDream_47 (c := 15) (by decide) ?_
      refine w_iv dX5_readDream_49 rfl rfl (As := [.int 15]) rfl rfl hJ28.1.1 zs_2 (Nat.le_of_ble_eq_true rfl) ?_
      refine ZV.imp (k_1291 15 (by have := zt_15; omega) (by have := zt_15; omega) hN hJ28.1) ?_
      rintro _ ⟨x34, M31, rfl, h35, h36, hJ32, hq33⟩
      have hJ37 := zJ_trans hJ28 hJ32 (zSub_cons (fun _ _ h h' hk => zIR_e (by omega) (by omega) hk) (zSub_cons (fun _ _ h h' hk => zIR_s (zIR_e (by omega) (by omega) hk)) (zSub_cons (fun _ _ h h' hk => zIR_s (zIR_s (zIR_s (zIR_s (zIR_s (zIR_s (zIR_s (zIR_e (by omega) (by omega) hk)))))))) zSub_nil)))
      show ZW _ _ _ _ _ _ _ (52, [some (.ref 2), some (.int x5)], [.int x34], M31)
      rcases Int.decEq x34.toInt (0 : Int) with h38 | h38
      · skip
        refine w_ieq_f dX5_readDream_52 (t := 66) rfl (by omega) ?_
        refine w_lo dX5_readDream_55 rfl rfl rfl rfl ?_
        refine w_ic dX5_readDream_56 zi_1 ?_
        refine w_si dX5_readDream_57 (c := 999) (by decide) ?_
        refine w_iv dX5_readDream_60 rfl rfl (As := [.int 1, .int 999]) rfl rfl hJ37.1.1 zs_2 (Nat.le_of_ble_eq_true rfl) ?_
        refine ZV.imp (k_1292 1 (by have := zt_1; omega) (by have := zt_1; omega) 999 (by have := zt_999; omega) (by have := zt_999; omega) hN hJ37.1) ?_
        rintro _ ⟨x42, M39, rfl, h43, h44, hJ40, hq41⟩
        have hJ45 := zJ_trans hJ37 hJ40 (zSub_cons (fun _ _ h h' hk => zIR_e (by omega) (by omega) hk) (zSub_cons (fun _ _ h h' hk => zIR_s (zIR_e (by omega) (by omega) hk)) (zSub_cons (fun _ _ h h' hk => zIR_s (zIR_s (zIR_e (by omega) (by omega) hk))) (zSub_cons (fun _ _ h h' hk => zIR_s (zIR_s (zIR_s (zIR_s (zIR_s (zIR_s (zIR_s (zIR_e (by omega) (by omega) hk)))))))) zSub_nil))))
        show ZW _ _ _ _ _ _ _ (63, [some (.ref 2), some (.int x5)], [.int x42], M39)
        rcases Int.decEq x42.toInt (0 : Int) with h46 | h46
        · skip
          refine w_ine_t dX5_readDream_63 (t := 68) rfl (by omega) ?_
          refine w_lo dX5_readDream_68 rfl rfl rfl rfl ?_
          have f47 := (hJ40.2 (2) 8 (zNI_k (by decide) (by decide) (zNI_k (by decide) (by decide) (zNI_k (by decide) (by decide) (zNI_k (by decide) (by decide) zNI_nil))))).trans ((hJ32.2 (2) 8 (zNI_k (by decide) (by decide) (zNI_k (by decide) (by decide) (zNI_k (by decide) (by decide) zNI_nil)))).trans ((hn30 (2) 8 (Or.inl (by omega))).trans (f22)))
          refine w_gf dX5_readDream_69 rfl hJ45.1.1 zs_2 f47 ?_
          refine w_gf dX5_readDream_72 rfl hJ45.1.1 (zs_1_0 h3) (zr_1_0_10 h3 hJ45.1) ?_
          refine w_lo dX5_readDream_75 rfl rfl rfl rfl ?_
          refine w_lo dX5_readDream_76 rfl rfl rfl rfl ?_
          refine w_gfi dX5_readDream_77 rfl hJ45.1 zs_2 (Nat.le_of_ble_eq_true rfl) zo_2_10 ?_
          intro x48 f49 h50 h51
          refine w_isi dX5_readDream_80 hJ45 (zs_1_8 h3) (by omega) (by omega) (zu_1_8 h3) (zbot _) (ztop _) ((zDm_or h3).elim (fun e => zIR_s (zIR_s (zIR_s (zIR_a (by omega) (by omega))))) (fun e => zIR_s (zIR_s (zIR_s (zIR_s (zIR_a (by omega) (by omega))))))) ?_
          intro M52 hJ53 f54 hn55
          refine w_lo dX5_readDream_81 rfl rfl rfl rfl ?_
          refine w_bi dX5_readDream_82 (c := 16) (by decide) ?_
          refine w_iv dX5_readDream_84 rfl rfl (As := [.int 16]) rfl rfl hJ53.1.1 zs_2 (Nat.le_of_ble_eq_true rfl) ?_
          refine ZV.imp (k_1291 16 (by have := zt_16; omega) (by have := zt_16; omega) hN hJ53.1) ?_
          rintro _ ⟨x59, M56, rfl, h60, h61, hJ57, hq58⟩
          have hJ62 := zJ_trans hJ53 hJ57 (zSub_cons (fun _ _ h h' hk => zIR_e (by omega) (by omega) hk) (zSub_cons (fun _ _ h h' hk => zIR_s (zIR_e (by omega) (by omega) hk)) (zSub_cons (fun _ _ h h' hk => zIR_s (zIR_s (zIR_s (zIR_s (zIR_s (zIR_s (zIR_s (zIR_e (by omega) (by omega) hk)))))))) zSub_nil)))
          show ZW _ _ _ _ _ _ _ (87, [some (.ref 2), some (.int x5)], [.int x59], M56)
          rcases Int.decEq x59.toInt (0 : Int) with h63 | h63
          · skip
            refine w_ieq_f dX5_readDream_87 (t := 100) rfl (by omega) ?_
            refine w_lo dX5_readDream_90 rfl rfl rfl rfl ?_
            refine w_ic dX5_readDream_91 zi_1 ?_
            refine w_bi dX5_readDream_92 (c := 60) (by decide) ?_
            refine w_iv dX5_readDream_94 rfl rfl (As := [.int 1, .int 60]) rfl rfl hJ62.1.1 zs_2 (Nat.le_of_ble_eq_true rfl) ?_
            refine ZV.imp (k_1292 1 (by have := zt_1; omega) (by have := zt_1; omega) 60 (by have := zt_60; omega) (by have := zt_60; omega) hN hJ62.1) ?_
            rintro _ ⟨x67, M64, rfl, h68, h69, hJ65, hq66⟩
            have hJ70 := zJ_trans hJ62 hJ65 (zSub_cons (fun _ _ h h' hk => zIR_e (by omega) (by omega) hk) (zSub_cons (fun _ _ h h' hk => zIR_s (zIR_e (by omega) (by omega) hk)) (zSub_cons (fun _ _ h h' hk => zIR_s (zIR_s (zIR_e (by omega) (by omega) hk))) (zSub_cons (fun _ _ h h' hk => zIR_s (zIR_s (zIR_s (zIR_s (zIR_s (zIR_s (zIR_s (zIR_e (by omega) (by omega) hk)))))))) zSub_nil))))
            show ZW _ _ _ _ _ _ _ (97, [some (.ref 2), some (.int x5)], [.int x67], M64)
            rcases Int.decEq x67.toInt (0 : Int) with h71 | h71
            · skip
              refine w_ine_t dX5_readDream_97 (t := 102) rfl (by omega) ?_
              refine w_lo dX5_readDream_102 rfl rfl rfl rfl ?_
              have f72 := (hJ65.2 (2) 8 (zNI_k (by decide) (by decide) (zNI_k (by decide) (by decide) (zNI_k (by decide) (by decide) (zNI_k (by decide) (by decide) zNI_nil))))).trans ((hJ57.2 (2) 8 (zNI_k (by decide) (by decide) (zNI_k (by decide) (by decide) (zNI_k (by decide) (by decide) zNI_nil)))).trans ((hn55 (2) 8 (Or.inl (by omega))).trans (f47)))
              refine w_gf dX5_readDream_103 rfl hJ70.1.1 zs_2 f72 ?_
              refine w_gf dX5_readDream_106 rfl hJ70.1.1 (zs_1_0 h3) (zr_1_0_11 h3 hJ70.1) ?_
              refine w_lo dX5_readDream_109 rfl rfl rfl rfl ?_
              refine w_lo dX5_readDream_110 rfl rfl rfl rfl ?_
              refine w_gfi dX5_readDream_111 rfl hJ70.1 zs_2 (Nat.le_of_ble_eq_true rfl) zo_2_10 ?_
              intro x73 f74 h75 h76
              refine w_isi dX5_readDream_114 hJ70 (zs_1_9 h3) (by omega) (by omega) (zu_1_9 h3) (zbot _) (ztop _) ((zDm_or h3).elim (fun e => zIR_s (zIR_s (zIR_s (zIR_a (by omega) (by omega))))) (fun e => zIR_s (zIR_s (zIR_s (zIR_s (zIR_a (by omega) (by omega))))))) ?_
              intro M77 hJ78 f79 hn80
              refine w_lo dX5_readDream_115 rfl rfl rfl rfl ?_
              refine w_bi dX5_readDream_116 (c := 17) (by decide) ?_
              refine w_iv dX5_readDream_118 rfl rfl (As := [.int 17]) rfl rfl hJ78.1.1 zs_2 (Nat.le_of_ble_eq_true rfl) ?_
              refine ZV.imp (k_1291 17 (by have := zt_17; omega) (by have := zt_17; omega) hN hJ78.1) ?_
              rintro _ ⟨x84, M81, rfl, h85, h86, hJ82, hq83⟩
              have hJ87 := zJ_trans hJ78 hJ82 (zSub_cons (fun _ _ h h' hk => zIR_e (by omega) (by omega) hk) (zSub_cons (fun _ _ h h' hk => zIR_s (zIR_e (by omega) (by omega) hk)) (zSub_cons (fun _ _ h h' hk => zIR_s (zIR_s (zIR_s (zIR_s (zIR_s (zIR_s (zIR_s (zIR_e (by omega) (by omega) hk)))))))) zSub_nil)))
              show ZW _ _ _ _ _ _ _ (121, [some (.ref 2), some (.int x5)], [.int x84], M81)
              rcases Int.decEq x84.toInt (0 : Int) with h88 | h88
              · skip
                refine w_ieq_f dX5_readDream_121 (t := 135) rfl (by omega) ?_
                refine w_lo dX5_readDream_124 rfl rfl rfl rfl ?_
                refine w_ic dX5_readDream_125 zi_1 ?_
                refine w_si dX5_readDream_126 (c := 999) (by decide) ?_
                refine w_iv dX5_readDream_129 rfl rfl (As := [.int 1, .int 999]) rfl rfl hJ87.1.1 zs_2 (Nat.le_of_ble_eq_true rfl) ?_
                refine ZV.imp (k_1292 1 (by have := zt_1; omega) (by have := zt_1; omega) 999 (by have := zt_999; omega) (by have := zt_999; omega) hN hJ87.1) ?_
                rintro _ ⟨x92, M89, rfl, h93, h94, hJ90, hq91⟩
                have hJ95 := zJ_trans hJ87 hJ90 (zSub_cons (fun _ _ h h' hk => zIR_e (by omega) (by omega) hk) (zSub_cons (fun _ _ h h' hk => zIR_s (zIR_e (by omega) (by omega) hk)) (zSub_cons (fun _ _ h h' hk => zIR_s (zIR_s (zIR_e (by omega) (by omega) hk))) (zSub_cons (fun _ _ h h' hk => zIR_s (zIR_s (zIR_s (zIR_s (zIR_s (zIR_s (zIR_s (zIR_e (by omega) (by omega) hk)))))))) zSub_nil))))
                show ZW _ _ _ _ _ _ _ (132, [some (.ref 2), some (.int x5)], [.int x92], M89)
                rcases Int.decEq x92.toInt (0 : Int) with h96 | h96
                · skip
                  refine w_ine_t dX5_readDream_132 (t := 137) rfl (by omega) ?_
                  refine w_lo dX5_readDream_137 rfl rfl rfl rfl ?_
                  have f97 := (hJ90.2 (2) 8 (zNI_k (by decide) (by decide) (zNI_k (by decide) (by decide) (zNI_k (by decide) (by decide) (zNI_k (by decide) (by decide) zNI_nil))))).trans ((hJ82.2 (2) 8 (zNI_k (by decide) (by decide) (zNI_k (by decide) (by decide) (zNI_k (by decide) (by decide) zNI_nil)))).trans ((hn80 (2) 8 (Or.inl (by omega))).trans (f72)))
                  refine w_gf dX5_readDream_138 rfl hJ95.1.1 zs_2 f97 ?_
                  refine w_gf dX5_readDream_141 rfl hJ95.1.1 (zs_1_0 h3) (zr_1_0_12 h3 hJ95.1) ?_
                  refine w_lo dX5_readDream_144 rfl rfl rfl rfl ?_
                  refine w_lo dX5_readDream_145 rfl rfl rfl rfl ?_
                  refine w_gfi dX5_readDream_146 rfl hJ95.1 zs_2 (Nat.le_of_ble_eq_true rfl) zo_2_10 ?_
                  intro x98 f99 h100 h101
                  refine w_isi dX5_readDream_149 hJ95 (zs_1_10 h3) (by omega) (by omega) (zu_1_10 h3) (zbot _) (ztop _) ((zDm_or h3).elim (fun e => zIR_s (zIR_s (zIR_s (zIR_a (by omega) (by omega))))) (fun e => zIR_s (zIR_s (zIR_s (zIR_s (zIR_a (by omega) (by omega))))))) ?_
                  intro M102 hJ103 f104 hn105
                  refine w_lo dX5_readDream_150 rfl rfl rfl rfl ?_
                  refine w_bi dX5_readDream_151 (c := 8) (by decide) ?_
                  refine w_iv dX5_readDream_153 rfl rfl (As := [.int 8]) rfl rfl hJ103.1.1 zs_2 (Nat.le_of_ble_eq_true rfl) ?_
                  refine ZV.imp (k_1291 8 (by have := zt_8; omega) (by have := zt_8; omega) hN hJ103.1) ?_
                  rintro _ ⟨x109, M106, rfl, h110, h111, hJ107, hq108⟩
                  have hJ112 := zJ_trans hJ103 hJ107 (zSub_cons (fun _ _ h h' hk => zIR_e (by omega) (by omega) hk) (zSub_cons (fun _ _ h h' hk => zIR_s (zIR_e (by omega) (by omega) hk)) (zSub_cons (fun _ _ h h' hk => zIR_s (zIR_s (zIR_s (zIR_s (zIR_s (zIR_s (zIR_s (zIR_e (by omega) (by omega) hk)))))))) zSub_nil)))
                  show ZW _ _ _ _ _ _ _ (156, [some (.ref 2), some (.int x5)], [.int x109], M106)
                  rcases Int.decEq x109.toInt (0 : Int) with h113 | h113
                  · skip
                    refine w_ieq_f dX5_readDream_156 (t := 169) rfl (by omega) ?_
                    refine w_lo dX5_readDream_159 rfl rfl rfl rfl ?_
                    refine w_ic dX5_readDream_160 zi_1 ?_
                    refine w_bi dX5_readDream_161 (c := 99) (by decide) ?_
                    refine w_iv dX5_readDream_163 rfl rfl (As := [.int 1, .int 99]) rfl rfl hJ112.1.1 zs_2 (Nat.le_of_ble_eq_true rfl) ?_
                    refine ZV.imp (k_1292 1 (by have := zt_1; omega) (by have := zt_1; omega) 99 (by have := zt_99; omega) (by have := zt_99; omega) hN hJ112.1) ?_
                    rintro _ ⟨x117, M114, rfl, h118, h119, hJ115, hq116⟩
                    have hJ120 := zJ_trans hJ112 hJ115 (zSub_cons (fun _ _ h h' hk => zIR_e (by omega) (by omega) hk) (zSub_cons (fun _ _ h h' hk => zIR_s (zIR_e (by omega) (by omega) hk)) (zSub_cons (fun _ _ h h' hk => zIR_s (zIR_s (zIR_e (by omega) (by omega) hk))) (zSub_cons (fun _ _ h h' hk => zIR_s (zIR_s (zIR_s (zIR_s (zIR_s (zIR_s (zIR_s (zIR_e (by omega) (by omega) hk)))))))) zSub_nil))))
                    show ZW _ _ _ _ _ _ _ (166, [some (.ref 2), some (.int x5)], [.int x117], M114)
                    rcases Int.decEq x117.toInt (0 : Int) with h121 | h121
                    · skip
                      refine w_ine_t dX5_readDream_166 (t := 171) rfl (by omega) ?_
                      refine w_lo dX5_readDream_171 rfl rfl rfl rfl ?_
                      have f122 := (hJ115.2 (2) 8 (zNI_k (by decide) (by decide) (zNI_k (by decide) (by decide) (zNI_k (by decide) (by decide) (zNI_k (by decide) (by decide) zNI_nil))))).trans ((hJ107.2 (2) 8 (zNI_k (by decide) (by decide) (zNI_k (by decide) (by decide) (zNI_k (by decide) (by decide) zNI_nil)))).trans ((hn105 (2) 8 (Or.inl (by omega))).trans (f97)))
                      refine w_gf dX5_readDream_172 rfl hJ120.1.1 zs_2 f122 ?_
                      refine w_gf dX5_readDream_175 rfl hJ120.1.1 (zs_1_0 h3) (zr_1_0_13 h3 hJ120.1) ?_
                      refine w_lo dX5_readDream_178 rfl rfl rfl rfl ?_
                      refine w_lo dX5_readDream_179 rfl rfl rfl rfl ?_
                      refine w_gfi dX5_readDream_180 rfl hJ120.1 zs_2 (Nat.le_of_ble_eq_true rfl) zo_2_10 ?_
                      intro x123 f124 h125 h126
                      refine w_isi dX5_readDream_183 hJ120 (zs_1_11 h3) (by omega) (by omega) (zu_1_11 h3) (zbot _) (ztop _) ((zDm_or h3).elim (fun e => zIR_s (zIR_s (zIR_s (zIR_a (by omega) (by omega))))) (fun e => zIR_s (zIR_s (zIR_s (zIR_s (zIR_a (by omega) (by omega))))))) ?_
                      intro M127 hJ128 f129 hn130
                      refine w_lo dX5_readDream_184 rfl rfl rfl rfl ?_
                      have f131 := (hn130 (2) 8 (Or.inl (by omega))).trans (f122)
                      refine w_gf dX5_readDream_185 rfl hJ128.1.1 zs_2 f131 ?_
                      refine w_pu dX5_readDream_188 rfl rfl ?_
                      have f132 := (hn130 (b1) 2 (Or.inl (by omega))).trans ((hJ115.2 (b1) 2 (zNI_k (by decide) (by decide) (zNI_k (by decide) (by decide) (zNI_k (by decide) (by decide) (zNI_k (by decide) (by decide) zNI_nil))))).trans ((hJ107.2 (b1) 2 (zNI_k (by decide) (by decide) (zNI_k (by decide) (by decide) (zNI_k (by decide) (by decide) zNI_nil)))).trans ((hn105 (b1) 2 (Or.inl (by omega))).trans ((hJ90.2 (b1) 2 (zNI_k (by decide) (by decide) (zNI_k (by decide) (by decide) (zNI_k (by decide) (by decide) (zNI_k (by decide) (by decide) zNI_nil))))).trans ((hJ82.2 (b1) 2 (zNI_k (by decide) (by decide) (zNI_k (by decide) (by decide) (zNI_k (by decide) (by decide) zNI_nil)))).trans ((hn80 (b1) 2 (Or.inl (by omega))).trans ((hJ65.2 (b1) 2 (zNI_k (by decide) (by decide) (zNI_k (by decide) (by decide) (zNI_k (by decide) (by decide) (zNI_k (by decide) (by decide) zNI_nil))))).trans ((hJ57.2 (b1) 2 (zNI_k (by decide) (by decide) (zNI_k (by decide) (by decide) (zNI_k (by decide) (by decide) zNI_nil)))).trans ((hn55 (b1) 2 (Or.inl (by omega))).trans ((hJ40.2 (b1) 2 (zNI_k (by decide) (by decide) (zNI_k (by decide) (by decide) (zNI_k (by decide) (by decide) (zNI_k (by decide) (by decide) zNI_nil))))).trans ((hJ32.2 (b1) 2 (zNI_k (by decide) (by decide) (zNI_k (by decide) (by decide) (zNI_k (by decide) (by decide) zNI_nil)))).trans ((hn30 (b1) 2 (Or.inl (by omega))).trans ((hJ15.2 (b1) 2 (zNI_k (by decide) (by decide) (zNI_k (by decide) (by decide) (zNI_k (by decide) (by decide) (zNI_k (by decide) (by decide) zNI_nil))))).trans ((hJ11.2 (b1) 2 (zNI_k (by decide) (by decide) zNI_nil)).trans (f6)))))))))))))))
                      refine w_gf dX5_readDream_189 rfl hJ128.1.1 (zs_1_0 h3) f132 ?_
                      refine w_ic dX5_readDream_192 zi_1 ?_
                      refine w_add dX5_readDream_193 (by have := zt_1; omega) ?_
                      intro x133 h134
                      have := zt_1
                      refine w_pfi dX5_readDream_194 rfl hJ128 (zs_1_0 h3) (Nat.le_of_ble_eq_true rfl) (zo_1_0_2 h3) (by omega) (by omega) ((zDm_or h3).elim (fun e => zIR_s (zIR_s (zIR_s (zIR_s (zIR_s (zIR_k (by omega) (by omega))))))) (fun e => zIR_s (zIR_s (zIR_s (zIR_s (zIR_s (zIR_s (zIR_k (by omega) (by omega))))))))) rfl rfl rfl ?_
                      intro M135 hJ136 f137 hn138
                      refine w_ic dX5_readDream_197 zi_1 ?_
                      refine w_en dX5_readDream_198 rfl ?_
                      exact ⟨_, _, rfl, (by have := zt_1; omega), (by have := zt_1; omega), hJ136, trivial⟩
                    · skip
                      refine w_ine_f dX5_readDream_166 (t := 171) rfl (by omega) ?_
                      refine w_ic dX5_readDream_169 zi_0 ?_
                      refine w_en dX5_readDream_170 rfl ?_
                      exact ⟨_, _, rfl, (by have := zt_0; omega), (by have := zt_0; omega), hJ120, trivial⟩
                  · skip
                    refine w_ieq_t dX5_readDream_156 (t := 169) rfl (by omega) ?_
                    refine w_ic dX5_readDream_169 zi_0 ?_
                    refine w_en dX5_readDream_170 rfl ?_
                    exact ⟨_, _, rfl, (by have := zt_0; omega), (by have := zt_0; omega), hJ112, trivial⟩
                · skip
                  refine w_ine_f dX5_readDream_132 (t := 137) rfl (by omega) ?_
                  refine w_ic dX5_readDream_135 zi_0 ?_
                  refine w_en dX5_readDream_136 rfl ?_
                  exact ⟨_, _, rfl, (by have := zt_0; omega), (by have := zt_0; omega), hJ95, trivial⟩
              · skip
                refine w_ieq_t dX5_readDream_121 (t := 135) rfl (by omega) ?_
                refine w_ic dX5_readDream_135 zi_0 ?_
                refine w_en dX5_readDream_136 rfl ?_
                exact ⟨_, _, rfl, (by have := zt_0; omega), (by have := zt_0; omega), hJ87, trivial⟩
            · skip
              refine w_ine_f dX5_readDream_97 (t := 102) rfl (by omega) ?_
              refine w_ic dX5_readDream_100 zi_0 ?_
              refine w_en dX5_readDream_101 rfl ?_
              exact ⟨_, _, rfl, (by have := zt_0; omega), (by have := zt_0; omega), hJ70, trivial⟩
          · skip
            refine w_ieq_t dX5_readDream_87 (t := 100) rfl (by omega) ?_
            refine w_ic dX5_readDream_100 zi_0 ?_
            refine w_en dX5_readDream_101 rfl ?_
            exact ⟨_, _, rfl, (by have := zt_0; omega), (by have := zt_0; omega), hJ62, trivial⟩
        · skip
          refine w_ine_f dX5_readDream_63 (t := 68) rfl (by omega) ?_
          refine w_ic dX5_readDream_66 zi_0 ?_
          refine w_en dX5_readDream_67 rfl ?_
          exact ⟨_, _, rfl, (by have := zt_0; omega), (by have := zt_0; omega), hJ45, trivial⟩
      · skip
        refine w_ieq_t dX5_readDream_52 (t := 66) rfl (by omega) ?_
        refine w_ic dX5_readDream_66 zi_0 ?_
        refine w_en dX5_readDream_67 rfl ?_
        exact ⟨_, _, rfl, (by have := zt_0; omega), (by have := zt_0; omega), hJ37, trivial⟩
    · skip
      refine w_ine_f dX5_readDream_28 (t := 33) rfl (by omega) ?_
      refine w_ic dX5_readDream_31 zi_0 ?_
      refine w_en dX5_readDream_32 rfl ?_
      exact ⟨_, _, rfl, (by have := zt_0; omega), (by have := zt_0; omega), hJ20, trivial⟩
  · skip
    refine w_clt_f dX5_readDream_11 (t := 20) rfl (by have := zt_6; omega) ?_
    refine w_lo dX5_readDream_14 rfl rfl rfl rfl ?_
    refine w_ic dX5_readDream_15 zi_5 ?_
    refine w_iv dX5_readDream_16 rfl rfl (As := [.int 5]) rfl rfl hJ0.1.1 zs_2 (Nat.le_of_ble_eq_true rfl) ?_
    refine ZV.imp (k_1286 5 (by have := zt_5; omega) (by have := zt_5; omega) hN hJ0.1) ?_
    rintro _ ⟨x142, M139, rfl, h143, h144, hJ140, hq141⟩
    have hJ145 := zJ_trans hJ0 hJ140 (zSub_cons (fun _ _ h h' hk => zIR_e (by omega) (by omega) hk) (zSub_cons (fun _ _ h h' hk => zIR_s (zIR_e (by omega) (by omega) hk)) zSub_nil))
    show ZW _ _ _ _ _ _ _ (19, [some (.ref 2), some (.int x5)], [.int x142], M139)
    refine w_eni dX5_readDream_19 rfl (znb (by omega) (by omega)) ?_
    exact ⟨_, _, rfl, (by omega), (by omega), hJ145, trivial⟩
set_option maxRecDepth 100000 in
theorem k_1299 {X : List Int32} {d N : Nat} {M0 : zM} (a0 : Int32) (ha00 : (27 : Int) ≤ a0.toInt) (ha01 : a0.toInt ≤ 98) (hN : N ≤ 600) (hB0 : zB N M0) : ZV X (d + 1) 1299 [.ref 2, .int a0] M0 (zRI N [] M0 (0) (1) (fun _ _ => True)) := by
  have hJ0 : zJ N [] M0 M0 := zJ_refl hB0
  refine ZV.of (ini := false) rfl (Nat.le_of_ble_eq_true rfl) (by decide +kernel) ?_
  show ZW _ _ _ _ _ _ _ (0, [some (.ref 2), some (.int a0)], [], M0)
  refine w_lo dX5_isSign_0 rfl rfl rfl rfl ?_
  refine w_gf dX5_isSign_1 rfl hJ0.1.1 zs_2 (zr_2_3 hJ0.1) ?_
  refine w_lo dX5_isSign_4 rfl rfl rfl rfl ?_
  refine w_gfi dX5_isSign_5 rfl hJ0.1 zs_2 (Nat.le_of_ble_eq_true rfl) zo_2_7 ?_
  intro x1 f2 h3 h4
  refine w_iai dX5_isSign_8 hJ0.1 zs_4 (by omega) (by omega) zu_4 ?_
  intro x8 f5 h6 h7
  refine w_ic dX5_isSign_9 zi_5 ?_
  rcases Int.decEq x8.toInt (5 : Int) with h9 | h9
  · skip
    refine w_cne_t dX5_isSign_10 (t := 30) rfl (by have := zt_5; omega) ?_
    refine w_ic dX5_isSign_30 zi_0 ?_
    refine w_en dX5_isSign_31 rfl ?_
    exact ⟨_, _, rfl, (by have := zt_0; omega), (by have := zt_0; omega), hJ0, trivial⟩
  · skip
    refine w_cne_f dX5_isSign_10 (t := 30) rfl (by have := zt_5; omega) ?_
    refine w_lo dX5_isSign_13 rfl rfl rfl rfl ?_
    refine w_gf dX5_isSign_14 rfl hJ0.1.1 zs_2 (zr_2_4 hJ0.1) ?_
    refine w_lo dX5_isSign_17 rfl rfl rfl rfl ?_
    refine w_gf dX5_isSign_18 rfl hJ0.1.1 zs_2 f2 ?_
    refine w_iai dX5_isSign_21 hJ0.1 zs_5 (by omega) (by omega) zu_5 ?_
    intro x13 f10 h11 h12
    refine w_lo dX5_isSign_22 rfl rfl rfl rfl ?_
    rcases Int.decEq x13.toInt a0.toInt with h14 | h14
    · skip
      refine w_cne_t dX5_isSign_23 (t := 30) rfl (by omega) ?_
      refine w_ic dX5_isSign_30 zi_0 ?_
      refine w_en dX5_isSign_31 rfl ?_
      exact ⟨_, _, rfl, (by have := zt_0; omega), (by have := zt_0; omega), hJ0, trivial⟩
    · skip
      refine w_cne_f dX5_isSign_23 (t := 30) rfl (by omega) ?_
      refine w_ic dX5_isSign_26 zi_1 ?_
      refine w_gt dX5_isSign_27 (t := 31) rfl ?_
      refine w_en dX5_isSign_31 rfl ?_
      exact ⟨_, _, rfl, (by have := zt_1; omega), (by have := zt_1; omega), hJ0, trivial⟩
set_option maxRecDepth 100000 in
theorem k_515 {X : List Int32} {d N : Nat} {M0 : zM} (t : Nat) (ht : zLw t) (a0 : Int32) (hN : N ≤ 600) (hB0 : zB N M0) : ZV X (d + 1) 515 [.ref t, .int a0] M0 (zRV N [(t, t + 1, 1), (t + 1, t + 2, 1000)] M0 (fun _ => True)) := by
  have hbt := zLw_b ht
  have hJ0 : zJ N [(t, t + 1, 1), (t + 1, t + 2, 1000)] M0 M0 := zJ_refl hB0
  refine ZV.of (ini := false) rfl (Nat.le_of_ble_eq_true rfl) (by decide +kernel) ?_
  show ZW _ _ _ _ _ _ _ (0, [some (.ref t), some (.int a0)], [], M0)
  refine w_lo dX2_put_0 rfl rfl rfl rfl ?_
  refine w_gfi dX2_put_1 rfl hJ0.1 (zs_2_0 ht) (Nat.le_of_ble_eq_true rfl) (zo_2_0_1 ht) ?_
  intro x1 f2 h3 h4
  refine w_si dX2_put_4 (c := 1600) (by decide) ?_
  rcases zcut x1.toInt (1600 : Int) with h5 | h5
  · skip
    refine w_cge_f dX2_put_7 (t := 30) rfl (by have := zt_1600; omega) ?_
    refine w_lo dX2_put_10 rfl rfl rfl rfl ?_
    refine w_gf dX2_put_11 rfl hJ0.1.1 (zs_2_0 ht) (zr_2_0_2 ht hJ0.1) ?_
    refine w_lo dX2_put_14 rfl rfl rfl rfl ?_
    refine w_gf dX2_put_15 rfl hJ0.1.1 (zs_2_0 ht) f2 ?_
    refine w_lo dX2_put_18 rfl rfl rfl rfl ?_
    refine w_isi dX2_put_19 hJ0 (zs_2_1 ht) (by omega) (by omega) (zu_2_1 ht) (zbot _) (ztop _) (zIR_s (zIR_a (by omega) (by omega))) ?_
    intro M6 hJ7 f8 hn9
    refine w_lo dX2_put_20 rfl rfl rfl rfl ?_
    refine w_pu dX2_put_21 rfl rfl ?_
    have f10 := (hn9 (t) 1 (Or.inl (by omega))).trans (f2)
    refine w_gf dX2_put_22 rfl hJ7.1.1 (zs_2_0 ht) f10 ?_
    refine w_ic dX2_put_25 zi_1 ?_
    refine w_add dX2_put_26 (by have := zt_1; omega) ?_
    intro x11 h12
    have := zt_1
    refine w_pfi dX2_put_27 rfl hJ7 (zs_2_0 ht) (Nat.le_of_ble_eq_true rfl) (zo_2_0_1 ht) (by omega) (by omega) (zIR_k (by omega) (by omega)) rfl rfl rfl ?_
    intro M13 hJ14 f15 hn16
    refine w_en dX2_put_30 rfl ?_
    exact ⟨_, rfl, hJ14, trivial⟩
  · skip
    refine w_cge_t dX2_put_7 (t := 30) rfl (by have := zt_1600; omega) ?_
    refine w_en dX2_put_30 rfl ?_
    exact ⟨_, rfl, hJ0, trivial⟩
set_option maxRecDepth 100000 in
theorem k_1298_c8 {X : List Int32} {d N : Nat} {M0 : zM}  (hN : N ≤ 600) (hB0 : zB N M0) : ZV X (d + 2) 1298 [.ref 2, .int 8] M0 (zRI N [(2, 3, 0), (2, 3, 1), (20, 21, 1), (41, 42, 1), (21, 22, 1000), (42, 43, 1000), (2, 3, 7)] M0 (0) (1) (fun _ _ => True)) := by
  have hJ0 : zJ N [(2, 3, 0), (2, 3, 1), (20, 21, 1), (41, 42, 1), (21, 22, 1000), (42, 43, 1000), (2, 3, 7)] M0 M0 := zJ_refl hB0
  refine ZV.of (ini := false) rfl (Nat.le_of_ble_eq_true rfl) (by decide +kernel) ?_
  have main : ∀ n : Nat,
      (∀ (M : zM) (v73_2 : Int32) (o73_3 : Option Value), zJ N [(2, 3, 0), (2, 3, 1), (20, 21, 1), (41, 42, 1), (21, 22, 1000), (42, 43, 1000), (2, 3, 7)] M0 M → ((-1 : Int) ≤ v73_2.toInt) → (v73_2.toInt ≤ 26) → 3 < (n : Int) → ZW X (d + 1) 5 false (some .boolean) cX5_readPart (zRI N [(2, 3, 0), (2, 3, 1), (20, 21, 1), (41, 42, 1), (21, 22, 1000), (42, 43, 1000), (2, 3, 7)] M0 (0) (1) (fun _ _ => True)) (73, [some (.ref 2), some (.int 8), some (.int v73_2), o73_3], [], M)) ∧
      (∀ (M : zM) (v85_2 : Int32) (o85_3 : Option Value), zJ N [(2, 3, 0), (2, 3, 1), (20, 21, 1), (41, 42, 1), (21, 22, 1000), (42, 43, 1000), (2, 3, 7)] M0 M → ((25 : Int) ≤ v85_2.toInt) → (v85_2.toInt ≤ 26) → 2 < (n : Int) → ZW X (d + 1) 5 false (some .boolean) cX5_readPart (zRI N [(2, 3, 0), (2, 3, 1), (20, 21, 1), (41, 42, 1), (21, 22, 1000), (42, 43, 1000), (2, 3, 7)] M0 (0) (1) (fun _ _ => True)) (85, [some (.ref 2), some (.int 8), some (.int v85_2), o85_3], [], M)) ∧
      (∀ (M : zM) (v99_2 : Int32) (v99_3 : Int32), zJ N [(2, 3, 0), (2, 3, 1), (20, 21, 1), (41, 42, 1), (21, 22, 1000), (42, 43, 1000), (2, 3, 7)] M0 M → ((-1 : Int) ≤ v99_2.toInt) → (v99_2.toInt ≤ 26) → ((0 : Int) ≤ v99_3.toInt) → (v99_3.toInt ≤ 1) → 1 < (n : Int) → ZW X (d + 1) 5 false (some .boolean) cX5_readPart (zRI N [(2, 3, 0), (2, 3, 1), (20, 21, 1), (41, 42, 1), (21, 22, 1000), (42, 43, 1000), (2, 3, 7)] M0 (0) (1) (fun _ _ => True)) (99, [some (.ref 2), some (.int 8), some (.int v99_2), some (.int v99_3)], [], M)) := by
    intro n
    induction n with
    | zero =>
      exact ⟨(fun M v73_2 o73_3 hJ v73_20 v73_21 hn => absurd hn (by omega)), (fun M v85_2 o85_3 hJ v85_20 v85_21 hn => absurd hn (by omega)), (fun M v99_2 v99_3 hJ v99_20 v99_21 v99_30 v99_31 hn => absurd hn (by omega))⟩
    | succ n ih =>
      obtain ⟨ih73, ih85, ih99⟩ := ih
      refine ⟨?_, ?_, ?_⟩
      · intro M v73_2 o73_3 hJ v73_20 v73_21 hn
        refine w_lo dX5_readPart_73 rfl rfl rfl rfl ?_
        refine w_bi dX5_readPart_74 (c := 25) (by decide) ?_
        rcases Int.decEq v73_2.toInt (25 : Int) with h1 | h1
        · skip
          refine w_ceq_f dX5_readPart_76 (t := 85) rfl (by have := zt_25; omega) ?_
          refine w_lo dX5_readPart_79 rfl rfl rfl rfl ?_
          refine w_bi dX5_readPart_80 (c := 26) (by decide) ?_
          rcases Int.decEq v73_2.toInt (26 : Int) with h2 | h2
          · skip
            refine w_cne_t dX5_readPart_82 (t := 89) rfl (by have := zt_26; omega) ?_
            refine w_ic dX5_readPart_89 zi_0 ?_
            refine w_lo (ml' := [some (.ref 2), some (.int 8), some (.int v73_2), some (.int 0)]) dX5_readPart_90 rfl rfl rfl rfl ?_
            refine w_lo dX5_readPart_91 rfl rfl rfl rfl ?_
            refine w_ieq_t dX5_readPart_92 (t := 99) rfl (by have := zt_0; omega) ?_
            exact ih99 M v73_2 0 hJ (by omega) (by omega) (by have := zt_0; omega) (by have := zt_0; omega) (by have := zt_8; have := zt_0; omega)
          · skip
            refine w_cne_f dX5_readPart_82 (t := 89) rfl (by have := zt_26; omega) ?_
            exact ih85 M v73_2 o73_3 hJ (by omega) (by omega) (by have := zt_8; omega)
        · skip
          refine w_ceq_t dX5_readPart_76 (t := 85) rfl (by have := zt_25; omega) ?_
          exact ih85 M v73_2 o73_3 hJ (by omega) (by omega) (by have := zt_8; omega)
      · intro M v85_2 o85_3 hJ v85_20 v85_21 hn
        refine w_ic dX5_readPart_85 zi_1 ?_
        refine w_gt dX5_readPart_86 (t := 90) rfl ?_
        refine w_lo (ml' := [some (.ref 2), some (.int 8), some (.int v85_2), some (.int 1)]) dX5_readPart_90 rfl rfl rfl rfl ?_
        refine w_lo dX5_readPart_91 rfl rfl rfl rfl ?_
        refine w_ieq_f dX5_readPart_92 (t := 99) rfl (by have := zt_1; omega) ?_
        refine w_lo dX5_readPart_95 rfl rfl rfl rfl ?_
        refine w_iv dX5_readPart_96 rfl rfl (As := []) rfl rfl hJ.1.1 zs_2 (Nat.le_of_ble_eq_true rfl) ?_
        refine ZV.imp (k_1289 hN hJ.1) ?_
        rintro _ ⟨M3, rfl, hJ4, hq5⟩
        have hJ6 := zJ_trans hJ hJ4 (zSub_cons (fun _ _ h h' hk => zIR_s (zIR_s (zIR_s (zIR_s (zIR_s (zIR_s (zIR_e (by omega) (by omega) hk))))))) zSub_nil)
        show ZW _ _ _ _ _ _ _ (99, [some (.ref 2), some (.int 8), some (.int v85_2), some (.int 1)], [], M3)
        exact ih99 M3 v85_2 1 hJ6 (by omega) (by omega) (by have := zt_1; omega) (by have := zt_1; omega) (by have := zt_8; have := zt_1; omega)
      · intro M v99_2 v99_3 hJ v99_20 v99_21 v99_30 v99_31 hn
        refine w_lo dX5_readPart_99 rfl rfl rfl rfl ?_
        refine w_bi dX5_readPart_100 (c := 40) (by decide) ?_
        refine w_iv dX5_readPart_102 rfl rfl (As := [.int 40]) rfl rfl hJ.1.1 zs_2 (Nat.le_of_ble_eq_true rfl) ?_
        refine ZV.imp (k_1299 40 (by have := zt_40; omega) (by have := zt_40; omega) hN hJ.1) ?_
        rintro _ ⟨x10, M7, rfl, h11, h12, hJ8, hq9⟩
        have hJ13 := zJ_trans hJ hJ8 zSub_nil
        show ZW _ _ _ _ _ _ _ (105, [some (.ref 2), some (.int 8), some (.int v99_2), some (.int v99_3)], [.int x10], M7)
        rcases Int.decEq x10.toInt (0 : Int) with h14 | h14
        · skip
          refine w_ine_t dX5_readPart_105 (t := 114) rfl (by omega) ?_
          refine w_lo dX5_readPart_114 rfl rfl rfl rfl ?_
          refine w_bi dX5_readPart_115 (c := 8) (by decide) ?_
          refine w_clt_f dX5_readPart_117 (t := 126) rfl (by have := zt_8; have := zt_8; omega) ?_
          refine w_lo dX5_readPart_120 rfl rfl rfl rfl ?_
          refine w_ic dX5_readPart_121 zi_5 ?_
          refine w_iv dX5_readPart_122 rfl rfl (As := [.int 5]) rfl rfl hJ13.1.1 zs_2 (Nat.le_of_ble_eq_true rfl) ?_
          refine ZV.imp (k_1286 5 (by have := zt_5; omega) (by have := zt_5; omega) hN hJ13.1) ?_
          rintro _ ⟨x18, M15, rfl, h19, h20, hJ16, hq17⟩
          have hJ21 := zJ_trans hJ13 hJ16 (zSub_cons (fun _ _ h h' hk => zIR_e (by omega) (by omega) hk) (zSub_cons (fun _ _ h h' hk => zIR_s (zIR_e (by omega) (by omega) hk)) zSub_nil))
          show ZW _ _ _ _ _ _ _ (125, [some (.ref 2), some (.int 8), some (.int v99_2), some (.int v99_3)], [.int x18], M15)
          refine w_eni dX5_readPart_125 rfl (znb (by omega) (by omega)) ?_
          exact ⟨_, _, rfl, (by omega), (by omega), hJ21, trivial⟩
        · skip
          refine w_ine_f dX5_readPart_105 (t := 114) rfl (by omega) ?_
          refine w_lo dX5_readPart_108 rfl rfl rfl rfl ?_
          refine w_ic dX5_readPart_109 zi_1 ?_
          refine w_iv dX5_readPart_110 rfl rfl (As := [.int 1]) rfl rfl hJ13.1.1 zs_2 (Nat.le_of_ble_eq_true rfl) ?_
          refine ZV.imp (k_1286 1 (by have := zt_1; omega) (by have := zt_1; omega) hN hJ13.1) ?_
          rintro _ ⟨x25, M22, rfl, h26, h27, hJ23, hq24⟩
          have hJ28 := zJ_trans hJ13 hJ23 (zSub_cons (fun _ _ h h' hk => zIR_e (by omega) (by omega) hk) (zSub_cons (fun _ _ h h' hk => zIR_s (zIR_e (by omega) (by omega) hk)) zSub_nil))
          show ZW _ _ _ _ _ _ _ (113, [some (.ref 2), some (.int 8), some (.int v99_2), some (.int v99_3)], [.int x25], M22)
          refine w_eni dX5_readPart_113 rfl (znb (by omega) (by omega)) ?_
          exact ⟨_, _, rfl, (by omega), (by omega), hJ28, trivial⟩
  obtain ⟨ih73, ih85, ih99⟩ := main 8
  show ZW _ _ _ _ _ _ _ (0, [some (.ref 2), some (.int 8), none, none], [], M0)
  refine w_lo dX5_readPart_0 rfl rfl rfl rfl ?_
  refine w_gf dX5_readPart_1 rfl hJ0.1.1 zs_2 (zr_2_3 hJ0.1) ?_
  refine w_lo dX5_readPart_4 rfl rfl rfl rfl ?_
  refine w_gfi dX5_readPart_5 rfl hJ0.1 zs_2 (Nat.le_of_ble_eq_true rfl) zo_2_7 ?_
  intro x29 f30 h31 h32
  refine w_iai dX5_readPart_8 hJ0.1 zs_4 (by omega) (by omega) zu_4 ?_
  intro x36 f33 h34 h35
  refine w_ic dX5_readPart_9 zi_4 ?_
  rcases Int.decEq x36.toInt (4 : Int) with h37 | h37
  · skip
    refine w_cne_t dX5_readPart_10 (t := 38) rfl (by have := zt_4; omega) ?_
    refine w_lo dX5_readPart_38 rfl rfl rfl rfl ?_
    refine w_iv dX5_readPart_39 rfl rfl (As := []) rfl rfl hJ0.1.1 zs_2 (Nat.le_of_ble_eq_true rfl) ?_
    refine ZV.imp (k_1287 hN hJ0.1) ?_
    rintro _ ⟨x41, M38, rfl, h42, h43, hJ39, hq40⟩
    have hJ44 := zJ_trans hJ0 hJ39 zSub_nil
    show ZW _ _ _ _ _ _ _ (42, [some (.ref 2), some (.int 8), none, none], [.int x41], M38)
    refine w_lo (ml' := [some (.ref 2), some (.int 8), some (.int x41), none]) dX5_readPart_42 rfl rfl rfl rfl ?_
    refine w_lo dX5_readPart_43 rfl rfl rfl rfl ?_
    refine w_ic dX5_readPart_44 zi_m1 ?_
    rcases Int.decEq x41.toInt (-1 : Int) with h45 | h45
    · skip
      refine w_ceq_f dX5_readPart_45 (t := 73) rfl (by have := zt_m1; omega) ?_
      refine w_lo dX5_readPart_48 rfl rfl rfl rfl ?_
      refine w_bi dX5_readPart_49 (c := 7) (by decide) ?_
      rcases zcut x41.toInt (7 : Int) with h46 | h46
      · skip
        refine w_cge_f dX5_readPart_51 (t := 73) rfl (by have := zt_7; omega) ?_
        refine w_lo dX5_readPart_54 rfl rfl rfl rfl ?_
        obtain ⟨b47, f48, h49⟩ := zd_2_8 hJ44.1
        have h50 := zDm_b h49
        refine w_gf dX5_readPart_55 rfl hJ44.1.1 zs_2 f48 ?_
        refine w_gf dX5_readPart_58 rfl hJ44.1.1 (zs_1_0 h49) (zr_1_0_15 h49 hJ44.1) ?_
        refine w_ic dX5_readPart_61 zi_m1 ?_
        refine w_lo dX5_readPart_62 rfl rfl rfl rfl ?_
        refine w_sub dX5_readPart_63 (by have := zt_m1; omega) ?_
        intro x51 h52
        have := zt_m1
        refine w_iv dX5_readPart_64 rfl rfl (As := [.int x51]) rfl rfl hJ44.1.1 (zs_1_13 h49) (Nat.le_of_ble_eq_true rfl) ?_
        refine ZV.imp (k_515 (b47 + 13) (zLw_of h49) x51 hN hJ44.1) ?_
        rintro _ ⟨M53, rfl, hJ54, hq55⟩
        have hJ56 := zJ_trans hJ44 hJ54 (zSub_cons (fun _ _ h h' hk => ((zDm_or h49).elim (fun e => zIR_s (zIR_s (zIR_e (by omega) (by omega) hk))) (fun e => zIR_s (zIR_s (zIR_s (zIR_e (by omega) (by omega) hk)))))) (zSub_cons (fun _ _ h h' hk => ((zDm_or h49).elim (fun e => zIR_s (zIR_s (zIR_s (zIR_s (zIR_a (by omega) (by omega)))))) (fun e => zIR_s (zIR_s (zIR_s (zIR_s (zIR_s (zIR_a (by omega) (by omega))))))))) zSub_nil))
        show ZW _ _ _ _ _ _ _ (67, [some (.ref 2), some (.int 8), some (.int x41), none], [], M53)
        refine w_lo dX5_readPart_67 rfl rfl rfl rfl ?_
        refine w_iv dX5_readPart_68 rfl rfl (As := []) rfl rfl hJ56.1.1 zs_2 (Nat.le_of_ble_eq_true rfl) ?_
        refine ZV.imp (k_1289 hN hJ56.1) ?_
        rintro _ ⟨M57, rfl, hJ58, hq59⟩
        have hJ60 := zJ_trans hJ56 hJ58 (zSub_cons (fun _ _ h h' hk => zIR_s (zIR_s (zIR_s (zIR_s (zIR_s (zIR_s (zIR_e (by omega) (by omega) hk))))))) zSub_nil)
        show ZW _ _ _ _ _ _ _ (71, [some (.ref 2), some (.int 8), some (.int x41), none], [], M57)
        refine w_ic dX5_readPart_71 zi_1 ?_
        refine w_en dX5_readPart_72 rfl ?_
        exact ⟨_, _, rfl, (by have := zt_1; omega), (by have := zt_1; omega), hJ60, trivial⟩
      · skip
        refine w_cge_t dX5_readPart_51 (t := 73) rfl (by have := zt_7; omega) ?_
        exact ih73 M38 x41 none hJ44 (by omega) (by omega) (by have := zt_8; omega)
    · skip
      refine w_ceq_t dX5_readPart_45 (t := 73) rfl (by have := zt_m1; omega) ?_
      exact ih73 M38 x41 none hJ44 (by omega) (by omega) (by have := zt_8; omega)
  · skip
    refine w_cne_f dX5_readPart_10 (t := 38) rfl (by have := zt_4; omega) ?_
    refine w_lo dX5_readPart_13 rfl rfl rfl rfl ?_
    obtain ⟨b61, f62, h63⟩ := zd_2_8 hJ0.1
    have h64 := zDm_b h63
    refine w_gf dX5_readPart_14 rfl hJ0.1.1 zs_2 f62 ?_
    refine w_gf dX5_readPart_17 rfl hJ0.1.1 (zs_1_0 h63) (zr_1_0_15 h63 hJ0.1) ?_
    refine w_lo dX5_readPart_20 rfl rfl rfl rfl ?_
    refine w_gf dX5_readPart_21 rfl hJ0.1.1 zs_2 (zr_2_4 hJ0.1) ?_
    refine w_lo dX5_readPart_24 rfl rfl rfl rfl ?_
    refine w_gf dX5_readPart_25 rfl hJ0.1.1 zs_2 f30 ?_
    refine w_iai dX5_readPart_28 hJ0.1 zs_5 (by omega) (by omega) zu_5 ?_
    intro x68 f65 h66 h67
    refine w_iv dX5_readPart_29 rfl rfl (As := [.int x68]) rfl rfl hJ0.1.1 (zs_1_13 h63) (Nat.le_of_ble_eq_true rfl) ?_
    refine ZV.imp (k_515 (b61 + 13) (zLw_of h63) x68 hN hJ0.1) ?_
    rintro _ ⟨M69, rfl, hJ70, hq71⟩
    have hJ72 := zJ_trans hJ0 hJ70 (zSub_cons (fun _ _ h h' hk => ((zDm_or h63).elim (fun e => zIR_s (zIR_s (zIR_e (by omega) (by omega) hk))) (fun e => zIR_s (zIR_s (zIR_s (zIR_e (by omega) (by omega) hk)))))) (zSub_cons (fun _ _ h h' hk => ((zDm_or h63).elim (fun e => zIR_s (zIR_s (zIR_s (zIR_s (zIR_a (by omega) (by omega)))))) (fun e => zIR_s (zIR_s (zIR_s (zIR_s (zIR_s (zIR_a (by omega) (by omega))))))))) zSub_nil))
    show ZW _ _ _ _ _ _ _ (32, [some (.ref 2), some (.int 8), none, none], [], M69)
    refine w_lo dX5_readPart_32 rfl rfl rfl rfl ?_
    refine w_iv dX5_readPart_33 rfl rfl (As := []) rfl rfl hJ72.1.1 zs_2 (Nat.le_of_ble_eq_true rfl) ?_
    refine ZV.imp (k_1289 hN hJ72.1) ?_
    rintro _ ⟨M73, rfl, hJ74, hq75⟩
    have hJ76 := zJ_trans hJ72 hJ74 (zSub_cons (fun _ _ h h' hk => zIR_s (zIR_s (zIR_s (zIR_s (zIR_s (zIR_s (zIR_e (by omega) (by omega) hk))))))) zSub_nil)
    show ZW _ _ _ _ _ _ _ (36, [some (.ref 2), some (.int 8), none, none], [], M73)
    refine w_ic dX5_readPart_36 zi_1 ?_
    refine w_en dX5_readPart_37 rfl ?_
    exact ⟨_, _, rfl, (by have := zt_1; omega), (by have := zt_1; omega), hJ76, trivial⟩
set_option maxRecDepth 100000 in
theorem k_1297_c8 {X : List Int32} {d N : Nat} {M0 : zM}  (hN : N ≤ 600) (hB0 : zB N M0) : ZV X (d + 3) 1297 [.ref 2, .int 8] M0 (zRI N [(2, 3, 0), (2, 3, 1), (20, 21, 1), (41, 42, 1), (21, 22, 1000), (42, 43, 1000), (2, 3, 7)] M0 (0) (1) (fun _ _ => True)) := by
  have hJ0 : zJ N [(2, 3, 0), (2, 3, 1), (20, 21, 1), (41, 42, 1), (21, 22, 1000), (42, 43, 1000), (2, 3, 7)] M0 M0 := zJ_refl hB0
  refine ZV.of (ini := false) rfl (Nat.le_of_ble_eq_true rfl) (by decide +kernel) ?_
  have main : ∀ n : Nat,
      (∀ (M : zM) (v4_2 : Int32) (v4_3 : Int32) (o4_4 : Option Value) (o4_5 : Option Value), zJ N [(2, 3, 0), (2, 3, 1), (20, 21, 1), (41, 42, 1), (21, 22, 1000), (42, 43, 1000), (2, 3, 7)] M0 M → ((-13 : Int) ≤ v4_2.toInt) → (v4_2.toInt ≤ 0) → ((0 : Int) ≤ v4_3.toInt) → (v4_3.toInt ≤ 1601) → 12832 * (1601 - v4_3.toInt) + 12830 < (n : Int) → ZW X (d + 2) 5 false (some .boolean) cX5_readSum (zRI N [(2, 3, 0), (2, 3, 1), (20, 21, 1), (41, 42, 1), (21, 22, 1000), (42, 43, 1000), (2, 3, 7)] M0 (0) (1) (fun _ _ => True)) (4, [some (.ref 2), some (.int 8), some (.int v4_2), some (.int v4_3), o4_4, o4_5], [], M)) ∧
      (∀ (M : zM) (v17_2 : Int32) (v17_3 : Int32) (v17_4 : Int32) (v17_5 : Int32), zJ N [(2, 3, 0), (2, 3, 1), (20, 21, 1), (41, 42, 1), (21, 22, 1000), (42, 43, 1000), (2, 3, 7)] M0 M → ((-2147483648 : Int) ≤ v17_2.toInt) → (v17_2.toInt ≤ 0) → ((0 : Int) ≤ v17_3.toInt) → (v17_3.toInt ≤ 1600) → ((-11 : Int) ≤ v17_4.toInt) → (v17_4.toInt ≤ 0) → ((0 : Int) ≤ v17_5.toInt) → (v17_5.toInt ≤ 1601) → 12832 * (1601 - v17_3.toInt) + 8 * (1601 - v17_5.toInt) + 5 < (n : Int) → ZW X (d + 2) 5 false (some .boolean) cX5_readSum (zRI N [(2, 3, 0), (2, 3, 1), (20, 21, 1), (41, 42, 1), (21, 22, 1000), (42, 43, 1000), (2, 3, 7)] M0 (0) (1) (fun _ _ => True)) (17, [some (.ref 2), some (.int 8), some (.int v17_2), some (.int v17_3), some (.int v17_4), some (.int v17_5)], [], M)) ∧
      (∀ (M : zM) (v52_2 : Int32) (v52_3 : Int32) (u52_4 : Int32) (v52_5 : Int32), zJ N [(2, 3, 0), (2, 3, 1), (20, 21, 1), (41, 42, 1), (21, 22, 1000), (42, 43, 1000), (2, 3, 7)] M0 M → ((-2147483648 : Int) ≤ v52_2.toInt) → (v52_2.toInt ≤ 0) → ((0 : Int) ≤ v52_3.toInt) → (v52_3.toInt ≤ 1600) → ((0 : Int) ≤ v52_5.toInt) → (v52_5.toInt ≤ 1600) → 12832 * (1601 - v52_3.toInt) + 8 * (1601 - v52_5.toInt) + 4 < (n : Int) → ZW X (d + 2) 5 false (some .boolean) cX5_readSum (zRI N [(2, 3, 0), (2, 3, 1), (20, 21, 1), (41, 42, 1), (21, 22, 1000), (42, 43, 1000), (2, 3, 7)] M0 (0) (1) (fun _ _ => True)) (52, [some (.ref 2), some (.int 8), some (.int v52_2), some (.int v52_3), some (.int u52_4), some (.int v52_5)], [], M)) ∧
      (∀ (M : zM) (v95_2 : Int32) (v95_3 : Int32) (u95_4 : Int32) (v95_5 : Int32) (s95_0 : Int32), zJ N [(2, 3, 0), (2, 3, 1), (20, 21, 1), (41, 42, 1), (21, 22, 1000), (42, 43, 1000), (2, 3, 7)] M0 M → ((-2147483648 : Int) ≤ v95_2.toInt) → (v95_2.toInt ≤ 0) → ((0 : Int) ≤ v95_3.toInt) → (v95_3.toInt ≤ 1600) → ((0 : Int) ≤ v95_5.toInt) → (v95_5.toInt ≤ 1600) → ((-11 : Int) ≤ s95_0.toInt) → (s95_0.toInt ≤ 0) → 12832 * (1601 - v95_3.toInt) + 8 * (1601 - v95_5.toInt) + 3 < (n : Int) → ZW X (d + 2) 5 false (some .boolean) cX5_readSum (zRI N [(2, 3, 0), (2, 3, 1), (20, 21, 1), (41, 42, 1), (21, 22, 1000), (42, 43, 1000), (2, 3, 7)] M0 (0) (1) (fun _ _ => True)) (95, [some (.ref 2), some (.int 8), some (.int v95_2), some (.int v95_3), some (.int u95_4), some (.int v95_5)], [.int s95_0], M)) ∧
      (∀ (M : zM) (v115_2 : Int32) (v115_3 : Int32) (u115_4 : Int32) (u115_5 : Int32), zJ N [(2, 3, 0), (2, 3, 1), (20, 21, 1), (41, 42, 1), (21, 22, 1000), (42, 43, 1000), (2, 3, 7)] M0 M → ((-2147483648 : Int) ≤ v115_2.toInt) → (v115_2.toInt ≤ 0) → ((0 : Int) ≤ v115_3.toInt) → (v115_3.toInt ≤ 1600) → 12832 * (1601 - v115_3.toInt) + 2 < (n : Int) → ZW X (d + 2) 5 false (some .boolean) cX5_readSum (zRI N [(2, 3, 0), (2, 3, 1), (20, 21, 1), (41, 42, 1), (21, 22, 1000), (42, 43, 1000), (2, 3, 7)] M0 (0) (1) (fun _ _ => True)) (115, [some (.ref 2), some (.int 8), some (.int v115_2), some (.int v115_3), some (.int u115_4), some (.int u115_5)], [], M)) ∧
      (∀ (M : zM) (u130_2 : Int32) (v130_3 : Int32) (u130_4 : Int32) (u130_5 : Int32), zJ N [(2, 3, 0), (2, 3, 1), (20, 21, 1), (41, 42, 1), (21, 22, 1000), (42, 43, 1000), (2, 3, 7)] M0 M → ((0 : Int) ≤ v130_3.toInt) → (v130_3.toInt ≤ 1600) → 12832 * (1601 - v130_3.toInt) + 1 < (n : Int) → ZW X (d + 2) 5 false (some .boolean) cX5_readSum (zRI N [(2, 3, 0), (2, 3, 1), (20, 21, 1), (41, 42, 1), (21, 22, 1000), (42, 43, 1000), (2, 3, 7)] M0 (0) (1) (fun _ _ => True)) (130, [some (.ref 2), some (.int 8), some (.int u130_2), some (.int v130_3), some (.int u130_4), some (.int u130_5)], [], M)) := by
    intro n
    induction n with
    | zero =>
      exact ⟨(fun M v4_2 v4_3 o4_4 o4_5 hJ v4_20 v4_21 v4_30 v4_31 hn => absurd hn (by omega)), (fun M v17_2 v17_3 v17_4 v17_5 hJ v17_20 v17_21 v17_30 v17_31 v17_40 v17_41 v17_50 v17_51 hn => absurd hn (by omega)), (fun M v52_2 v52_3 u52_4 v52_5 hJ v52_20 v52_21 v52_30 v52_31 v52_50 v52_51 hn => absurd hn (by omega)), (fun M v95_2 v95_3 u95_4 v95_5 s95_0 hJ v95_20 v95_21 v95_30 v95_31 v95_50 v95_51 s95_00 s95_01 hn => absurd hn (by omega)), (fun M v115_2 v115_3 u115_4 u115_5 hJ v115_20 v115_21 v115_30 v115_31 hn => absurd hn (by omega)), (fun M u130_2 v130_3 u130_4 u130_5 hJ v130_30 v130_31 hn => absurd hn (by omega))⟩
    | succ n ih =>
      obtain ⟨ih4, ih17, ih52, ih95, ih115, ih130⟩ := ih
      refine ⟨?_, ?_, ?_, ?_, ?_, ?_⟩
      · intro M v4_2 v4_3 o4_4 o4_5 hJ v4_20 v4_21 v4_30 v4_31 hn
        refine w_lo dX5_readSum_4 rfl rfl rfl rfl ?_
        refine w_si dX5_readSum_5 (c := 1600) (by decide) ?_
        rcases zcut (1600 : Int) v4_3.toInt with h1 | h1
        · skip
          refine w_cgt_t dX5_readSum_8 (t := 177) rfl (by have := zt_1600; omega) ?_
          refine w_ic dX5_readSum_177 zi_1 ?_
          refine w_en dX5_readSum_178 rfl ?_
          exact ⟨_, _, rfl, (by have := zt_1; omega), (by have := zt_1; omega), hJ, trivial⟩
        · skip
          refine w_cgt_f dX5_readSum_8 (t := 177) rfl (by have := zt_1600; omega) ?_
          refine w_ic dX5_readSum_11 zi_0 ?_
          refine w_lo (ml' := [some (.ref 2), some (.int 8), some (.int v4_2), some (.int v4_3), some (.int 0), o4_5]) dX5_readSum_12 rfl rfl rfl rfl ?_
          refine w_ic dX5_readSum_14 zi_0 ?_
          refine w_lo (ml' := [some (.ref 2), some (.int 8), some (.int v4_2), some (.int v4_3), some (.int 0), some (.int 0)]) dX5_readSum_15 rfl rfl rfl rfl ?_
          exact ih17 M v4_2 v4_3 0 0 hJ (zbot _) (by omega) (by omega) (by omega) (by have := zt_0; omega) (by have := zt_0; omega) (by have := zt_0; omega) (by have := zt_0; omega) (by have := zt_8; have := zt_0; omega)
      · intro M v17_2 v17_3 v17_4 v17_5 hJ v17_20 v17_21 v17_30 v17_31 v17_40 v17_41 v17_50 v17_51 hn
        refine w_lo dX5_readSum_17 rfl rfl rfl rfl ?_
        refine w_si dX5_readSum_19 (c := 1600) (by decide) ?_
        rcases zcut (1600 : Int) v17_5.toInt with h2 | h2
        · skip
          refine w_cgt_t dX5_readSum_22 (t := 115) rfl (by have := zt_1600; omega) ?_
          exact ih115 M v17_2 v17_3 v17_4 v17_5 hJ (zbot _) (by omega) (by omega) (by omega) (by have := zt_8; omega)
        · skip
          refine w_cgt_f dX5_readSum_22 (t := 115) rfl (by have := zt_1600; omega) ?_
          refine w_lo dX5_readSum_25 rfl rfl rfl rfl ?_
          refine w_lo dX5_readSum_26 rfl rfl rfl rfl ?_
          refine w_iv dX5_readSum_27 rfl rfl (As := [.int 8]) rfl rfl hJ.1.1 zs_2 (Nat.le_of_ble_eq_true rfl) ?_
          refine ZV.imp (k_1298_c8 hN hJ.1) ?_
          rintro _ ⟨x6, M3, rfl, h7, h8, hJ4, hq5⟩
          have hJ9 := zJ_trans hJ hJ4 (zSub_cons (fun _ _ h h' hk => zIR_e (by omega) (by omega) hk) (zSub_cons (fun _ _ h h' hk => zIR_s (zIR_e (by omega) (by omega) hk)) (zSub_cons (fun _ _ h h' hk => zIR_s (zIR_s (zIR_e (by omega) (by omega) hk))) (zSub_cons (fun _ _ h h' hk => zIR_s (zIR_s (zIR_s (zIR_e (by omega) (by omega) hk)))) (zSub_cons (fun _ _ h h' hk => zIR_s (zIR_s (zIR_s (zIR_s (zIR_a (by omega) (by omega)))))) (zSub_cons (fun _ _ h h' hk => zIR_s (zIR_s (zIR_s (zIR_s (zIR_s (zIR_a (by omega) (by omega))))))) (zSub_cons (fun _ _ h h' hk => zIR_s (zIR_s (zIR_s (zIR_s (zIR_s (zIR_s (zIR_e (by omega) (by omega) hk))))))) zSub_nil)))))))
          show ZW _ _ _ _ _ _ _ (30, [some (.ref 2), some (.int 8), some (.int v17_2), some (.int v17_3), some (.int v17_4), some (.int v17_5)], [.int x6], M3)
          rcases Int.decEq x6.toInt (0 : Int) with h10 | h10
          · skip
            refine w_ine_t dX5_readSum_30 (t := 35) rfl (by omega) ?_
            refine w_lo dX5_readSum_35 rfl rfl rfl rfl ?_
            rcases Int.decEq v17_4.toInt (0 : Int) with h11 | h11
            · skip
              refine w_ieq_f dX5_readSum_37 (t := 52) rfl (by omega) ?_
              refine w_lo dX5_readSum_40 rfl rfl rfl rfl ?_
              obtain ⟨b12, f13, h14⟩ := zd_2_8 hJ9.1
              have h15 := zDm_b h14
              refine w_gf dX5_readSum_41 rfl hJ9.1.1 zs_2 f13 ?_
              refine w_gf dX5_readSum_44 rfl hJ9.1.1 (zs_1_0 h14) (zr_1_0_15 h14 hJ9.1) ?_
              refine w_lo dX5_readSum_47 rfl rfl rfl rfl ?_
              refine w_iv dX5_readSum_49 rfl rfl (As := [.int v17_4]) rfl rfl hJ9.1.1 (zs_1_13 h14) (Nat.le_of_ble_eq_true rfl) ?_
              refine ZV.imp (k_515 (b12 + 13) (zLw_of h14) v17_4 hN hJ9.1) ?_
              rintro _ ⟨M16, rfl, hJ17, hq18⟩
              have hJ19 := zJ_trans hJ9 hJ17 (zSub_cons (fun _ _ h h' hk => ((zDm_or h14).elim (fun e => zIR_s (zIR_s (zIR_e (by omega) (by omega) hk))) (fun e => zIR_s (zIR_s (zIR_s (zIR_e (by omega) (by omega) hk)))))) (zSub_cons (fun _ _ h h' hk => ((zDm_or h14).elim (fun e => zIR_s (zIR_s (zIR_s (zIR_s (zIR_a (by omega) (by omega)))))) (fun e => zIR_s (zIR_s (zIR_s (zIR_s (zIR_s (zIR_a (by omega) (by omega))))))))) zSub_nil))
              show ZW _ _ _ _ _ _ _ (52, [some (.ref 2), some (.int 8), some (.int v17_2), some (.int v17_3), some (.int v17_4), some (.int v17_5)], [], M16)
              exact ih52 M16 v17_2 v17_3 v17_4 v17_5 hJ19 (zbot _) (by omega) (by omega) (by omega) (by omega) (by omega) (by have := zt_8; omega)
            · skip
              refine w_ieq_t dX5_readSum_37 (t := 52) rfl (by omega) ?_
              exact ih52 M3 v17_2 v17_3 v17_4 v17_5 hJ9 (zbot _) (by omega) (by omega) (by omega) (by omega) (by omega) (by have := zt_8; omega)
          · skip
            refine w_ine_f dX5_readSum_30 (t := 35) rfl (by omega) ?_
            refine w_ic dX5_readSum_33 zi_0 ?_
            refine w_en dX5_readSum_34 rfl ?_
            exact ⟨_, _, rfl, (by have := zt_0; omega), (by have := zt_0; omega), hJ9, trivial⟩
      · intro M v52_2 v52_3 u52_4 v52_5 hJ v52_20 v52_21 v52_30 v52_31 v52_50 v52_51 hn
        refine w_lo dX5_readSum_52 rfl rfl rfl rfl ?_
        refine w_bi dX5_readSum_53 (c := 42) (by decide) ?_
        refine w_iv dX5_readSum_55 rfl rfl (As := [.int 42]) rfl rfl hJ.1.1 zs_2 (Nat.le_of_ble_eq_true rfl) ?_
        refine ZV.imp (k_1299 42 (by have := zt_42; omega) (by have := zt_42; omega) hN hJ.1) ?_
        rintro _ ⟨x23, M20, rfl, h24, h25, hJ21, hq22⟩
        have hJ26 := zJ_trans hJ hJ21 zSub_nil
        show ZW _ _ _ _ _ _ _ (58, [some (.ref 2), some (.int 8), some (.int v52_2), some (.int v52_3), some (.int u52_4), some (.int v52_5)], [.int x23], M20)
        rcases Int.decEq x23.toInt (0 : Int) with h27 | h27
        · skip
          refine w_ieq_f dX5_readSum_58 (t := 66) rfl (by omega) ?_
          refine w_bi dX5_readSum_61 (c := (-9)) (by decide) ?_
          refine w_gt dX5_readSum_63 (t := 95) rfl ?_
          exact ih95 M20 v52_2 v52_3 u52_4 v52_5 (-9) hJ26 (zbot _) (by omega) (by omega) (by omega) (by omega) (by omega) (by have := zt_m9; omega) (by have := zt_m9; omega) (by have := zt_8; have := zt_m9; omega)
        · skip
          refine w_ieq_t dX5_readSum_58 (t := 66) rfl (by omega) ?_
          refine w_lo dX5_readSum_66 rfl rfl rfl rfl ?_
          refine w_bi dX5_readSum_67 (c := 47) (by decide) ?_
          refine w_iv dX5_readSum_69 rfl rfl (As := [.int 47]) rfl rfl hJ26.1.1 zs_2 (Nat.le_of_ble_eq_true rfl) ?_
          refine ZV.imp (k_1299 47 (by have := zt_47; omega) (by have := zt_47; omega) hN hJ26.1) ?_
          rintro _ ⟨x31, M28, rfl, h32, h33, hJ29, hq30⟩
          have hJ34 := zJ_trans hJ26 hJ29 zSub_nil
          show ZW _ _ _ _ _ _ _ (72, [some (.ref 2), some (.int 8), some (.int v52_2), some (.int v52_3), some (.int u52_4), some (.int v52_5)], [.int x31], M28)
          rcases Int.decEq x31.toInt (0 : Int) with h35 | h35
          · skip
            refine w_ieq_f dX5_readSum_72 (t := 80) rfl (by omega) ?_
            refine w_bi dX5_readSum_75 (c := (-10)) (by decide) ?_
            refine w_gt dX5_readSum_77 (t := 95) rfl ?_
            exact ih95 M28 v52_2 v52_3 u52_4 v52_5 (-10) hJ34 (zbot _) (by omega) (by omega) (by omega) (by omega) (by omega) (by have := zt_m10; omega) (by have := zt_m10; omega) (by have := zt_8; have := zt_m10; omega)
          · skip
            refine w_ieq_t dX5_readSum_72 (t := 80) rfl (by omega) ?_
            refine w_lo dX5_readSum_80 rfl rfl rfl rfl ?_
            refine w_bi dX5_readSum_81 (c := 37) (by decide) ?_
            refine w_iv dX5_readSum_83 rfl rfl (As := [.int 37]) rfl rfl hJ34.1.1 zs_2 (Nat.le_of_ble_eq_true rfl) ?_
            refine ZV.imp (k_1299 37 (by have := zt_37; omega) (by have := zt_37; omega) hN hJ34.1) ?_
            rintro _ ⟨x39, M36, rfl, h40, h41, hJ37, hq38⟩
            have hJ42 := zJ_trans hJ34 hJ37 zSub_nil
            show ZW _ _ _ _ _ _ _ (86, [some (.ref 2), some (.int 8), some (.int v52_2), some (.int v52_3), some (.int u52_4), some (.int v52_5)], [.int x39], M36)
            rcases Int.decEq x39.toInt (0 : Int) with h43 | h43
            · skip
              refine w_ieq_f dX5_readSum_86 (t := 94) rfl (by omega) ?_
              refine w_bi dX5_readSum_89 (c := (-11)) (by decide) ?_
              refine w_gt dX5_readSum_91 (t := 95) rfl ?_
              exact ih95 M36 v52_2 v52_3 u52_4 v52_5 (-11) hJ42 (zbot _) (by omega) (by omega) (by omega) (by omega) (by omega) (by have := zt_m11; omega) (by have := zt_m11; omega) (by have := zt_8; have := zt_m11; omega)
            · skip
              refine w_ieq_t dX5_readSum_86 (t := 94) rfl (by omega) ?_
              refine w_ic dX5_readSum_94 zi_0 ?_
              exact ih95 M36 v52_2 v52_3 u52_4 v52_5 0 hJ42 (zbot _) (by omega) (by omega) (by omega) (by omega) (by omega) (by have := zt_0; omega) (by have := zt_0; omega) (by have := zt_8; have := zt_0; omega)
      · intro M v95_2 v95_3 u95_4 v95_5 s95_0 hJ v95_20 v95_21 v95_30 v95_31 v95_50 v95_51 s95_00 s95_01 hn
        refine w_lo (ml' := [some (.ref 2), some (.int 8), some (.int v95_2), some (.int v95_3), some (.int s95_0), some (.int v95_5)]) dX5_readSum_95 rfl rfl rfl rfl ?_
        refine w_lo dX5_readSum_97 rfl rfl rfl rfl ?_
        rcases Int.decEq s95_0.toInt (0 : Int) with h44 | h44
        · skip
          refine w_ine_t dX5_readSum_99 (t := 105) rfl (by omega) ?_
          refine w_lo dX5_readSum_105 rfl rfl rfl rfl ?_
          refine w_iv dX5_readSum_106 rfl rfl (As := []) rfl rfl hJ.1.1 zs_2 (Nat.le_of_ble_eq_true rfl) ?_
          refine ZV.imp (k_1289 hN hJ.1) ?_
          rintro _ ⟨M45, rfl, hJ46, hq47⟩
          have hJ48 := zJ_trans hJ hJ46 (zSub_cons (fun _ _ h h' hk => zIR_s (zIR_s (zIR_s (zIR_s (zIR_s (zIR_s (zIR_e (by omega) (by omega) hk))))))) zSub_nil)
          show ZW _ _ _ _ _ _ _ (109, [some (.ref 2), some (.int 8), some (.int v95_2), some (.int v95_3), some (.int s95_0), some (.int v95_5)], [], M45)
          refine w_inc (kk := 5) dX5_readSum_109 rfl (m := 1) (by decide) (by omega) ?_
          intro x49 h50
          refine ⟨_, rfl, ?_⟩
          show ZW _ _ _ _ _ _ _ (112, [some (.ref 2), some (.int 8), some (.int v95_2), some (.int v95_3), some (.int s95_0), some (.int x49)], [], M45)
          refine w_gt dX5_readSum_112 (t := 17) rfl ?_
          exact ih17 M45 v95_2 v95_3 s95_0 x49 hJ48 (zbot _) (by omega) (by omega) (by omega) (by omega) (by omega) (by omega) (by omega) (by have := zt_8; omega)
        · skip
          refine w_ine_f dX5_readSum_99 (t := 105) rfl (by omega) ?_
          refine w_gt dX5_readSum_102 (t := 115) rfl ?_
          exact ih115 M v95_2 v95_3 s95_0 v95_5 hJ (zbot _) (by omega) (by omega) (by omega) (by have := zt_8; omega)
      · intro M v115_2 v115_3 u115_4 u115_5 hJ v115_20 v115_21 v115_30 v115_31 hn
        refine w_lo dX5_readSum_115 rfl rfl rfl rfl ?_
        rcases Int.decEq v115_2.toInt (0 : Int) with h51 | h51
        · skip
          refine w_ieq_f dX5_readSum_116 (t := 130) rfl (by omega) ?_
          refine w_lo dX5_readSum_119 rfl rfl rfl rfl ?_
          obtain ⟨b52, f53, h54⟩ := zd_2_8 hJ.1
          have h55 := zDm_b h54
          refine w_gf dX5_readSum_120 rfl hJ.1.1 zs_2 f53 ?_
          refine w_gf dX5_readSum_123 rfl hJ.1.1 (zs_1_0 h54) (zr_1_0_15 h54 hJ.1) ?_
          refine w_lo dX5_readSum_126 rfl rfl rfl rfl ?_
          refine w_iv dX5_readSum_127 rfl rfl (As := [.int v115_2]) rfl rfl hJ.1.1 (zs_1_13 h54) (Nat.le_of_ble_eq_true rfl) ?_
          refine ZV.imp (k_515 (b52 + 13) (zLw_of h54) v115_2 hN hJ.1) ?_
          rintro _ ⟨M56, rfl, hJ57, hq58⟩
          have hJ59 := zJ_trans hJ hJ57 (zSub_cons (fun _ _ h h' hk => ((zDm_or h54).elim (fun e => zIR_s (zIR_s (zIR_e (by omega) (by omega) hk))) (fun e => zIR_s (zIR_s (zIR_s (zIR_e (by omega) (by omega) hk)))))) (zSub_cons (fun _ _ h h' hk => ((zDm_or h54).elim (fun e => zIR_s (zIR_s (zIR_s (zIR_s (zIR_a (by omega) (by omega)))))) (fun e => zIR_s (zIR_s (zIR_s (zIR_s (zIR_s (zIR_a (by omega) (by omega))))))))) zSub_nil))
          show ZW _ _ _ _ _ _ _ (130, [some (.ref 2), some (.int 8), some (.int v115_2), some (.int v115_3), some (.int u115_4), some (.int u115_5)], [], M56)
          exact ih130 M56 v115_2 v115_3 u115_4 u115_5 hJ59 (by omega) (by omega) (by have := zt_8; omega)
        · skip
          refine w_ieq_t dX5_readSum_116 (t := 130) rfl (by omega) ?_
          exact ih130 M v115_2 v115_3 u115_4 u115_5 hJ (by omega) (by omega) (by have := zt_8; omega)
      · intro M u130_2 v130_3 u130_4 u130_5 hJ v130_30 v130_31 hn
        refine w_lo dX5_readSum_130 rfl rfl rfl rfl ?_
        refine w_bi dX5_readSum_131 (c := 43) (by decide) ?_
        refine w_iv dX5_readSum_133 rfl rfl (As := [.int 43]) rfl rfl hJ.1.1 zs_2 (Nat.le_of_ble_eq_true rfl) ?_
        refine ZV.imp (k_1299 43 (by have := zt_43; omega) (by have := zt_43; omega) hN hJ.1) ?_
        rintro _ ⟨x63, M60, rfl, h64, h65, hJ61, hq62⟩
        have hJ66 := zJ_trans hJ hJ61 zSub_nil
        show ZW _ _ _ _ _ _ _ (136, [some (.ref 2), some (.int 8), some (.int u130_2), some (.int v130_3), some (.int u130_4), some (.int u130_5)], [.int x63], M60)
        rcases Int.decEq x63.toInt (0 : Int) with h67 | h67
        · skip
          refine w_ieq_f dX5_readSum_136 (t := 144) rfl (by omega) ?_
          refine w_bi dX5_readSum_139 (c := (-12)) (by decide) ?_
          refine w_gt dX5_readSum_141 (t := 159) rfl ?_
          refine w_lo (ml' := [some (.ref 2), some (.int 8), some (.int (-12)), some (.int v130_3), some (.int u130_4), some (.int u130_5)]) dX5_readSum_159 rfl rfl rfl rfl ?_
          refine w_lo dX5_readSum_160 rfl rfl rfl rfl ?_
          refine w_ine_t dX5_readSum_161 (t := 167) rfl (by have := zt_m12; omega) ?_
          refine w_lo dX5_readSum_167 rfl rfl rfl rfl ?_
          refine w_iv dX5_readSum_168 rfl rfl (As := []) rfl rfl hJ66.1.1 zs_2 (Nat.le_of_ble_eq_true rfl) ?_
          refine ZV.imp (k_1289 hN hJ66.1) ?_
          rintro _ ⟨M68, rfl, hJ69, hq70⟩
          have hJ71 := zJ_trans hJ66 hJ69 (zSub_cons (fun _ _ h h' hk => zIR_s (zIR_s (zIR_s (zIR_s (zIR_s (zIR_s (zIR_e (by omega) (by omega) hk))))))) zSub_nil)
          show ZW _ _ _ _ _ _ _ (171, [some (.ref 2), some (.int 8), some (.int (-12)), some (.int v130_3), some (.int u130_4), some (.int u130_5)], [], M68)
          refine w_inc (kk := 3) dX5_readSum_171 rfl (m := 1) (by decide) (by omega) ?_
          intro x72 h73
          refine ⟨_, rfl, ?_⟩
          show ZW _ _ _ _ _ _ _ (174, [some (.ref 2), some (.int 8), some (.int (-12)), some (.int x72), some (.int u130_4), some (.int u130_5)], [], M68)
          refine w_gt dX5_readSum_174 (t := 4) rfl ?_
          exact ih4 M68 (-12) x72 (some (.int u130_4)) (some (.int u130_5)) hJ71 (by have := zt_m12; omega) (by have := zt_m12; omega) (by omega) (by omega) (by have := zt_8; have := zt_m12; omega)
        · skip
          refine w_ieq_t dX5_readSum_136 (t := 144) rfl (by omega) ?_
          refine w_lo dX5_readSum_144 rfl rfl rfl rfl ?_
          refine w_bi dX5_readSum_145 (c := 45) (by decide) ?_
          refine w_iv dX5_readSum_147 rfl rfl (As := [.int 45]) rfl rfl hJ66.1.1 zs_2 (Nat.le_of_ble_eq_true rfl) ?_
          refine ZV.imp (k_1299 45 (by have := zt_45; omega) (by have := zt_45; omega) hN hJ66.1) ?_
          rintro _ ⟨x77, M74, rfl, h78, h79, hJ75, hq76⟩
          have hJ80 := zJ_trans hJ66 hJ75 zSub_nil
          show ZW _ _ _ _ _ _ _ (150, [some (.ref 2), some (.int 8), some (.int u130_2), some (.int v130_3), some (.int u130_4), some (.int u130_5)], [.int x77], M74)
          rcases Int.decEq x77.toInt (0 : Int) with h81 | h81
          · skip
            refine w_ieq_f dX5_readSum_150 (t := 158) rfl (by omega) ?_
            refine w_bi dX5_readSum_153 (c := (-13)) (by decide) ?_
            refine w_gt dX5_readSum_155 (t := 159) rfl ?_
            refine w_lo (ml' := [some (.ref 2), some (.int 8), some (.int (-13)), some (.int v130_3), some (.int u130_4), some (.int u130_5)]) dX5_readSum_159 rfl rfl rfl rfl ?_
            refine w_lo dX5_readSum_160 rfl rfl rfl rfl ?_
            refine w_ine_t dX5_readSum_161 (t := 167) rfl (by have := zt_m13; omega) ?_
            refine w_lo dX5_readSum_167 rfl rfl rfl rfl ?_
            refine w_iv dX5_readSum_168 rfl rfl (As := []) rfl rfl hJ80.1.1 zs_2 (Nat.le_of_ble_eq_true rfl) ?_
            refine ZV.imp (k_1289 hN hJ80.1) ?_
            rintro _ ⟨M82, rfl, hJ83, hq84⟩
            have hJ85 := zJ_trans hJ80 hJ83 (zSub_cons (fun _ _ h h' hk => zIR_s (zIR_s (zIR_s (zIR_s (zIR_s (zIR_s (zIR_e (by omega) (by omega) hk))))))) zSub_nil)
            show ZW _ _ _ _ _ _ _ (171, [some (.ref 2), some (.int 8), some (.int (-13)), some (.int v130_3), some (.int u130_4), some (.int u130_5)], [], M82)
            refine w_inc (kk := 3) dX5_readSum_171 rfl (m := 1) (by decide) (by omega) ?_
            intro x86 h87
            refine ⟨_, rfl, ?_⟩
            show ZW _ _ _ _ _ _ _ (174, [some (.ref 2), some (.int 8), some (.int (-13)), some (.int x86), some (.int u130_4), some (.int u130_5)], [], M82)
            refine w_gt dX5_readSum_174 (t := 4) rfl ?_
            exact ih4 M82 (-13) x86 (some (.int u130_4)) (some (.int u130_5)) hJ85 (by have := zt_m13; omega) (by have := zt_m13; omega) (by omega) (by omega) (by have := zt_8; have := zt_m13; omega)
          · skip
            refine w_ieq_t dX5_readSum_150 (t := 158) rfl (by omega) ?_
            refine w_ic dX5_readSum_158 zi_0 ?_
            refine w_lo (ml' := [some (.ref 2), some (.int 8), some (.int 0), some (.int v130_3), some (.int u130_4), some (.int u130_5)]) dX5_readSum_159 rfl rfl rfl rfl ?_
            refine w_lo dX5_readSum_160 rfl rfl rfl rfl ?_
            refine w_ine_f dX5_readSum_161 (t := 167) rfl (by have := zt_0; omega) ?_
            refine w_gt dX5_readSum_164 (t := 177) rfl ?_
            refine w_ic dX5_readSum_177 zi_1 ?_
            refine w_en dX5_readSum_178 rfl ?_
            exact ⟨_, _, rfl, (by have := zt_1; omega), (by have := zt_1; omega), hJ80, trivial⟩
  obtain ⟨ih4, ih17, ih52, ih95, ih115, ih130⟩ := main 20582531
  show ZW _ _ _ _ _ _ _ (0, [some (.ref 2), some (.int 8), none, none, none, none], [], M0)
  refine w_ic dX5_readSum_0 zi_0 ?_
  refine w_lo (ml' := [some (.ref 2), some (.int 8), some (.int 0), none, none, none]) dX5_readSum_1 rfl rfl rfl rfl ?_
  refine w_ic dX5_readSum_2 zi_0 ?_
  refine w_lo (ml' := [some (.ref 2), some (.int 8), some (.int 0), some (.int 0), none, none]) dX5_readSum_3 rfl rfl rfl rfl ?_
  exact ih4 M0 0 0 none none hJ0 (by have := zt_0; omega) (by have := zt_0; omega) (by have := zt_0; omega) (by have := zt_0; omega) (by have := zt_8; have := zt_0; omega)
set_option maxRecDepth 100000 in
theorem k_1298_c7 {X : List Int32} {d N : Nat} {M0 : zM}  (hN : N ≤ 600) (hB0 : zB N M0) : ZV X (d + 4) 1298 [.ref 2, .int 7] M0 (zRI N [(2, 3, 0), (2, 3, 1), (20, 21, 1), (41, 42, 1), (21, 22, 1000), (42, 43, 1000), (2, 3, 7)] M0 (0) (1) (fun _ _ => True)) := by
  have hJ0 : zJ N [(2, 3, 0), (2, 3, 1), (20, 21, 1), (41, 42, 1), (21, 22, 1000), (42, 43, 1000), (2, 3, 7)] M0 M0 := zJ_refl hB0
  refine ZV.of (ini := false) rfl (Nat.le_of_ble_eq_true rfl) (by decide +kernel) ?_
  have main : ∀ n : Nat,
      (∀ (M : zM) (v73_2 : Int32) (o73_3 : Option Value), zJ N [(2, 3, 0), (2, 3, 1), (20, 21, 1), (41, 42, 1), (21, 22, 1000), (42, 43, 1000), (2, 3, 7)] M0 M → ((-1 : Int) ≤ v73_2.toInt) → (v73_2.toInt ≤ 26) → 3 < (n : Int) → ZW X (d + 3) 5 false (some .boolean) cX5_readPart (zRI N [(2, 3, 0), (2, 3, 1), (20, 21, 1), (41, 42, 1), (21, 22, 1000), (42, 43, 1000), (2, 3, 7)] M0 (0) (1) (fun _ _ => True)) (73, [some (.ref 2), some (.int 7), some (.int v73_2), o73_3], [], M)) ∧
      (∀ (M : zM) (v85_2 : Int32) (o85_3 : Option Value), zJ N [(2, 3, 0), (2, 3, 1), (20, 21, 1), (41, 42, 1), (21, 22, 1000), (42, 43, 1000), (2, 3, 7)] M0 M → ((25 : Int) ≤ v85_2.toInt) → (v85_2.toInt ≤ 26) → 2 < (n : Int) → ZW X (d + 3) 5 false (some .boolean) cX5_readPart (zRI N [(2, 3, 0), (2, 3, 1), (20, 21, 1), (41, 42, 1), (21, 22, 1000), (42, 43, 1000), (2, 3, 7)] M0 (0) (1) (fun _ _ => True)) (85, [some (.ref 2), some (.int 7), some (.int v85_2), o85_3], [], M)) ∧
      (∀ (M : zM) (v99_2 : Int32) (v99_3 : Int32), zJ N [(2, 3, 0), (2, 3, 1), (20, 21, 1), (41, 42, 1), (21, 22, 1000), (42, 43, 1000), (2, 3, 7)] M0 M → ((-1 : Int) ≤ v99_2.toInt) → (v99_2.toInt ≤ 26) → ((0 : Int) ≤ v99_3.toInt) → (v99_3.toInt ≤ 1) → 1 < (n : Int) → ZW X (d + 3) 5 false (some .boolean) cX5_readPart (zRI N [(2, 3, 0), (2, 3, 1), (20, 21, 1), (41, 42, 1), (21, 22, 1000), (42, 43, 1000), (2, 3, 7)] M0 (0) (1) (fun _ _ => True)) (99, [some (.ref 2), some (.int 7), some (.int v99_2), some (.int v99_3)], [], M)) := by
    intro n
    induction n with
    | zero =>
      exact ⟨(fun M v73_2 o73_3 hJ v73_20 v73_21 hn => absurd hn (by omega)), (fun M v85_2 o85_3 hJ v85_20 v85_21 hn => absurd hn (by omega)), (fun M v99_2 v99_3 hJ v99_20 v99_21 v99_30 v99_31 hn => absurd hn (by omega))⟩
    | succ n ih =>
      obtain ⟨ih73, ih85, ih99⟩ := ih
      refine ⟨?_, ?_, ?_⟩
      · intro M v73_2 o73_3 hJ v73_20 v73_21 hn
        refine w_lo dX5_readPart_73 rfl rfl rfl rfl ?_
        refine w_bi dX5_readPart_74 (c := 25) (by decide) ?_
        rcases Int.decEq v73_2.toInt (25 : Int) with h1 | h1
        · skip
          refine w_ceq_f dX5_readPart_76 (t := 85) rfl (by have := zt_25; omega) ?_
          refine w_lo dX5_readPart_79 rfl rfl rfl rfl ?_
          refine w_bi dX5_readPart_80 (c := 26) (by decide) ?_
          rcases Int.decEq v73_2.toInt (26 : Int) with h2 | h2
          · skip
            refine w_cne_t dX5_readPart_82 (t := 89) rfl (by have := zt_26; omega) ?_
            refine w_ic dX5_readPart_89 zi_0 ?_
            refine w_lo (ml' := [some (.ref 2), some (.int 7), some (.int v73_2), some (.int 0)]) dX5_readPart_90 rfl rfl rfl rfl ?_
            refine w_lo dX5_readPart_91 rfl rfl rfl rfl ?_
            refine w_ieq_t dX5_readPart_92 (t := 99) rfl (by have := zt_0; omega) ?_
            exact ih99 M v73_2 0 hJ (by omega) (by omega) (by have := zt_0; omega) (by have := zt_0; omega) (by have := zt_7; have := zt_0; omega)
          · skip
            refine w_cne_f dX5_readPart_82 (t := 89) rfl (by have := zt_26; omega) ?_
            exact ih85 M v73_2 o73_3 hJ (by omega) (by omega) (by have := zt_7; omega)
        · skip
          refine w_ceq_t dX5_readPart_76 (t := 85) rfl (by have := zt_25; omega) ?_
          exact ih85 M v73_2 o73_3 hJ (by omega) (by omega) (by have := zt_7; omega)
      · intro M v85_2 o85_3 hJ v85_20 v85_21 hn
        refine w_ic dX5_readPart_85 zi_1 ?_
        refine w_gt dX5_readPart_86 (t := 90) rfl ?_
        refine w_lo (ml' := [some (.ref 2), some (.int 7), some (.int v85_2), some (.int 1)]) dX5_readPart_90 rfl rfl rfl rfl ?_
        refine w_lo dX5_readPart_91 rfl rfl rfl rfl ?_
        refine w_ieq_f dX5_readPart_92 (t := 99) rfl (by have := zt_1; omega) ?_
        refine w_lo dX5_readPart_95 rfl rfl rfl rfl ?_
        refine w_iv dX5_readPart_96 rfl rfl (As := []) rfl rfl hJ.1.1 zs_2 (Nat.le_of_ble_eq_true rfl) ?_
        refine ZV.imp (k_1289 hN hJ.1) ?_
        rintro _ ⟨M3, rfl, hJ4, hq5⟩
        have hJ6 := zJ_trans hJ hJ4 (zSub_cons (fun _ _ h h' hk => zIR_s (zIR_s (zIR_s (zIR_s (zIR_s (zIR_s (zIR_e (by omega) (by omega) hk))))))) zSub_nil)
        show ZW _ _ _ _ _ _ _ (99, [some (.ref 2), some (.int 7), some (.int v85_2), some (.int 1)], [], M3)
        exact ih99 M3 v85_2 1 hJ6 (by omega) (by omega) (by have := zt_1; omega) (by have := zt_1; omega) (by have := zt_7; have := zt_1; omega)
      · intro M v99_2 v99_3 hJ v99_20 v99_21 v99_30 v99_31 hn
        refine w_lo dX5_readPart_99 rfl rfl rfl rfl ?_
        refine w_bi dX5_readPart_100 (c := 40) (by decide) ?_
        refine w_iv dX5_readPart_102 rfl rfl (As := [.int 40]) rfl rfl hJ.1.1 zs_2 (Nat.le_of_ble_eq_true rfl) ?_
        refine ZV.imp (k_1299 40 (by have := zt_40; omega) (by have := zt_40; omega) hN hJ.1) ?_
        rintro _ ⟨x10, M7, rfl, h11, h12, hJ8, hq9⟩
        have hJ13 := zJ_trans hJ hJ8 zSub_nil
        show ZW _ _ _ _ _ _ _ (105, [some (.ref 2), some (.int 7), some (.int v99_2), some (.int v99_3)], [.int x10], M7)
        rcases Int.decEq x10.toInt (0 : Int) with h14 | h14
        · skip
          refine w_ine_t dX5_readPart_105 (t := 114) rfl (by omega) ?_
          refine w_lo dX5_readPart_114 rfl rfl rfl rfl ?_
          refine w_bi dX5_readPart_115 (c := 8) (by decide) ?_
          refine w_clt_t dX5_readPart_117 (t := 126) rfl (by have := zt_7; have := zt_8; omega) ?_
          refine w_lo dX5_readPart_126 rfl rfl rfl rfl ?_
          refine w_iv dX5_readPart_127 rfl rfl (As := []) rfl rfl hJ13.1.1 zs_2 (Nat.le_of_ble_eq_true rfl) ?_
          refine ZV.imp (k_1289 hN hJ13.1) ?_
          rintro _ ⟨M15, rfl, hJ16, hq17⟩
          have hJ18 := zJ_trans hJ13 hJ16 (zSub_cons (fun _ _ h h' hk => zIR_s (zIR_s (zIR_s (zIR_s (zIR_s (zIR_s (zIR_e (by omega) (by omega) hk))))))) zSub_nil)
          show ZW _ _ _ _ _ _ _ (130, [some (.ref 2), some (.int 7), some (.int v99_2), some (.int v99_3)], [], M15)
          refine w_lo dX5_readPart_130 rfl rfl rfl rfl ?_
          refine w_lo dX5_readPart_131 rfl rfl rfl rfl ?_
          refine w_ic dX5_readPart_132 zi_1 ?_
          refine w_pu (st' := [.int 8, .ref 2]) dX5_readPart_133 rfl rfl ?_
          refine w_iv dX5_readPart_134 rfl rfl (As := [.int 8]) rfl rfl hJ18.1.1 zs_2 (Nat.le_of_ble_eq_true rfl) ?_
          refine ZV.imp (k_1297_c8 hN hJ18.1) ?_
          rintro _ ⟨x22, M19, rfl, h23, h24, hJ20, hq21⟩
          have hJ25 := zJ_trans hJ18 hJ20 (zSub_cons (fun _ _ h h' hk => zIR_e (by omega) (by omega) hk) (zSub_cons (fun _ _ h h' hk => zIR_s (zIR_e (by omega) (by omega) hk)) (zSub_cons (fun _ _ h h' hk => zIR_s (zIR_s (zIR_e (by omega) (by omega) hk))) (zSub_cons (fun _ _ h h' hk => zIR_s (zIR_s (zIR_s (zIR_e (by omega) (by omega) hk)))) (zSub_cons (fun _ _ h h' hk => zIR_s (zIR_s (zIR_s (zIR_s (zIR_a (by omega) (by omega)))))) (zSub_cons (fun _ _ h h' hk => zIR_s (zIR_s (zIR_s (zIR_s (zIR_s (zIR_a (by omega) (by omega))))))) (zSub_cons (fun _ _ h h' hk => zIR_s (zIR_s (zIR_s (zIR_s (zIR_s (zIR_s (zIR_e (by omega) (by omega) hk))))))) zSub_nil)))))))
          show ZW _ _ _ _ _ _ _ (137, [some (.ref 2), some (.int 7), some (.int v99_2), some (.int v99_3)], [.int x22], M19)
          rcases Int.decEq x22.toInt (0 : Int) with h26 | h26
          · skip
            refine w_ine_t dX5_readPart_137 (t := 142) rfl (by omega) ?_
            refine w_lo dX5_readPart_142 rfl rfl rfl rfl ?_
            rcases Int.decEq v99_3.toInt (0 : Int) with h27 | h27
            · skip
              refine w_ieq_f dX5_readPart_143 (t := 200) rfl (by omega) ?_
              refine w_lo dX5_readPart_146 rfl rfl rfl rfl ?_
              refine w_bi dX5_readPart_147 (c := 44) (by decide) ?_
              refine w_iv dX5_readPart_149 rfl rfl (As := [.int 44]) rfl rfl hJ25.1.1 zs_2 (Nat.le_of_ble_eq_true rfl) ?_
              refine ZV.imp (k_1299 44 (by have := zt_44; omega) (by have := zt_44; omega) hN hJ25.1) ?_
              rintro _ ⟨x31, M28, rfl, h32, h33, hJ29, hq30⟩
              have hJ34 := zJ_trans hJ25 hJ29 zSub_nil
              show ZW _ _ _ _ _ _ _ (152, [some (.ref 2), some (.int 7), some (.int v99_2), some (.int v99_3)], [.int x31], M28)
              rcases Int.decEq x31.toInt (0 : Int) with h35 | h35
              · skip
                refine w_ine_t dX5_readPart_152 (t := 161) rfl (by omega) ?_
                refine w_lo dX5_readPart_161 rfl rfl rfl rfl ?_
                refine w_iv dX5_readPart_162 rfl rfl (As := []) rfl rfl hJ34.1.1 zs_2 (Nat.le_of_ble_eq_true rfl) ?_
                refine ZV.imp (k_1289 hN hJ34.1) ?_
                rintro _ ⟨M36, rfl, hJ37, hq38⟩
                have hJ39 := zJ_trans hJ34 hJ37 (zSub_cons (fun _ _ h h' hk => zIR_s (zIR_s (zIR_s (zIR_s (zIR_s (zIR_s (zIR_e (by omega) (by omega) hk))))))) zSub_nil)
                show ZW _ _ _ _ _ _ _ (165, [some (.ref 2), some (.int 7), some (.int v99_2), some (.int v99_3)], [], M36)
                refine w_lo dX5_readPart_165 rfl rfl rfl rfl ?_
                refine w_lo dX5_readPart_166 rfl rfl rfl rfl ?_
                refine w_ic dX5_readPart_167 zi_1 ?_
                refine w_pu (st' := [.int 8, .ref 2]) dX5_readPart_168 rfl rfl ?_
                refine w_iv dX5_readPart_169 rfl rfl (As := [.int 8]) rfl rfl hJ39.1.1 zs_2 (Nat.le_of_ble_eq_true rfl) ?_
                refine ZV.imp (k_1297_c8 hN hJ39.1) ?_
                rintro _ ⟨x43, M40, rfl, h44, h45, hJ41, hq42⟩
                have hJ46 := zJ_trans hJ39 hJ41 (zSub_cons (fun _ _ h h' hk => zIR_e (by omega) (by omega) hk) (zSub_cons (fun _ _ h h' hk => zIR_s (zIR_e (by omega) (by omega) hk)) (zSub_cons (fun _ _ h h' hk => zIR_s (zIR_s (zIR_e (by omega) (by omega) hk))) (zSub_cons (fun _ _ h h' hk => zIR_s (zIR_s (zIR_s (zIR_e (by omega) (by omega) hk)))) (zSub_cons (fun _ _ h h' hk => zIR_s (zIR_s (zIR_s (zIR_s (zIR_a (by omega) (by omega)))))) (zSub_cons (fun _ _ h h' hk => zIR_s (zIR_s (zIR_s (zIR_s (zIR_s (zIR_a (by omega) (by omega))))))) (zSub_cons (fun _ _ h h' hk => zIR_s (zIR_s (zIR_s (zIR_s (zIR_s (zIR_s (zIR_e (by omega) (by omega) hk))))))) zSub_nil)))))))
                show ZW _ _ _ _ _ _ _ (172, [some (.ref 2), some (.int 7), some (.int v99_2), some (.int v99_3)], [.int x43], M40)
                rcases Int.decEq x43.toInt (0 : Int) with h47 | h47
                · skip
                  refine w_ine_t dX5_readPart_172 (t := 177) rfl (by omega) ?_
                  refine w_lo dX5_readPart_177 rfl rfl rfl rfl ?_
                  obtain ⟨b48, f49, h50⟩ := zd_2_8 hJ46.1
                  have h51 := zDm_b h50
                  refine w_gf dX5_readPart_178 rfl hJ46.1.1 zs_2 f49 ?_
                  refine w_gf dX5_readPart_181 rfl hJ46.1.1 (zs_1_0 h50) (zr_1_0_15 h50 hJ46.1) ?_
                  refine w_lo dX5_readPart_184 rfl rfl rfl rfl ?_
                  refine w_bi dX5_readPart_185 (c := 25) (by decide) ?_
                  rcases Int.decEq v99_2.toInt (25 : Int) with h52 | h52
                  · skip
                    refine w_cne_t dX5_readPart_187 (t := 195) rfl (by have := zt_25; omega) ?_
                    refine w_bi dX5_readPart_195 (c := (-20)) (by decide) ?_
                    refine w_iv dX5_readPart_197 rfl rfl (As := [.int (-20)]) rfl rfl hJ46.1.1 (zs_1_13 h50) (Nat.le_of_ble_eq_true rfl) ?_
                    refine ZV.imp (k_515 (b48 + 13) (zLw_of h50) (-20) hN hJ46.1) ?_
                    rintro _ ⟨M53, rfl, hJ54, hq55⟩
                    have hJ56 := zJ_trans hJ46 hJ54 (zSub_cons (fun _ _ h h' hk => ((zDm_or h50).elim (fun e => zIR_s (zIR_s (zIR_e (by omega) (by omega) hk))) (fun e => zIR_s (zIR_s (zIR_s (zIR_e (by omega) (by omega) hk)))))) (zSub_cons (fun _ _ h h' hk => ((zDm_or h50).elim (fun e => zIR_s (zIR_s (zIR_s (zIR_s (zIR_a (by omega) (by omega)))))) (fun e => zIR_s (zIR_s (zIR_s (zIR_s (zIR_s (zIR_a (by omega) (by omega))))))))) zSub_nil))
                    show ZW _ _ _ _ _ _ _ (200, [some (.ref 2), some (.int 7), some (.int v99_2), some (.int v99_3)], [], M53)
                    refine w_lo dX5_readPart_200 rfl rfl rfl rfl ?_
                    refine w_bi dX5_readPart_201 (c := 41) (by decide) ?_
                    refine w_iv dX5_readPart_203 rfl rfl (As := [.int 41]) rfl rfl hJ56.1.1 zs_2 (Nat.le_of_ble_eq_true rfl) ?_
                    refine ZV.imp (k_1299 41 (by have := zt_41; omega) (by have := zt_41; omega) hN hJ56.1) ?_
                    rintro _ ⟨x60, M57, rfl, h61, h62, hJ58, hq59⟩
                    have hJ63 := zJ_trans hJ56 hJ58 zSub_nil
                    show ZW _ _ _ _ _ _ _ (206, [some (.ref 2), some (.int 7), some (.int v99_2), some (.int v99_3)], [.int x60], M57)
                    rcases Int.decEq x60.toInt (0 : Int) with h64 | h64
                    · skip
                      refine w_ine_t dX5_readPart_206 (t := 215) rfl (by omega) ?_
                      refine w_lo dX5_readPart_215 rfl rfl rfl rfl ?_
                      refine w_iv dX5_readPart_216 rfl rfl (As := []) rfl rfl hJ63.1.1 zs_2 (Nat.le_of_ble_eq_true rfl) ?_
                      refine ZV.imp (k_1289 hN hJ63.1) ?_
                      rintro _ ⟨M65, rfl, hJ66, hq67⟩
                      have hJ68 := zJ_trans hJ63 hJ66 (zSub_cons (fun _ _ h h' hk => zIR_s (zIR_s (zIR_s (zIR_s (zIR_s (zIR_s (zIR_e (by omega) (by omega) hk))))))) zSub_nil)
                      show ZW _ _ _ _ _ _ _ (219, [some (.ref 2), some (.int 7), some (.int v99_2), some (.int v99_3)], [], M65)
                      refine w_ic dX5_readPart_219 zi_1 ?_
                      refine w_en dX5_readPart_220 rfl ?_
                      exact ⟨_, _, rfl, (by have := zt_1; omega), (by have := zt_1; omega), hJ68, trivial⟩
                    · skip
                      refine w_ine_f dX5_readPart_206 (t := 215) rfl (by omega) ?_
                      refine w_lo dX5_readPart_209 rfl rfl rfl rfl ?_
                      refine w_ic dX5_readPart_210 zi_1 ?_
                      refine w_iv dX5_readPart_211 rfl rfl (As := [.int 1]) rfl rfl hJ63.1.1 zs_2 (Nat.le_of_ble_eq_true rfl) ?_
                      refine ZV.imp (k_1286 1 (by have := zt_1; omega) (by have := zt_1; omega) hN hJ63.1) ?_
                      rintro _ ⟨x72, M69, rfl, h73, h74, hJ70, hq71⟩
                      have hJ75 := zJ_trans hJ63 hJ70 (zSub_cons (fun _ _ h h' hk => zIR_e (by omega) (by omega) hk) (zSub_cons (fun _ _ h h' hk => zIR_s (zIR_e (by omega) (by omega) hk)) zSub_nil))
                      show ZW _ _ _ _ _ _ _ (214, [some (.ref 2), some (.int 7), some (.int v99_2), some (.int v99_3)], [.int x72], M69)
                      refine w_eni dX5_readPart_214 rfl (znb (by omega) (by omega)) ?_
                      exact ⟨_, _, rfl, (by omega), (by omega), hJ75, trivial⟩
                  · skip
                    refine w_cne_f dX5_readPart_187 (t := 195) rfl (by have := zt_25; omega) ?_
                    refine w_bi dX5_readPart_190 (c := (-19)) (by decide) ?_
                    refine w_gt dX5_readPart_192 (t := 197) rfl ?_
                    refine w_iv dX5_readPart_197 rfl rfl (As := [.int (-19)]) rfl rfl hJ46.1.1 (zs_1_13 h50) (Nat.le_of_ble_eq_true rfl) ?_
                    refine ZV.imp (k_515 (b48 + 13) (zLw_of h50) (-19) hN hJ46.1) ?_
                    rintro _ ⟨M76, rfl, hJ77, hq78⟩
                    have hJ79 := zJ_trans hJ46 hJ77 (zSub_cons (fun _ _ h h' hk => ((zDm_or h50).elim (fun e => zIR_s (zIR_s (zIR_e (by omega) (by omega) hk))) (fun e => zIR_s (zIR_s (zIR_s (zIR_e (by omega) (by omega) hk)))))) (zSub_cons (fun _ _ h h' hk => ((zDm_or h50).elim (fun e => zIR_s (zIR_s (zIR_s (zIR_s (zIR_a (by omega) (by omega)))))) (fun e => zIR_s (zIR_s (zIR_s (zIR_s (zIR_s (zIR_a (by omega) (by omega))))))))) zSub_nil))
                    show ZW _ _ _ _ _ _ _ (200, [some (.ref 2), some (.int 7), some (.int v99_2), some (.int v99_3)], [], M76)
                    refine w_lo dX5_readPart_200 rfl rfl rfl rfl ?_
                    refine w_bi dX5_readPart_201 (c := 41) (by decide) ?_
                    refine w_iv dX5_readPart_203 rfl rfl (As := [.int 41]) rfl rfl hJ79.1.1 zs_2 (Nat.le_of_ble_eq_true rfl) ?_
                    refine ZV.imp (k_1299 41 (by have := zt_41; omega) (by have := zt_41; omega) hN hJ79.1) ?_
                    rintro _ ⟨x83, M80, rfl, h84, h85, hJ81, hq82⟩
                    have hJ86 := zJ_trans hJ79 hJ81 zSub_nil
                    show ZW _ _ _ _ _ _ _ (206, [some (.ref 2), some (.int 7), some (.int v99_2), some (.int v99_3)], [.int x83], M80)
                    rcases Int.decEq x83.toInt (0 : Int) with h87 | h87
                    · skip
                      refine w_ine_t dX5_readPart_206 (t := 215) rfl (by omega) ?_
                      refine w_lo dX5_readPart_215 rfl rfl rfl rfl ?_
                      refine w_iv dX5_readPart_216 rfl rfl (As := []) rfl rfl hJ86.1.1 zs_2 (Nat.le_of_ble_eq_true rfl) ?_
                      refine ZV.imp (k_1289 hN hJ86.1) ?_
                      rintro _ ⟨M88, rfl, hJ89, hq90⟩
                      have hJ91 := zJ_trans hJ86 hJ89 (zSub_cons (fun _ _ h h' hk => zIR_s (zIR_s (zIR_s (zIR_s (zIR_s (zIR_s (zIR_e (by omega) (by omega) hk))))))) zSub_nil)
                      show ZW _ _ _ _ _ _ _ (219, [some (.ref 2), some (.int 7), some (.int v99_2), some (.int v99_3)], [], M88)
                      refine w_ic dX5_readPart_219 zi_1 ?_
                      refine w_en dX5_readPart_220 rfl ?_
                      exact ⟨_, _, rfl, (by have := zt_1; omega), (by have := zt_1; omega), hJ91, trivial⟩
                    · skip
                      refine w_ine_f dX5_readPart_206 (t := 215) rfl (by omega) ?_
                      refine w_lo dX5_readPart_209 rfl rfl rfl rfl ?_
                      refine w_ic dX5_readPart_210 zi_1 ?_
                      refine w_iv dX5_readPart_211 rfl rfl (As := [.int 1]) rfl rfl hJ86.1.1 zs_2 (Nat.le_of_ble_eq_true rfl) ?_
                      refine ZV.imp (k_1286 1 (by have := zt_1; omega) (by have := zt_1; omega) hN hJ86.1) ?_
                      rintro _ ⟨x95, M92, rfl, h96, h97, hJ93, hq94⟩
                      have hJ98 := zJ_trans hJ86 hJ93 (zSub_cons (fun _ _ h h' hk => zIR_e (by omega) (by omega) hk) (zSub_cons (fun _ _ h h' hk => zIR_s (zIR_e (by omega) (by omega) hk)) zSub_nil))
                      show ZW _ _ _ _ _ _ _ (214, [some (.ref 2), some (.int 7), some (.int v99_2), some (.int v99_3)], [.int x95], M92)
                      refine w_eni dX5_readPart_214 rfl (znb (by omega) (by omega)) ?_
                      exact ⟨_, _, rfl, (by omega), (by omega), hJ98, trivial⟩
                · skip
                  refine w_ine_f dX5_readPart_172 (t := 177) rfl (by omega) ?_
                  refine w_ic dX5_readPart_175 zi_0 ?_
                  refine w_en dX5_readPart_176 rfl ?_
                  exact ⟨_, _, rfl, (by have := zt_0; omega), (by have := zt_0; omega), hJ46, trivial⟩
              · skip
                refine w_ine_f dX5_readPart_152 (t := 161) rfl (by omega) ?_
                refine w_lo dX5_readPart_155 rfl rfl rfl rfl ?_
                refine w_ic dX5_readPart_156 zi_1 ?_
                refine w_iv dX5_readPart_157 rfl rfl (As := [.int 1]) rfl rfl hJ34.1.1 zs_2 (Nat.le_of_ble_eq_true rfl) ?_
                refine ZV.imp (k_1286 1 (by have := zt_1; omega) (by have := zt_1; omega) hN hJ34.1) ?_
                rintro _ ⟨x102, M99, rfl, h103, h104, hJ100, hq101⟩
                have hJ105 := zJ_trans hJ34 hJ100 (zSub_cons (fun _ _ h h' hk => zIR_e (by omega) (by omega) hk) (zSub_cons (fun _ _ h h' hk => zIR_s (zIR_e (by omega) (by omega) hk)) zSub_nil))
                show ZW _ _ _ _ _ _ _ (160, [some (.ref 2), some (.int 7), some (.int v99_2), some (.int v99_3)], [.int x102], M99)
                refine w_eni dX5_readPart_160 rfl (znb (by omega) (by omega)) ?_
                exact ⟨_, _, rfl, (by omega), (by omega), hJ105, trivial⟩
            · skip
              refine w_ieq_t dX5_readPart_143 (t := 200) rfl (by omega) ?_
              refine w_lo dX5_readPart_200 rfl rfl rfl rfl ?_
              refine w_bi dX5_readPart_201 (c := 41) (by decide) ?_
              refine w_iv dX5_readPart_203 rfl rfl (As := [.int 41]) rfl rfl hJ25.1.1 zs_2 (Nat.le_of_ble_eq_true rfl) ?_
              refine ZV.imp (k_1299 41 (by have := zt_41; omega) (by have := zt_41; omega) hN hJ25.1) ?_
              rintro _ ⟨x109, M106, rfl, h110, h111, hJ107, hq108⟩
              have hJ112 := zJ_trans hJ25 hJ107 zSub_nil
              show ZW _ _ _ _ _ _ _ (206, [some (.ref 2), some (.int 7), some (.int v99_2), some (.int v99_3)], [.int x109], M106)
              rcases Int.decEq x109.toInt (0 : Int) with h113 | h113
              · skip
                refine w_ine_t dX5_readPart_206 (t := 215) rfl (by omega) ?_
                refine w_lo dX5_readPart_215 rfl rfl rfl rfl ?_
                refine w_iv dX5_readPart_216 rfl rfl (As := []) rfl rfl hJ112.1.1 zs_2 (Nat.le_of_ble_eq_true rfl) ?_
                refine ZV.imp (k_1289 hN hJ112.1) ?_
                rintro _ ⟨M114, rfl, hJ115, hq116⟩
                have hJ117 := zJ_trans hJ112 hJ115 (zSub_cons (fun _ _ h h' hk => zIR_s (zIR_s (zIR_s (zIR_s (zIR_s (zIR_s (zIR_e (by omega) (by omega) hk))))))) zSub_nil)
                show ZW _ _ _ _ _ _ _ (219, [some (.ref 2), some (.int 7), some (.int v99_2), some (.int v99_3)], [], M114)
                refine w_ic dX5_readPart_219 zi_1 ?_
                refine w_en dX5_readPart_220 rfl ?_
                exact ⟨_, _, rfl, (by have := zt_1; omega), (by have := zt_1; omega), hJ117, trivial⟩
              · skip
                refine w_ine_f dX5_readPart_206 (t := 215) rfl (by omega) ?_
                refine w_lo dX5_readPart_209 rfl rfl rfl rfl ?_
                refine w_ic dX5_readPart_210 zi_1 ?_
                refine w_iv dX5_readPart_211 rfl rfl (As := [.int 1]) rfl rfl hJ112.1.1 zs_2 (Nat.le_of_ble_eq_true rfl) ?_
                refine ZV.imp (k_1286 1 (by have := zt_1; omega) (by have := zt_1; omega) hN hJ112.1) ?_
                rintro _ ⟨x121, M118, rfl, h122, h123, hJ119, hq120⟩
                have hJ124 := zJ_trans hJ112 hJ119 (zSub_cons (fun _ _ h h' hk => zIR_e (by omega) (by omega) hk) (zSub_cons (fun _ _ h h' hk => zIR_s (zIR_e (by omega) (by omega) hk)) zSub_nil))
                show ZW _ _ _ _ _ _ _ (214, [some (.ref 2), some (.int 7), some (.int v99_2), some (.int v99_3)], [.int x121], M118)
                refine w_eni dX5_readPart_214 rfl (znb (by omega) (by omega)) ?_
                exact ⟨_, _, rfl, (by omega), (by omega), hJ124, trivial⟩
          · skip
            refine w_ine_f dX5_readPart_137 (t := 142) rfl (by omega) ?_
            refine w_ic dX5_readPart_140 zi_0 ?_
            refine w_en dX5_readPart_141 rfl ?_
            exact ⟨_, _, rfl, (by have := zt_0; omega), (by have := zt_0; omega), hJ25, trivial⟩
        · skip
          refine w_ine_f dX5_readPart_105 (t := 114) rfl (by omega) ?_
          refine w_lo dX5_readPart_108 rfl rfl rfl rfl ?_
          refine w_ic dX5_readPart_109 zi_1 ?_
          refine w_iv dX5_readPart_110 rfl rfl (As := [.int 1]) rfl rfl hJ13.1.1 zs_2 (Nat.le_of_ble_eq_true rfl) ?_
          refine ZV.imp (k_1286 1 (by have := zt_1; omega) (by have := zt_1; omega) hN hJ13.1) ?_
          rintro _ ⟨x128, M125, rfl, h129, h130, hJ126, hq127⟩
          have hJ131 := zJ_trans hJ13 hJ126 (zSub_cons (fun _ _ h h' hk => zIR_e (by omega) (by omega) hk) (zSub_cons (fun _ _ h h' hk => zIR_s (zIR_e (by omega) (by omega) hk)) zSub_nil))
          show ZW _ _ _ _ _ _ _ (113, [some (.ref 2), some (.int 7), some (.int v99_2), some (.int v99_3)], [.int x128], M125)
          refine w_eni dX5_readPart_113 rfl (znb (by omega) (by omega)) ?_
          exact ⟨_, _, rfl, (by omega), (by omega), hJ131, trivial⟩
  obtain ⟨ih73, ih85, ih99⟩ := main 8
  show ZW _ _ _ _ _ _ _ (0, [some (.ref 2), some (.int 7), none, none], [], M0)
  refine w_lo dX5_readPart_0 rfl rfl rfl rfl ?_
  refine w_gf dX5_readPart_1 rfl hJ0.1.1 zs_2 (zr_2_3 hJ0.1) ?_
  refine w_lo dX5_readPart_4 rfl rfl rfl rfl ?_
  refine w_gfi dX5_readPart_5 rfl hJ0.1 zs_2 (Nat.le_of_ble_eq_true rfl) zo_2_7 ?_
  intro x132 f133 h134 h135
  refine w_iai dX5_readPart_8 hJ0.1 zs_4 (by omega) (by omega) zu_4 ?_
  intro x139 f136 h137 h138
  refine w_ic dX5_readPart_9 zi_4 ?_
  rcases Int.decEq x139.toInt (4 : Int) with h140 | h140
  · skip
    refine w_cne_t dX5_readPart_10 (t := 38) rfl (by have := zt_4; omega) ?_
    refine w_lo dX5_readPart_38 rfl rfl rfl rfl ?_
    refine w_iv dX5_readPart_39 rfl rfl (As := []) rfl rfl hJ0.1.1 zs_2 (Nat.le_of_ble_eq_true rfl) ?_
    refine ZV.imp (k_1287 hN hJ0.1) ?_
    rintro _ ⟨x144, M141, rfl, h145, h146, hJ142, hq143⟩
    have hJ147 := zJ_trans hJ0 hJ142 zSub_nil
    show ZW _ _ _ _ _ _ _ (42, [some (.ref 2), some (.int 7), none, none], [.int x144], M141)
    refine w_lo (ml' := [some (.ref 2), some (.int 7), some (.int x144), none]) dX5_readPart_42 rfl rfl rfl rfl ?_
    refine w_lo dX5_readPart_43 rfl rfl rfl rfl ?_
    refine w_ic dX5_readPart_44 zi_m1 ?_
    rcases Int.decEq x144.toInt (-1 : Int) with h148 | h148
    · skip
      refine w_ceq_f dX5_readPart_45 (t := 73) rfl (by have := zt_m1; omega) ?_
      refine w_lo dX5_readPart_48 rfl rfl rfl rfl ?_
      refine w_bi dX5_readPart_49 (c := 7) (by decide) ?_
      rcases zcut x144.toInt (7 : Int) with h149 | h149
      · skip
        refine w_cge_f dX5_readPart_51 (t := 73) rfl (by have := zt_7; omega) ?_
        refine w_lo dX5_readPart_54 rfl rfl rfl rfl ?_
        obtain ⟨b150, f151, h152⟩ := zd_2_8 hJ147.1
        have h153 := zDm_b h152
        refine w_gf dX5_readPart_55 rfl hJ147.1.1 zs_2 f151 ?_
        refine w_gf dX5_readPart_58 rfl hJ147.1.1 (zs_1_0 h152) (zr_1_0_15 h152 hJ147.1) ?_
        refine w_ic dX5_readPart_61 zi_m1 ?_
        refine w_lo dX5_readPart_62 rfl rfl rfl rfl ?_
        refine w_sub dX5_readPart_63 (by have := zt_m1; omega) ?_
        intro x154 h155
        have := zt_m1
        refine w_iv dX5_readPart_64 rfl rfl (As := [.int x154]) rfl rfl hJ147.1.1 (zs_1_13 h152) (Nat.le_of_ble_eq_true rfl) ?_
        refine ZV.imp (k_515 (b150 + 13) (zLw_of h152) x154 hN hJ147.1) ?_
        rintro _ ⟨M156, rfl, hJ157, hq158⟩
        have hJ159 := zJ_trans hJ147 hJ157 (zSub_cons (fun _ _ h h' hk => ((zDm_or h152).elim (fun e => zIR_s (zIR_s (zIR_e (by omega) (by omega) hk))) (fun e => zIR_s (zIR_s (zIR_s (zIR_e (by omega) (by omega) hk)))))) (zSub_cons (fun _ _ h h' hk => ((zDm_or h152).elim (fun e => zIR_s (zIR_s (zIR_s (zIR_s (zIR_a (by omega) (by omega)))))) (fun e => zIR_s (zIR_s (zIR_s (zIR_s (zIR_s (zIR_a (by omega) (by omega))))))))) zSub_nil))
        show ZW _ _ _ _ _ _ _ (67, [some (.ref 2), some (.int 7), some (.int x144), none], [], M156)
        refine w_lo dX5_readPart_67 rfl rfl rfl rfl ?_
        refine w_iv dX5_readPart_68 rfl rfl (As := []) rfl rfl hJ159.1.1 zs_2 (Nat.le_of_ble_eq_true rfl) ?_
        refine ZV.imp (k_1289 hN hJ159.1) ?_
        rintro _ ⟨M160, rfl, hJ161, hq162⟩
        have hJ163 := zJ_trans hJ159 hJ161 (zSub_cons (fun _ _ h h' hk => zIR_s (zIR_s (zIR_s (zIR_s (zIR_s (zIR_s (zIR_e (by omega) (by omega) hk))))))) zSub_nil)
        show ZW _ _ _ _ _ _ _ (71, [some (.ref 2), some (.int 7), some (.int x144), none], [], M160)
        refine w_ic dX5_readPart_71 zi_1 ?_
        refine w_en dX5_readPart_72 rfl ?_
        exact ⟨_, _, rfl, (by have := zt_1; omega), (by have := zt_1; omega), hJ163, trivial⟩
      · skip
        refine w_cge_t dX5_readPart_51 (t := 73) rfl (by have := zt_7; omega) ?_
        exact ih73 M141 x144 none hJ147 (by omega) (by omega) (by have := zt_7; omega)
    · skip
      refine w_ceq_t dX5_readPart_45 (t := 73) rfl (by have := zt_m1; omega) ?_
      exact ih73 M141 x144 none hJ147 (by omega) (by omega) (by have := zt_7; omega)
  · skip
    refine w_cne_f dX5_readPart_10 (t := 38) rfl (by have := zt_4; omega) ?_
    refine w_lo dX5_readPart_13 rfl rfl rfl rfl ?_
    obtain ⟨b164, f165, h166⟩ := zd_2_8 hJ0.1
    have h167 := zDm_b h166
    refine w_gf dX5_readPart_14 rfl hJ0.1.1 zs_2 f165 ?_
    refine w_gf dX5_readPart_17 rfl hJ0.1.1 (zs_1_0 h166) (zr_1_0_15 h166 hJ0.1) ?_
    refine w_lo dX5_readPart_20 rfl rfl rfl rfl ?_
    refine w_gf dX5_readPart_21 rfl hJ0.1.1 zs_2 (zr_2_4 hJ0.1) ?_
    refine w_lo dX5_readPart_24 rfl rfl rfl rfl ?_
    refine w_gf dX5_readPart_25 rfl hJ0.1.1 zs_2 f133 ?_
    refine w_iai dX5_readPart_28 hJ0.1 zs_5 (by omega) (by omega) zu_5 ?_
    intro x171 f168 h169 h170
    refine w_iv dX5_readPart_29 rfl rfl (As := [.int x171]) rfl rfl hJ0.1.1 (zs_1_13 h166) (Nat.le_of_ble_eq_true rfl) ?_
    refine ZV.imp (k_515 (b164 + 13) (zLw_of h166) x171 hN hJ0.1) ?_
    rintro _ ⟨M172, rfl, hJ173, hq174⟩
    have hJ175 := zJ_trans hJ0 hJ173 (zSub_cons (fun _ _ h h' hk => ((zDm_or h166).elim (fun e => zIR_s (zIR_s (zIR_e (by omega) (by omega) hk))) (fun e => zIR_s (zIR_s (zIR_s (zIR_e (by omega) (by omega) hk)))))) (zSub_cons (fun _ _ h h' hk => ((zDm_or h166).elim (fun e => zIR_s (zIR_s (zIR_s (zIR_s (zIR_a (by omega) (by omega)))))) (fun e => zIR_s (zIR_s (zIR_s (zIR_s (zIR_s (zIR_a (by omega) (by omega))))))))) zSub_nil))
    show ZW _ _ _ _ _ _ _ (32, [some (.ref 2), some (.int 7), none, none], [], M172)
    refine w_lo dX5_readPart_32 rfl rfl rfl rfl ?_
    refine w_iv dX5_readPart_33 rfl rfl (As := []) rfl rfl hJ175.1.1 zs_2 (Nat.le_of_ble_eq_true rfl) ?_
    refine ZV.imp (k_1289 hN hJ175.1) ?_
    rintro _ ⟨M176, rfl, hJ177, hq178⟩
    have hJ179 := zJ_trans hJ175 hJ177 (zSub_cons (fun _ _ h h' hk => zIR_s (zIR_s (zIR_s (zIR_s (zIR_s (zIR_s (zIR_e (by omega) (by omega) hk))))))) zSub_nil)
    show ZW _ _ _ _ _ _ _ (36, [some (.ref 2), some (.int 7), none, none], [], M176)
    refine w_ic dX5_readPart_36 zi_1 ?_
    refine w_en dX5_readPart_37 rfl ?_
    exact ⟨_, _, rfl, (by have := zt_1; omega), (by have := zt_1; omega), hJ179, trivial⟩
set_option maxRecDepth 100000 in
theorem k_1297_c7 {X : List Int32} {d N : Nat} {M0 : zM}  (hN : N ≤ 600) (hB0 : zB N M0) : ZV X (d + 5) 1297 [.ref 2, .int 7] M0 (zRI N [(2, 3, 0), (2, 3, 1), (20, 21, 1), (41, 42, 1), (21, 22, 1000), (42, 43, 1000), (2, 3, 7)] M0 (0) (1) (fun _ _ => True)) := by
  have hJ0 : zJ N [(2, 3, 0), (2, 3, 1), (20, 21, 1), (41, 42, 1), (21, 22, 1000), (42, 43, 1000), (2, 3, 7)] M0 M0 := zJ_refl hB0
  refine ZV.of (ini := false) rfl (Nat.le_of_ble_eq_true rfl) (by decide +kernel) ?_
  have main : ∀ n : Nat,
      (∀ (M : zM) (v4_2 : Int32) (v4_3 : Int32) (o4_4 : Option Value) (o4_5 : Option Value), zJ N [(2, 3, 0), (2, 3, 1), (20, 21, 1), (41, 42, 1), (21, 22, 1000), (42, 43, 1000), (2, 3, 7)] M0 M → ((-13 : Int) ≤ v4_2.toInt) → (v4_2.toInt ≤ 0) → ((0 : Int) ≤ v4_3.toInt) → (v4_3.toInt ≤ 1601) → 12832 * (1601 - v4_3.toInt) + 12830 < (n : Int) → ZW X (d + 4) 5 false (some .boolean) cX5_readSum (zRI N [(2, 3, 0), (2, 3, 1), (20, 21, 1), (41, 42, 1), (21, 22, 1000), (42, 43, 1000), (2, 3, 7)] M0 (0) (1) (fun _ _ => True)) (4, [some (.ref 2), some (.int 7), some (.int v4_2), some (.int v4_3), o4_4, o4_5], [], M)) ∧
      (∀ (M : zM) (v17_2 : Int32) (v17_3 : Int32) (v17_4 : Int32) (v17_5 : Int32), zJ N [(2, 3, 0), (2, 3, 1), (20, 21, 1), (41, 42, 1), (21, 22, 1000), (42, 43, 1000), (2, 3, 7)] M0 M → ((-2147483648 : Int) ≤ v17_2.toInt) → (v17_2.toInt ≤ 0) → ((0 : Int) ≤ v17_3.toInt) → (v17_3.toInt ≤ 1600) → ((-11 : Int) ≤ v17_4.toInt) → (v17_4.toInt ≤ 0) → ((0 : Int) ≤ v17_5.toInt) → (v17_5.toInt ≤ 1601) → 12832 * (1601 - v17_3.toInt) + 8 * (1601 - v17_5.toInt) + 5 < (n : Int) → ZW X (d + 4) 5 false (some .boolean) cX5_readSum (zRI N [(2, 3, 0), (2, 3, 1), (20, 21, 1), (41, 42, 1), (21, 22, 1000), (42, 43, 1000), (2, 3, 7)] M0 (0) (1) (fun _ _ => True)) (17, [some (.ref 2), some (.int 7), some (.int v17_2), some (.int v17_3), some (.int v17_4), some (.int v17_5)], [], M)) ∧
      (∀ (M : zM) (v52_2 : Int32) (v52_3 : Int32) (u52_4 : Int32) (v52_5 : Int32), zJ N [(2, 3, 0), (2, 3, 1), (20, 21, 1), (41, 42, 1), (21, 22, 1000), (42, 43, 1000), (2, 3, 7)] M0 M → ((-2147483648 : Int) ≤ v52_2.toInt) → (v52_2.toInt ≤ 0) → ((0 : Int) ≤ v52_3.toInt) → (v52_3.toInt ≤ 1600) → ((0 : Int) ≤ v52_5.toInt) → (v52_5.toInt ≤ 1600) → 12832 * (1601 - v52_3.toInt) + 8 * (1601 - v52_5.toInt) + 4 < (n : Int) → ZW X (d + 4) 5 false (some .boolean) cX5_readSum (zRI N [(2, 3, 0), (2, 3, 1), (20, 21, 1), (41, 42, 1), (21, 22, 1000), (42, 43, 1000), (2, 3, 7)] M0 (0) (1) (fun _ _ => True)) (52, [some (.ref 2), some (.int 7), some (.int v52_2), some (.int v52_3), some (.int u52_4), some (.int v52_5)], [], M)) ∧
      (∀ (M : zM) (v95_2 : Int32) (v95_3 : Int32) (u95_4 : Int32) (v95_5 : Int32) (s95_0 : Int32), zJ N [(2, 3, 0), (2, 3, 1), (20, 21, 1), (41, 42, 1), (21, 22, 1000), (42, 43, 1000), (2, 3, 7)] M0 M → ((-2147483648 : Int) ≤ v95_2.toInt) → (v95_2.toInt ≤ 0) → ((0 : Int) ≤ v95_3.toInt) → (v95_3.toInt ≤ 1600) → ((0 : Int) ≤ v95_5.toInt) → (v95_5.toInt ≤ 1600) → ((-11 : Int) ≤ s95_0.toInt) → (s95_0.toInt ≤ 0) → 12832 * (1601 - v95_3.toInt) + 8 * (1601 - v95_5.toInt) + 3 < (n : Int) → ZW X (d + 4) 5 false (some .boolean) cX5_readSum (zRI N [(2, 3, 0), (2, 3, 1), (20, 21, 1), (41, 42, 1), (21, 22, 1000), (42, 43, 1000), (2, 3, 7)] M0 (0) (1) (fun _ _ => True)) (95, [some (.ref 2), some (.int 7), some (.int v95_2), some (.int v95_3), some (.int u95_4), some (.int v95_5)], [.int s95_0], M)) ∧
      (∀ (M : zM) (v115_2 : Int32) (v115_3 : Int32) (u115_4 : Int32) (u115_5 : Int32), zJ N [(2, 3, 0), (2, 3, 1), (20, 21, 1), (41, 42, 1), (21, 22, 1000), (42, 43, 1000), (2, 3, 7)] M0 M → ((-2147483648 : Int) ≤ v115_2.toInt) → (v115_2.toInt ≤ 0) → ((0 : Int) ≤ v115_3.toInt) → (v115_3.toInt ≤ 1600) → 12832 * (1601 - v115_3.toInt) + 2 < (n : Int) → ZW X (d + 4) 5 false (some .boolean) cX5_readSum (zRI N [(2, 3, 0), (2, 3, 1), (20, 21, 1), (41, 42, 1), (21, 22, 1000), (42, 43, 1000), (2, 3, 7)] M0 (0) (1) (fun _ _ => True)) (115, [some (.ref 2), some (.int 7), some (.int v115_2), some (.int v115_3), some (.int u115_4), some (.int u115_5)], [], M)) ∧
      (∀ (M : zM) (u130_2 : Int32) (v130_3 : Int32) (u130_4 : Int32) (u130_5 : Int32), zJ N [(2, 3, 0), (2, 3, 1), (20, 21, 1), (41, 42, 1), (21, 22, 1000), (42, 43, 1000), (2, 3, 7)] M0 M → ((0 : Int) ≤ v130_3.toInt) → (v130_3.toInt ≤ 1600) → 12832 * (1601 - v130_3.toInt) + 1 < (n : Int) → ZW X (d + 4) 5 false (some .boolean) cX5_readSum (zRI N [(2, 3, 0), (2, 3, 1), (20, 21, 1), (41, 42, 1), (21, 22, 1000), (42, 43, 1000), (2, 3, 7)] M0 (0) (1) (fun _ _ => True)) (130, [some (.ref 2), some (.int 7), some (.int u130_2), some (.int v130_3), some (.int u130_4), some (.int u130_5)], [], M)) := by
    intro n
    induction n with
    | zero =>
      exact ⟨(fun M v4_2 v4_3 o4_4 o4_5 hJ v4_20 v4_21 v4_30 v4_31 hn => absurd hn (by omega)), (fun M v17_2 v17_3 v17_4 v17_5 hJ v17_20 v17_21 v17_30 v17_31 v17_40 v17_41 v17_50 v17_51 hn => absurd hn (by omega)), (fun M v52_2 v52_3 u52_4 v52_5 hJ v52_20 v52_21 v52_30 v52_31 v52_50 v52_51 hn => absurd hn (by omega)), (fun M v95_2 v95_3 u95_4 v95_5 s95_0 hJ v95_20 v95_21 v95_30 v95_31 v95_50 v95_51 s95_00 s95_01 hn => absurd hn (by omega)), (fun M v115_2 v115_3 u115_4 u115_5 hJ v115_20 v115_21 v115_30 v115_31 hn => absurd hn (by omega)), (fun M u130_2 v130_3 u130_4 u130_5 hJ v130_30 v130_31 hn => absurd hn (by omega))⟩
    | succ n ih =>
      obtain ⟨ih4, ih17, ih52, ih95, ih115, ih130⟩ := ih
      refine ⟨?_, ?_, ?_, ?_, ?_, ?_⟩
      · intro M v4_2 v4_3 o4_4 o4_5 hJ v4_20 v4_21 v4_30 v4_31 hn
        refine w_lo dX5_readSum_4 rfl rfl rfl rfl ?_
        refine w_si dX5_readSum_5 (c := 1600) (by decide) ?_
        rcases zcut (1600 : Int) v4_3.toInt with h1 | h1
        · skip
          refine w_cgt_t dX5_readSum_8 (t := 177) rfl (by have := zt_1600; omega) ?_
          refine w_ic dX5_readSum_177 zi_1 ?_
          refine w_en dX5_readSum_178 rfl ?_
          exact ⟨_, _, rfl, (by have := zt_1; omega), (by have := zt_1; omega), hJ, trivial⟩
        · skip
          refine w_cgt_f dX5_readSum_8 (t := 177) rfl (by have := zt_1600; omega) ?_
          refine w_ic dX5_readSum_11 zi_0 ?_
          refine w_lo (ml' := [some (.ref 2), some (.int 7), some (.int v4_2), some (.int v4_3), some (.int 0), o4_5]) dX5_readSum_12 rfl rfl rfl rfl ?_
          refine w_ic dX5_readSum_14 zi_0 ?_
          refine w_lo (ml' := [some (.ref 2), some (.int 7), some (.int v4_2), some (.int v4_3), some (.int 0), some (.int 0)]) dX5_readSum_15 rfl rfl rfl rfl ?_
          exact ih17 M v4_2 v4_3 0 0 hJ (zbot _) (by omega) (by omega) (by omega) (by have := zt_0; omega) (by have := zt_0; omega) (by have := zt_0; omega) (by have := zt_0; omega) (by have := zt_7; have := zt_0; omega)
      · intro M v17_2 v17_3 v17_4 v17_5 hJ v17_20 v17_21 v17_30 v17_31 v17_40 v17_41 v17_50 v17_51 hn
        refine w_lo dX5_readSum_17 rfl rfl rfl rfl ?_
        refine w_si dX5_readSum_19 (c := 1600) (by decide) ?_
        rcases zcut (1600 : Int) v17_5.toInt with h2 | h2
        · skip
          refine w_cgt_t dX5_readSum_22 (t := 115) rfl (by have := zt_1600; omega) ?_
          exact ih115 M v17_2 v17_3 v17_4 v17_5 hJ (zbot _) (by omega) (by omega) (by omega) (by have := zt_7; omega)
        · skip
          refine w_cgt_f dX5_readSum_22 (t := 115) rfl (by have := zt_1600; omega) ?_
          refine w_lo dX5_readSum_25 rfl rfl rfl rfl ?_
          refine w_lo dX5_readSum_26 rfl rfl rfl rfl ?_
          refine w_iv dX5_readSum_27 rfl rfl (As := [.int 7]) rfl rfl hJ.1.1 zs_2 (Nat.le_of_ble_eq_true rfl) ?_
          refine ZV.imp (k_1298_c7 hN hJ.1) ?_
          rintro _ ⟨x6, M3, rfl, h7, h8, hJ4, hq5⟩
          have hJ9 := zJ_trans hJ hJ4 (zSub_cons (fun _ _ h h' hk => zIR_e (by omega) (by omega) hk) (zSub_cons (fun _ _ h h' hk => zIR_s (zIR_e (by omega) (by omega) hk)) (zSub_cons (fun _ _ h h' hk => zIR_s (zIR_s (zIR_e (by omega) (by omega) hk))) (zSub_cons (fun _ _ h h' hk => zIR_s (zIR_s (zIR_s (zIR_e (by omega) (by omega) hk)))) (zSub_cons (fun _ _ h h' hk => zIR_s (zIR_s (zIR_s (zIR_s (zIR_a (by omega) (by omega)))))) (zSub_cons (fun _ _ h h' hk => zIR_s (zIR_s (zIR_s (zIR_s (zIR_s (zIR_a (by omega) (by omega))))))) (zSub_cons (fun _ _ h h' hk => zIR_s (zIR_s (zIR_s (zIR_s (zIR_s (zIR_s (zIR_e (by omega) (by omega) hk))))))) zSub_nil)))))))
          show ZW _ _ _ _ _ _ _ (30, [some (.ref 2), some (.int 7), some (.int v17_2), some (.int v17_3), some (.int v17_4), some (.int v17_5)], [.int x6], M3)
          rcases Int.decEq x6.toInt (0 : Int) with h10 | h10
          · skip
            refine w_ine_t dX5_readSum_30 (t := 35) rfl (by omega) ?_
            refine w_lo dX5_readSum_35 rfl rfl rfl rfl ?_
            rcases Int.decEq v17_4.toInt (0 : Int) with h11 | h11
            · skip
              refine w_ieq_f dX5_readSum_37 (t := 52) rfl (by omega) ?_
              refine w_lo dX5_readSum_40 rfl rfl rfl rfl ?_
              obtain ⟨b12, f13, h14⟩ := zd_2_8 hJ9.1
              have h15 := zDm_b h14
              refine w_gf dX5_readSum_41 rfl hJ9.1.1 zs_2 f13 ?_
              refine w_gf dX5_readSum_44 rfl hJ9.1.1 (zs_1_0 h14) (zr_1_0_15 h14 hJ9.1) ?_
              refine w_lo dX5_readSum_47 rfl rfl rfl rfl ?_
              refine w_iv dX5_readSum_49 rfl rfl (As := [.int v17_4]) rfl rfl hJ9.1.1 (zs_1_13 h14) (Nat.le_of_ble_eq_true rfl) ?_
              refine ZV.imp (k_515 (b12 + 13) (zLw_of h14) v17_4 hN hJ9.1) ?_
              rintro _ ⟨M16, rfl, hJ17, hq18⟩
              have hJ19 := zJ_trans hJ9 hJ17 (zSub_cons (fun _ _ h h' hk => ((zDm_or h14).elim (fun e => zIR_s (zIR_s (zIR_e (by omega) (by omega) hk))) (fun e => zIR_s (zIR_s (zIR_s (zIR_e (by omega) (by omega) hk)))))) (zSub_cons (fun _ _ h h' hk => ((zDm_or h14).elim (fun e => zIR_s (zIR_s (zIR_s (zIR_s (zIR_a (by omega) (by omega)))))) (fun e => zIR_s (zIR_s (zIR_s (zIR_s (zIR_s (zIR_a (by omega) (by omega))))))))) zSub_nil))
              show ZW _ _ _ _ _ _ _ (52, [some (.ref 2), some (.int 7), some (.int v17_2), some (.int v17_3), some (.int v17_4), some (.int v17_5)], [], M16)
              exact ih52 M16 v17_2 v17_3 v17_4 v17_5 hJ19 (zbot _) (by omega) (by omega) (by omega) (by omega) (by omega) (by have := zt_7; omega)
            · skip
              refine w_ieq_t dX5_readSum_37 (t := 52) rfl (by omega) ?_
              exact ih52 M3 v17_2 v17_3 v17_4 v17_5 hJ9 (zbot _) (by omega) (by omega) (by omega) (by omega) (by omega) (by have := zt_7; omega)
          · skip
            refine w_ine_f dX5_readSum_30 (t := 35) rfl (by omega) ?_
            refine w_ic dX5_readSum_33 zi_0 ?_
            refine w_en dX5_readSum_34 rfl ?_
            exact ⟨_, _, rfl, (by have := zt_0; omega), (by have := zt_0; omega), hJ9, trivial⟩
      · intro M v52_2 v52_3 u52_4 v52_5 hJ v52_20 v52_21 v52_30 v52_31 v52_50 v52_51 hn
        refine w_lo dX5_readSum_52 rfl rfl rfl rfl ?_
        refine w_bi dX5_readSum_53 (c := 42) (by decide) ?_
        refine w_iv dX5_readSum_55 rfl rfl (As := [.int 42]) rfl rfl hJ.1.1 zs_2 (Nat.le_of_ble_eq_true rfl) ?_
        refine ZV.imp (k_1299 42 (by have := zt_42; omega) (by have := zt_42; omega) hN hJ.1) ?_
        rintro _ ⟨x23, M20, rfl, h24, h25, hJ21, hq22⟩
        have hJ26 := zJ_trans hJ hJ21 zSub_nil
        show ZW _ _ _ _ _ _ _ (58, [some (.ref 2), some (.int 7), some (.int v52_2), some (.int v52_3), some (.int u52_4), some (.int v52_5)], [.int x23], M20)
        rcases Int.decEq x23.toInt (0 : Int) with h27 | h27
        · skip
          refine w_ieq_f dX5_readSum_58 (t := 66) rfl (by omega) ?_
          refine w_bi dX5_readSum_61 (c := (-9)) (by decide) ?_
          refine w_gt dX5_readSum_63 (t := 95) rfl ?_
          exact ih95 M20 v52_2 v52_3 u52_4 v52_5 (-9) hJ26 (zbot _) (by omega) (by omega) (by omega) (by omega) (by omega) (by have := zt_m9; omega) (by have := zt_m9; omega) (by have := zt_7; have := zt_m9; omega)
        · skip
          refine w_ieq_t dX5_readSum_58 (t := 66) rfl (by omega) ?_
          refine w_lo dX5_readSum_66 rfl rfl rfl rfl ?_
          refine w_bi dX5_readSum_67 (c := 47) (by decide) ?_
          refine w_iv dX5_readSum_69 rfl rfl (As := [.int 47]) rfl rfl hJ26.1.1 zs_2 (Nat.le_of_ble_eq_true rfl) ?_
          refine ZV.imp (k_1299 47 (by have := zt_47; omega) (by have := zt_47; omega) hN hJ26.1) ?_
          rintro _ ⟨x31, M28, rfl, h32, h33, hJ29, hq30⟩
          have hJ34 := zJ_trans hJ26 hJ29 zSub_nil
          show ZW _ _ _ _ _ _ _ (72, [some (.ref 2), some (.int 7), some (.int v52_2), some (.int v52_3), some (.int u52_4), some (.int v52_5)], [.int x31], M28)
          rcases Int.decEq x31.toInt (0 : Int) with h35 | h35
          · skip
            refine w_ieq_f dX5_readSum_72 (t := 80) rfl (by omega) ?_
            refine w_bi dX5_readSum_75 (c := (-10)) (by decide) ?_
            refine w_gt dX5_readSum_77 (t := 95) rfl ?_
            exact ih95 M28 v52_2 v52_3 u52_4 v52_5 (-10) hJ34 (zbot _) (by omega) (by omega) (by omega) (by omega) (by omega) (by have := zt_m10; omega) (by have := zt_m10; omega) (by have := zt_7; have := zt_m10; omega)
          · skip
            refine w_ieq_t dX5_readSum_72 (t := 80) rfl (by omega) ?_
            refine w_lo dX5_readSum_80 rfl rfl rfl rfl ?_
            refine w_bi dX5_readSum_81 (c := 37) (by decide) ?_
            refine w_iv dX5_readSum_83 rfl rfl (As := [.int 37]) rfl rfl hJ34.1.1 zs_2 (Nat.le_of_ble_eq_true rfl) ?_
            refine ZV.imp (k_1299 37 (by have := zt_37; omega) (by have := zt_37; omega) hN hJ34.1) ?_
            rintro _ ⟨x39, M36, rfl, h40, h41, hJ37, hq38⟩
            have hJ42 := zJ_trans hJ34 hJ37 zSub_nil
            show ZW _ _ _ _ _ _ _ (86, [some (.ref 2), some (.int 7), some (.int v52_2), some (.int v52_3), some (.int u52_4), some (.int v52_5)], [.int x39], M36)
            rcases Int.decEq x39.toInt (0 : Int) with h43 | h43
            · skip
              refine w_ieq_f dX5_readSum_86 (t := 94) rfl (by omega) ?_
              refine w_bi dX5_readSum_89 (c := (-11)) (by decide) ?_
              refine w_gt dX5_readSum_91 (t := 95) rfl ?_
              exact ih95 M36 v52_2 v52_3 u52_4 v52_5 (-11) hJ42 (zbot _) (by omega) (by omega) (by omega) (by omega) (by omega) (by have := zt_m11; omega) (by have := zt_m11; omega) (by have := zt_7; have := zt_m11; omega)
            · skip
              refine w_ieq_t dX5_readSum_86 (t := 94) rfl (by omega) ?_
              refine w_ic dX5_readSum_94 zi_0 ?_
              exact ih95 M36 v52_2 v52_3 u52_4 v52_5 0 hJ42 (zbot _) (by omega) (by omega) (by omega) (by omega) (by omega) (by have := zt_0; omega) (by have := zt_0; omega) (by have := zt_7; have := zt_0; omega)
      · intro M v95_2 v95_3 u95_4 v95_5 s95_0 hJ v95_20 v95_21 v95_30 v95_31 v95_50 v95_51 s95_00 s95_01 hn
        refine w_lo (ml' := [some (.ref 2), some (.int 7), some (.int v95_2), some (.int v95_3), some (.int s95_0), some (.int v95_5)]) dX5_readSum_95 rfl rfl rfl rfl ?_
        refine w_lo dX5_readSum_97 rfl rfl rfl rfl ?_
        rcases Int.decEq s95_0.toInt (0 : Int) with h44 | h44
        · skip
          refine w_ine_t dX5_readSum_99 (t := 105) rfl (by omega) ?_
          refine w_lo dX5_readSum_105 rfl rfl rfl rfl ?_
          refine w_iv dX5_readSum_106 rfl rfl (As := []) rfl rfl hJ.1.1 zs_2 (Nat.le_of_ble_eq_true rfl) ?_
          refine ZV.imp (k_1289 hN hJ.1) ?_
          rintro _ ⟨M45, rfl, hJ46, hq47⟩
          have hJ48 := zJ_trans hJ hJ46 (zSub_cons (fun _ _ h h' hk => zIR_s (zIR_s (zIR_s (zIR_s (zIR_s (zIR_s (zIR_e (by omega) (by omega) hk))))))) zSub_nil)
          show ZW _ _ _ _ _ _ _ (109, [some (.ref 2), some (.int 7), some (.int v95_2), some (.int v95_3), some (.int s95_0), some (.int v95_5)], [], M45)
          refine w_inc (kk := 5) dX5_readSum_109 rfl (m := 1) (by decide) (by omega) ?_
          intro x49 h50
          refine ⟨_, rfl, ?_⟩
          show ZW _ _ _ _ _ _ _ (112, [some (.ref 2), some (.int 7), some (.int v95_2), some (.int v95_3), some (.int s95_0), some (.int x49)], [], M45)
          refine w_gt dX5_readSum_112 (t := 17) rfl ?_
          exact ih17 M45 v95_2 v95_3 s95_0 x49 hJ48 (zbot _) (by omega) (by omega) (by omega) (by omega) (by omega) (by omega) (by omega) (by have := zt_7; omega)
        · skip
          refine w_ine_f dX5_readSum_99 (t := 105) rfl (by omega) ?_
          refine w_gt dX5_readSum_102 (t := 115) rfl ?_
          exact ih115 M v95_2 v95_3 s95_0 v95_5 hJ (zbot _) (by omega) (by omega) (by omega) (by have := zt_7; omega)
      · intro M v115_2 v115_3 u115_4 u115_5 hJ v115_20 v115_21 v115_30 v115_31 hn
        refine w_lo dX5_readSum_115 rfl rfl rfl rfl ?_
        rcases Int.decEq v115_2.toInt (0 : Int) with h51 | h51
        · skip
          refine w_ieq_f dX5_readSum_116 (t := 130) rfl (by omega) ?_
          refine w_lo dX5_readSum_119 rfl rfl rfl rfl ?_
          obtain ⟨b52, f53, h54⟩ := zd_2_8 hJ.1
          have h55 := zDm_b h54
          refine w_gf dX5_readSum_120 rfl hJ.1.1 zs_2 f53 ?_
          refine w_gf dX5_readSum_123 rfl hJ.1.1 (zs_1_0 h54) (zr_1_0_15 h54 hJ.1) ?_
          refine w_lo dX5_readSum_126 rfl rfl rfl rfl ?_
          refine w_iv dX5_readSum_127 rfl rfl (As := [.int v115_2]) rfl rfl hJ.1.1 (zs_1_13 h54) (Nat.le_of_ble_eq_true rfl) ?_
          refine ZV.imp (k_515 (b52 + 13) (zLw_of h54) v115_2 hN hJ.1) ?_
          rintro _ ⟨M56, rfl, hJ57, hq58⟩
          have hJ59 := zJ_trans hJ hJ57 (zSub_cons (fun _ _ h h' hk => ((zDm_or h54).elim (fun e => zIR_s (zIR_s (zIR_e (by omega) (by omega) hk))) (fun e => zIR_s (zIR_s (zIR_s (zIR_e (by omega) (by omega) hk)))))) (zSub_cons (fun _ _ h h' hk => ((zDm_or h54).elim (fun e => zIR_s (zIR_s (zIR_s (zIR_s (zIR_a (by omega) (by omega)))))) (fun e => zIR_s (zIR_s (zIR_s (zIR_s (zIR_s (zIR_a (by omega) (by omega))))))))) zSub_nil))
          show ZW _ _ _ _ _ _ _ (130, [some (.ref 2), some (.int 7), some (.int v115_2), some (.int v115_3), some (.int u115_4), some (.int u115_5)], [], M56)
          exact ih130 M56 v115_2 v115_3 u115_4 u115_5 hJ59 (by omega) (by omega) (by have := zt_7; omega)
        · skip
          refine w_ieq_t dX5_readSum_116 (t := 130) rfl (by omega) ?_
          exact ih130 M v115_2 v115_3 u115_4 u115_5 hJ (by omega) (by omega) (by have := zt_7; omega)
      · intro M u130_2 v130_3 u130_4 u130_5 hJ v130_30 v130_31 hn
        refine w_lo dX5_readSum_130 rfl rfl rfl rfl ?_
        refine w_bi dX5_readSum_131 (c := 43) (by decide) ?_
        refine w_iv dX5_readSum_133 rfl rfl (As := [.int 43]) rfl rfl hJ.1.1 zs_2 (Nat.le_of_ble_eq_true rfl) ?_
        refine ZV.imp (k_1299 43 (by have := zt_43; omega) (by have := zt_43; omega) hN hJ.1) ?_
        rintro _ ⟨x63, M60, rfl, h64, h65, hJ61, hq62⟩
        have hJ66 := zJ_trans hJ hJ61 zSub_nil
        show ZW _ _ _ _ _ _ _ (136, [some (.ref 2), some (.int 7), some (.int u130_2), some (.int v130_3), some (.int u130_4), some (.int u130_5)], [.int x63], M60)
        rcases Int.decEq x63.toInt (0 : Int) with h67 | h67
        · skip
          refine w_ieq_f dX5_readSum_136 (t := 144) rfl (by omega) ?_
          refine w_bi dX5_readSum_139 (c := (-12)) (by decide) ?_
          refine w_gt dX5_readSum_141 (t := 159) rfl ?_
          refine w_lo (ml' := [some (.ref 2), some (.int 7), some (.int (-12)), some (.int v130_3), some (.int u130_4), some (.int u130_5)]) dX5_readSum_159 rfl rfl rfl rfl ?_
          refine w_lo dX5_readSum_160 rfl rfl rfl rfl ?_
          refine w_ine_t dX5_readSum_161 (t := 167) rfl (by have := zt_m12; omega) ?_
          refine w_lo dX5_readSum_167 rfl rfl rfl rfl ?_
          refine w_iv dX5_readSum_168 rfl rfl (As := []) rfl rfl hJ66.1.1 zs_2 (Nat.le_of_ble_eq_true rfl) ?_
          refine ZV.imp (k_1289 hN hJ66.1) ?_
          rintro _ ⟨M68, rfl, hJ69, hq70⟩
          have hJ71 := zJ_trans hJ66 hJ69 (zSub_cons (fun _ _ h h' hk => zIR_s (zIR_s (zIR_s (zIR_s (zIR_s (zIR_s (zIR_e (by omega) (by omega) hk))))))) zSub_nil)
          show ZW _ _ _ _ _ _ _ (171, [some (.ref 2), some (.int 7), some (.int (-12)), some (.int v130_3), some (.int u130_4), some (.int u130_5)], [], M68)
          refine w_inc (kk := 3) dX5_readSum_171 rfl (m := 1) (by decide) (by omega) ?_
          intro x72 h73
          refine ⟨_, rfl, ?_⟩
          show ZW _ _ _ _ _ _ _ (174, [some (.ref 2), some (.int 7), some (.int (-12)), some (.int x72), some (.int u130_4), some (.int u130_5)], [], M68)
          refine w_gt dX5_readSum_174 (t := 4) rfl ?_
          exact ih4 M68 (-12) x72 (some (.int u130_4)) (some (.int u130_5)) hJ71 (by have := zt_m12; omega) (by have := zt_m12; omega) (by omega) (by omega) (by have := zt_7; have := zt_m12; omega)
        · skip
          refine w_ieq_t dX5_readSum_136 (t := 144) rfl (by omega) ?_
          refine w_lo dX5_readSum_144 rfl rfl rfl rfl ?_
          refine w_bi dX5_readSum_145 (c := 45) (by decide) ?_
          refine w_iv dX5_readSum_147 rfl rfl (As := [.int 45]) rfl rfl hJ66.1.1 zs_2 (Nat.le_of_ble_eq_true rfl) ?_
          refine ZV.imp (k_1299 45 (by have := zt_45; omega) (by have := zt_45; omega) hN hJ66.1) ?_
          rintro _ ⟨x77, M74, rfl, h78, h79, hJ75, hq76⟩
          have hJ80 := zJ_trans hJ66 hJ75 zSub_nil
          show ZW _ _ _ _ _ _ _ (150, [some (.ref 2), some (.int 7), some (.int u130_2), some (.int v130_3), some (.int u130_4), some (.int u130_5)], [.int x77], M74)
          rcases Int.decEq x77.toInt (0 : Int) with h81 | h81
          · skip
            refine w_ieq_f dX5_readSum_150 (t := 158) rfl (by omega) ?_
            refine w_bi dX5_readSum_153 (c := (-13)) (by decide) ?_
            refine w_gt dX5_readSum_155 (t := 159) rfl ?_
            refine w_lo (ml' := [some (.ref 2), some (.int 7), some (.int (-13)), some (.int v130_3), some (.int u130_4), some (.int u130_5)]) dX5_readSum_159 rfl rfl rfl rfl ?_
            refine w_lo dX5_readSum_160 rfl rfl rfl rfl ?_
            refine w_ine_t dX5_readSum_161 (t := 167) rfl (by have := zt_m13; omega) ?_
            refine w_lo dX5_readSum_167 rfl rfl rfl rfl ?_
            refine w_iv dX5_readSum_168 rfl rfl (As := []) rfl rfl hJ80.1.1 zs_2 (Nat.le_of_ble_eq_true rfl) ?_
            refine ZV.imp (k_1289 hN hJ80.1) ?_
            rintro _ ⟨M82, rfl, hJ83, hq84⟩
            have hJ85 := zJ_trans hJ80 hJ83 (zSub_cons (fun _ _ h h' hk => zIR_s (zIR_s (zIR_s (zIR_s (zIR_s (zIR_s (zIR_e (by omega) (by omega) hk))))))) zSub_nil)
            show ZW _ _ _ _ _ _ _ (171, [some (.ref 2), some (.int 7), some (.int (-13)), some (.int v130_3), some (.int u130_4), some (.int u130_5)], [], M82)
            refine w_inc (kk := 3) dX5_readSum_171 rfl (m := 1) (by decide) (by omega) ?_
            intro x86 h87
            refine ⟨_, rfl, ?_⟩
            show ZW _ _ _ _ _ _ _ (174, [some (.ref 2), some (.int 7), some (.int (-13)), some (.int x86), some (.int u130_4), some (.int u130_5)], [], M82)
            refine w_gt dX5_readSum_174 (t := 4) rfl ?_
            exact ih4 M82 (-13) x86 (some (.int u130_4)) (some (.int u130_5)) hJ85 (by have := zt_m13; omega) (by have := zt_m13; omega) (by omega) (by omega) (by have := zt_7; have := zt_m13; omega)
          · skip
            refine w_ieq_t dX5_readSum_150 (t := 158) rfl (by omega) ?_
            refine w_ic dX5_readSum_158 zi_0 ?_
            refine w_lo (ml' := [some (.ref 2), some (.int 7), some (.int 0), some (.int v130_3), some (.int u130_4), some (.int u130_5)]) dX5_readSum_159 rfl rfl rfl rfl ?_
            refine w_lo dX5_readSum_160 rfl rfl rfl rfl ?_
            refine w_ine_f dX5_readSum_161 (t := 167) rfl (by have := zt_0; omega) ?_
            refine w_gt dX5_readSum_164 (t := 177) rfl ?_
            refine w_ic dX5_readSum_177 zi_1 ?_
            refine w_en dX5_readSum_178 rfl ?_
            exact ⟨_, _, rfl, (by have := zt_1; omega), (by have := zt_1; omega), hJ80, trivial⟩
  obtain ⟨ih4, ih17, ih52, ih95, ih115, ih130⟩ := main 20582531
  show ZW _ _ _ _ _ _ _ (0, [some (.ref 2), some (.int 7), none, none, none, none], [], M0)
  refine w_ic dX5_readSum_0 zi_0 ?_
  refine w_lo (ml' := [some (.ref 2), some (.int 7), some (.int 0), none, none, none]) dX5_readSum_1 rfl rfl rfl rfl ?_
  refine w_ic dX5_readSum_2 zi_0 ?_
  refine w_lo (ml' := [some (.ref 2), some (.int 7), some (.int 0), some (.int 0), none, none]) dX5_readSum_3 rfl rfl rfl rfl ?_
  exact ih4 M0 0 0 none none hJ0 (by have := zt_0; omega) (by have := zt_0; omega) (by have := zt_0; omega) (by have := zt_0; omega) (by have := zt_7; have := zt_0; omega)
set_option maxRecDepth 100000 in
theorem k_1298_c6 {X : List Int32} {d N : Nat} {M0 : zM}  (hN : N ≤ 600) (hB0 : zB N M0) : ZV X (d + 6) 1298 [.ref 2, .int 6] M0 (zRI N [(2, 3, 0), (2, 3, 1), (20, 21, 1), (41, 42, 1), (21, 22, 1000), (42, 43, 1000), (2, 3, 7)] M0 (0) (1) (fun _ _ => True)) := by
  have hJ0 : zJ N [(2, 3, 0), (2, 3, 1), (20, 21, 1), (41, 42, 1), (21, 22, 1000), (42, 43, 1000), (2, 3, 7)] M0 M0 := zJ_refl hB0
  refine ZV.of (ini := false) rfl (Nat.le_of_ble_eq_true rfl) (by decide +kernel) ?_
  have main : ∀ n : Nat,
      (∀ (M : zM) (v73_2 : Int32) (o73_3 : Option Value), zJ N [(2, 3, 0), (2, 3, 1), (20, 21, 1), (41, 42, 1), (21, 22, 1000), (42, 43, 1000), (2, 3, 7)] M0 M → ((-1 : Int) ≤ v73_2.toInt) → (v73_2.toInt ≤ 26) → 3 < (n : Int) → ZW X (d + 5) 5 false (some .boolean) cX5_readPart (zRI N [(2, 3, 0), (2, 3, 1), (20, 21, 1), (41, 42, 1), (21, 22, 1000), (42, 43, 1000), (2, 3, 7)] M0 (0) (1) (fun _ _ => True)) (73, [some (.ref 2), some (.int 6), some (.int v73_2), o73_3], [], M)) ∧
      (∀ (M : zM) (v85_2 : Int32) (o85_3 : Option Value), zJ N [(2, 3, 0), (2, 3, 1), (20, 21, 1), (41, 42, 1), (21, 22, 1000), (42, 43, 1000), (2, 3, 7)] M0 M → ((25 : Int) ≤ v85_2.toInt) → (v85_2.toInt ≤ 26) → 2 < (n : Int) → ZW X (d + 5) 5 false (some .boolean) cX5_readPart (zRI N [(2, 3, 0), (2, 3, 1), (20, 21, 1), (41, 42, 1), (21, 22, 1000), (42, 43, 1000), (2, 3, 7)] M0 (0) (1) (fun _ _ => True)) (85, [some (.ref 2), some (.int 6), some (.int v85_2), o85_3], [], M)) ∧
      (∀ (M : zM) (v99_2 : Int32) (v99_3 : Int32), zJ N [(2, 3, 0), (2, 3, 1), (20, 21, 1), (41, 42, 1), (21, 22, 1000), (42, 43, 1000), (2, 3, 7)] M0 M → ((-1 : Int) ≤ v99_2.toInt) → (v99_2.toInt ≤ 26) → ((0 : Int) ≤ v99_3.toInt) → (v99_3.toInt ≤ 1) → 1 < (n : Int) → ZW X (d + 5) 5 false (some .boolean) cX5_readPart (zRI N [(2, 3, 0), (2, 3, 1), (20, 21, 1), (41, 42, 1), (21, 22, 1000), (42, 43, 1000), (2, 3, 7)] M0 (0) (1) (fun _ _ => True)) (99, [some (.ref 2), some (.int 6), some (.int v99_2), some (.int v99_3)], [], M)) := by
    intro n
    induction n with
    | zero =>
      exact ⟨(fun M v73_2 o73_3 hJ v73_20 v73_21 hn => absurd hn (by omega)), (fun M v85_2 o85_3 hJ v85_20 v85_21 hn => absurd hn (by omega)), (fun M v99_2 v99_3 hJ v99_20 v99_21 v99_30 v99_31 hn => absurd hn (by omega))⟩
    | succ n ih =>
      obtain ⟨ih73, ih85, ih99⟩ := ih
      refine ⟨?_, ?_, ?_⟩
      · intro M v73_2 o73_3 hJ v73_20 v73_21 hn
        refine w_lo dX5_readPart_73 rfl rfl rfl rfl ?_
        refine w_bi dX5_readPart_74 (c := 25) (by decide) ?_
        rcases Int.decEq v73_2.toInt (25 : Int) with h1 | h1
        · skip
          refine w_ceq_f dX5_readPart_76 (t := 85) rfl (by have := zt_25; omega) ?_
          refine w_lo dX5_readPart_79 rfl rfl rfl rfl ?_
          refine w_bi dX5_readPart_80 (c := 26) (by decide) ?_
          rcases Int.decEq v73_2.toInt (26 : Int) with h2 | h2
          · skip
            refine w_cne_t dX5_readPart_82 (t := 89) rfl (by have := zt_26; omega) ?_
            refine w_ic dX5_readPart_89 zi_0 ?_
            refine w_lo (ml' := [some (.ref 2), some (.int 6), some (.int v73_2), some (.int 0)]) dX5_readPart_90 rfl rfl rfl rfl ?_
            refine w_lo dX5_readPart_91 rfl rfl rfl rfl ?_
            refine w_ieq_t dX5_readPart_92 (t := 99) rfl (by have := zt_0; omega) ?_
            exact ih99 M v73_2 0 hJ (by omega) (by omega) (by have := zt_0; omega) (by have := zt_0; omega) (by have := zt_6; have := zt_0; omega)
          · skip
            refine w_cne_f dX5_readPart_82 (t := 89) rfl (by have := zt_26; omega) ?_
            exact ih85 M v73_2 o73_3 hJ (by omega) (by omega) (by have := zt_6; omega)
        · skip
          refine w_ceq_t dX5_readPart_76 (t := 85) rfl (by have := zt_25; omega) ?_
          exact ih85 M v73_2 o73_3 hJ (by omega) (by omega) (by have := zt_6; omega)
      · intro M v85_2 o85_3 hJ v85_20 v85_21 hn
        refine w_ic dX5_readPart_85 zi_1 ?_
        refine w_gt dX5_readPart_86 (t := 90) rfl ?_
        refine w_lo (ml' := [some (.ref 2), some (.int 6), some (.int v85_2), some (.int 1)]) dX5_readPart_90 rfl rfl rfl rfl ?_
        refine w_lo dX5_readPart_91 rfl rfl rfl rfl ?_
        refine w_ieq_f dX5_readPart_92 (t := 99) rfl (by have := zt_1; omega) ?_
        refine w_lo dX5_readPart_95 rfl rfl rfl rfl ?_
        refine w_iv dX5_readPart_96 rfl rfl (As := []) rfl rfl hJ.1.1 zs_2 (Nat.le_of_ble_eq_true rfl) ?_
        refine ZV.imp (k_1289 hN hJ.1) ?_
        rintro _ ⟨M3, rfl, hJ4, hq5⟩
        have hJ6 := zJ_trans hJ hJ4 (zSub_cons (fun _ _ h h' hk => zIR_s (zIR_s (zIR_s (zIR_s (zIR_s (zIR_s (zIR_e (by omega) (by omega) hk))))))) zSub_nil)
        show ZW _ _ _ _ _ _ _ (99, [some (.ref 2), some (.int 6), some (.int v85_2), some (.int 1)], [], M3)
        exact ih99 M3 v85_2 1 hJ6 (by omega) (by omega) (by have := zt_1; omega) (by have := zt_1; omega) (by have := zt_6; have := zt_1; omega)
      · intro M v99_2 v99_3 hJ v99_20 v99_21 v99_30 v99_31 hn
        refine w_lo dX5_readPart_99 rfl rfl rfl rfl ?_
        refine w_bi dX5_readPart_100 (c := 40) (by decide) ?_
        refine w_iv dX5_readPart_102 rfl rfl (As := [.int 40]) rfl rfl hJ.1.1 zs_2 (Nat.le_of_ble_eq_true rfl) ?_
        refine ZV.imp (k_1299 40 (by have := zt_40; omega) (by have := zt_40; omega) hN hJ.1) ?_
        rintro _ ⟨x10, M7, rfl, h11, h12, hJ8, hq9⟩
        have hJ13 := zJ_trans hJ hJ8 zSub_nil
        show ZW _ _ _ _ _ _ _ (105, [some (.ref 2), some (.int 6), some (.int v99_2), some (.int v99_3)], [.int x10], M7)
        rcases Int.decEq x10.toInt (0 : Int) with h14 | h14
        · skip
          refine w_ine_t dX5_readPart_105 (t := 114) rfl (by omega) ?_
          refine w_lo dX5_readPart_114 rfl rfl rfl rfl ?_
          refine w_bi dX5_readPart_115 (c := 8) (by decide) ?_
          refine w_clt_t dX5_readPart_117 (t := 126) rfl (by have := zt_6; have := zt_8; omega) ?_
          refine w_lo dX5_readPart_126 rfl rfl rfl rfl ?_
          refine w_iv dX5_readPart_127 rfl rfl (As := []) rfl rfl hJ13.1.1 zs_2 (Nat.le_of_ble_eq_true rfl) ?_
          refine ZV.imp (k_1289 hN hJ13.1) ?_
          rintro _ ⟨M15, rfl, hJ16, hq17⟩
          have hJ18 := zJ_trans hJ13 hJ16 (zSub_cons (fun _ _ h h' hk => zIR_s (zIR_s (zIR_s (zIR_s (zIR_s (zIR_s (zIR_e (by omega) (by omega) hk))))))) zSub_nil)
          show ZW _ _ _ _ _ _ _ (130, [some (.ref 2), some (.int 6), some (.int v99_2), some (.int v99_3)], [], M15)
          refine w_lo dX5_readPart_130 rfl rfl rfl rfl ?_
          refine w_lo dX5_readPart_131 rfl rfl rfl rfl ?_
          refine w_ic dX5_readPart_132 zi_1 ?_
          refine w_pu (st' := [.int 7, .ref 2]) dX5_readPart_133 rfl rfl ?_
          refine w_iv dX5_readPart_134 rfl rfl (As := [.int 7]) rfl rfl hJ18.1.1 zs_2 (Nat.le_of_ble_eq_true rfl) ?_
          refine ZV.imp (k_1297_c7 hN hJ18.1) ?_
          rintro _ ⟨x22, M19, rfl, h23, h24, hJ20, hq21⟩
          have hJ25 := zJ_trans hJ18 hJ20 (zSub_cons (fun _ _ h h' hk => zIR_e (by omega) (by omega) hk) (zSub_cons (fun _ _ h h' hk => zIR_s (zIR_e (by omega) (by omega) hk)) (zSub_cons (fun _ _ h h' hk => zIR_s (zIR_s (zIR_e (by omega) (by omega) hk))) (zSub_cons (fun _ _ h h' hk => zIR_s (zIR_s (zIR_s (zIR_e (by omega) (by omega) hk)))) (zSub_cons (fun _ _ h h' hk => zIR_s (zIR_s (zIR_s (zIR_s (zIR_a (by omega) (by omega)))))) (zSub_cons (fun _ _ h h' hk => zIR_s (zIR_s (zIR_s (zIR_s (zIR_s (zIR_a (by omega) (by omega))))))) (zSub_cons (fun _ _ h h' hk => zIR_s (zIR_s (zIR_s (zIR_s (zIR_s (zIR_s (zIR_e (by omega) (by omega) hk))))))) zSub_nil)))))))
          show ZW _ _ _ _ _ _ _ (137, [some (.ref 2), some (.int 6), some (.int v99_2), some (.int v99_3)], [.int x22], M19)
          rcases Int.decEq x22.toInt (0 : Int) with h26 | h26
          · skip
            refine w_ine_t dX5_readPart_137 (t := 142) rfl (by omega) ?_
            refine w_lo dX5_readPart_142 rfl rfl rfl rfl ?_
            rcases Int.decEq v99_3.toInt (0 : Int) with h27 | h27
            · skip
              refine w_ieq_f dX5_readPart_143 (t := 200) rfl (by omega) ?_
              refine w_lo dX5_readPart_146 rfl rfl rfl rfl ?_
              refine w_bi dX5_readPart_147 (c := 44) (by decide) ?_
              refine w_iv dX5_readPart_149 rfl rfl (As := [.int 44]) rfl rfl hJ25.1.1 zs_2 (Nat.le_of_ble_eq_true rfl) ?_
              refine ZV.imp (k_1299 44 (by have := zt_44; omega) (by have := zt_44; omega) hN hJ25.1) ?_
              rintro _ ⟨x31, M28, rfl, h32, h33, hJ29, hq30⟩
              have hJ34 := zJ_trans hJ25 hJ29 zSub_nil
              show ZW _ _ _ _ _ _ _ (152, [some (.ref 2), some (.int 6), some (.int v99_2), some (.int v99_3)], [.int x31], M28)
              rcases Int.decEq x31.toInt (0 : Int) with h35 | h35
              · skip
                refine w_ine_t dX5_readPart_152 (t := 161) rfl (by omega) ?_
                refine w_lo dX5_readPart_161 rfl rfl rfl rfl ?_
                refine w_iv dX5_readPart_162 rfl rfl (As := []) rfl rfl hJ34.1.1 zs_2 (Nat.le_of_ble_eq_true rfl) ?_
                refine ZV.imp (k_1289 hN hJ34.1) ?_
                rintro _ ⟨M36, rfl, hJ37, hq38⟩
                have hJ39 := zJ_trans hJ34 hJ37 (zSub_cons (fun _ _ h h' hk => zIR_s (zIR_s (zIR_s (zIR_s (zIR_s (zIR_s (zIR_e (by omega) (by omega) hk))))))) zSub_nil)
                show ZW _ _ _ _ _ _ _ (165, [some (.ref 2), some (.int 6), some (.int v99_2), some (.int v99_3)], [], M36)
                refine w_lo dX5_readPart_165 rfl rfl rfl rfl ?_
                refine w_lo dX5_readPart_166 rfl rfl rfl rfl ?_
                refine w_ic dX5_readPart_167 zi_1 ?_
                refine w_pu (st' := [.int 7, .ref 2]) dX5_readPart_168 rfl rfl ?_
                refine w_iv dX5_readPart_169 rfl rfl (As := [.int 7]) rfl rfl hJ39.1.1 zs_2 (Nat.le_of_ble_eq_true rfl) ?_
                refine ZV.imp (k_1297_c7 hN hJ39.1) ?_
                rintro _ ⟨x43, M40, rfl, h44, h45, hJ41, hq42⟩
                have hJ46 := zJ_trans hJ39 hJ41 (zSub_cons (fun _ _ h h' hk => zIR_e (by omega) (by omega) hk) (zSub_cons (fun _ _ h h' hk => zIR_s (zIR_e (by omega) (by omega) hk)) (zSub_cons (fun _ _ h h' hk => zIR_s (zIR_s (zIR_e (by omega) (by omega) hk))) (zSub_cons (fun _ _ h h' hk => zIR_s (zIR_s (zIR_s (zIR_e (by omega) (by omega) hk)))) (zSub_cons (fun _ _ h h' hk => zIR_s (zIR_s (zIR_s (zIR_s (zIR_a (by omega) (by omega)))))) (zSub_cons (fun _ _ h h' hk => zIR_s (zIR_s (zIR_s (zIR_s (zIR_s (zIR_a (by omega) (by omega))))))) (zSub_cons (fun _ _ h h' hk => zIR_s (zIR_s (zIR_s (zIR_s (zIR_s (zIR_s (zIR_e (by omega) (by omega) hk))))))) zSub_nil)))))))
                show ZW _ _ _ _ _ _ _ (172, [some (.ref 2), some (.int 6), some (.int v99_2), some (.int v99_3)], [.int x43], M40)
                rcases Int.decEq x43.toInt (0 : Int) with h47 | h47
                · skip
                  refine w_ine_t dX5_readPart_172 (t := 177) rfl (by omega) ?_
                  refine w_lo dX5_readPart_177 rfl rfl rfl rfl ?_
                  obtain ⟨b48, f49, h50⟩ := zd_2_8 hJ46.1
                  have h51 := zDm_b h50
                  refine w_gf dX5_readPart_178 rfl hJ46.1.1 zs_2 f49 ?_
                  refine w_gf dX5_readPart_181 rfl hJ46.1.1 (zs_1_0 h50) (zr_1_0_15 h50 hJ46.1) ?_
                  refine w_lo dX5_readPart_184 rfl rfl rfl rfl ?_
                  refine w_bi dX5_readPart_185 (c := 25) (by decide) ?_
                  rcases Int.decEq v99_2.toInt (25 : Int) with h52 | h52
                  · skip
                    refine w_cne_t dX5_readPart_187 (t := 195) rfl (by have := zt_25; omega) ?_
                    refine w_bi dX5_readPart_195 (c := (-20)) (by decide) ?_
                    refine w_iv dX5_readPart_197 rfl rfl (As := [.int (-20)]) rfl rfl hJ46.1.1 (zs_1_13 h50) (Nat.le_of_ble_eq_true rfl) ?_
                    refine ZV.imp (k_515 (b48 + 13) (zLw_of h50) (-20) hN hJ46.1) ?_
                    rintro _ ⟨M53, rfl, hJ54, hq55⟩
                    have hJ56 := zJ_trans hJ46 hJ54 (zSub_cons (fun _ _ h h' hk => ((zDm_or h50).elim (fun e => zIR_s (zIR_s (zIR_e (by omega) (by omega) hk))) (fun e => zIR_s (zIR_s (zIR_s (zIR_e (by omega) (by omega) hk)))))) (zSub_cons (fun _ _ h h' hk => ((zDm_or h50).elim (fun e => zIR_s (zIR_s (zIR_s (zIR_s (zIR_a (by omega) (by omega)))))) (fun e => zIR_s (zIR_s (zIR_s (zIR_s (zIR_s (zIR_a (by omega) (by omega))))))))) zSub_nil))
                    show ZW _ _ _ _ _ _ _ (200, [some (.ref 2), some (.int 6), some (.int v99_2), some (.int v99_3)], [], M53)
                    refine w_lo dX5_readPart_200 rfl rfl rfl rfl ?_
                    refine w_bi dX5_readPart_201 (c := 41) (by decide) ?_
                    refine w_iv dX5_readPart_203 rfl rfl (As := [.int 41]) rfl rfl hJ56.1.1 zs_2 (Nat.le_of_ble_eq_true rfl) ?_
                    refine ZV.imp (k_1299 41 (by have := zt_41; omega) (by have := zt_41; omega) hN hJ56.1) ?_
                    rintro _ ⟨x60, M57, rfl, h61, h62, hJ58, hq59⟩
                    have hJ63 := zJ_trans hJ56 hJ58 zSub_nil
                    show ZW _ _ _ _ _ _ _ (206, [some (.ref 2), some (.int 6), some (.int v99_2), some (.int v99_3)], [.int x60], M57)
                    rcases Int.decEq x60.toInt (0 : Int) with h64 | h64
                    · skip
                      refine w_ine_t dX5_readPart_206 (t := 215) rfl (by omega) ?_
                      refine w_lo dX5_readPart_215 rfl rfl rfl rfl ?_
                      refine w_iv dX5_readPart_216 rfl rfl (As := []) rfl rfl hJ63.1.1 zs_2 (Nat.le_of_ble_eq_true rfl) ?_
                      refine ZV.imp (k_1289 hN hJ63.1) ?_
                      rintro _ ⟨M65, rfl, hJ66, hq67⟩
                      have hJ68 := zJ_trans hJ63 hJ66 (zSub_cons (fun _ _ h h' hk => zIR_s (zIR_s (zIR_s (zIR_s (zIR_s (zIR_s (zIR_e (by omega) (by omega) hk))))))) zSub_nil)
                      show ZW _ _ _ _ _ _ _ (219, [some (.ref 2), some (.int 6), some (.int v99_2), some (.int v99_3)], [], M65)
                      refine w_ic dX5_readPart_219 zi_1 ?_
                      refine w_en dX5_readPart_220 rfl ?_
                      exact ⟨_, _, rfl, (by have := zt_1; omega), (by have := zt_1; omega), hJ68, trivial⟩
                    · skip
                      refine w_ine_f dX5_readPart_206 (t := 215) rfl (by omega) ?_
                      refine w_lo dX5_readPart_209 rfl rfl rfl rfl ?_
                      refine w_ic dX5_readPart_210 zi_1 ?_
                      refine w_iv dX5_readPart_211 rfl rfl (As := [.int 1]) rfl rfl hJ63.1.1 zs_2 (Nat.le_of_ble_eq_true rfl) ?_
                      refine ZV.imp (k_1286 1 (by have := zt_1; omega) (by have := zt_1; omega) hN hJ63.1) ?_
                      rintro _ ⟨x72, M69, rfl, h73, h74, hJ70, hq71⟩
                      have hJ75 := zJ_trans hJ63 hJ70 (zSub_cons (fun _ _ h h' hk => zIR_e (by omega) (by omega) hk) (zSub_cons (fun _ _ h h' hk => zIR_s (zIR_e (by omega) (by omega) hk)) zSub_nil))
                      show ZW _ _ _ _ _ _ _ (214, [some (.ref 2), some (.int 6), some (.int v99_2), some (.int v99_3)], [.int x72], M69)
                      refine w_eni dX5_readPart_214 rfl (znb (by omega) (by omega)) ?_
                      exact ⟨_, _, rfl, (by omega), (by omega), hJ75, trivial⟩
                  · skip
                    refine w_cne_f dX5_readPart_187 (t := 195) rfl (by have := zt_25; omega) ?_
                    refine w_bi dX5_readPart_190 (c := (-19)) (by decide) ?_
                    refine w_gt dX5_readPart_192 (t := 197) rfl ?_
                    refine w_iv dX5_readPart_197 rfl rfl (As := [.int (-19)]) rfl rfl hJ46.1.1 (zs_1_13 h50) (Nat.le_of_ble_eq_true rfl) ?_
                    refine ZV.imp (k_515 (b48 + 13) (zLw_of h50) (-19) hN hJ46.1) ?_
                    rintro _ ⟨M76, rfl, hJ77, hq78⟩
                    have hJ79 := zJ_trans hJ46 hJ77 (zSub_cons (fun _ _ h h' hk => ((zDm_or h50).elim (fun e => zIR_s (zIR_s (zIR_e (by omega) (by omega) hk))) (fun e => zIR_s (zIR_s (zIR_s (zIR_e (by omega) (by omega) hk)))))) (zSub_cons (fun _ _ h h' hk => ((zDm_or h50).elim (fun e => zIR_s (zIR_s (zIR_s (zIR_s (zIR_a (by omega) (by omega)))))) (fun e => zIR_s (zIR_s (zIR_s (zIR_s (zIR_s (zIR_a (by omega) (by omega))))))))) zSub_nil))
                    show ZW _ _ _ _ _ _ _ (200, [some (.ref 2), some (.int 6), some (.int v99_2), some (.int v99_3)], [], M76)
                    refine w_lo dX5_readPart_200 rfl rfl rfl rfl ?_
                    refine w_bi dX5_readPart_201 (c := 41) (by decide) ?_
                    refine w_iv dX5_readPart_203 rfl rfl (As := [.int 41]) rfl rfl hJ79.1.1 zs_2 (Nat.le_of_ble_eq_true rfl) ?_
                    refine ZV.imp (k_1299 41 (by have := zt_41; omega) (by have := zt_41; omega) hN hJ79.1) ?_
                    rintro _ ⟨x83, M80, rfl, h84, h85, hJ81, hq82⟩
                    have hJ86 := zJ_trans hJ79 hJ81 zSub_nil
                    show ZW _ _ _ _ _ _ _ (206, [some (.ref 2), some (.int 6), some (.int v99_2), some (.int v99_3)], [.int x83], M80)
                    rcases Int.decEq x83.toInt (0 : Int) with h87 | h87
                    · skip
                      refine w_ine_t dX5_readPart_206 (t := 215) rfl (by omega) ?_
                      refine w_lo dX5_readPart_215 rfl rfl rfl rfl ?_
                      refine w_iv dX5_readPart_216 rfl rfl (As := []) rfl rfl hJ86.1.1 zs_2 (Nat.le_of_ble_eq_true rfl) ?_
                      refine ZV.imp (k_1289 hN hJ86.1) ?_
                      rintro _ ⟨M88, rfl, hJ89, hq90⟩
                      have hJ91 := zJ_trans hJ86 hJ89 (zSub_cons (fun _ _ h h' hk => zIR_s (zIR_s (zIR_s (zIR_s (zIR_s (zIR_s (zIR_e (by omega) (by omega) hk))))))) zSub_nil)
                      show ZW _ _ _ _ _ _ _ (219, [some (.ref 2), some (.int 6), some (.int v99_2), some (.int v99_3)], [], M88)
                      refine w_ic dX5_readPart_219 zi_1 ?_
                      refine w_en dX5_readPart_220 rfl ?_
                      exact ⟨_, _, rfl, (by have := zt_1; omega), (by have := zt_1; omega), hJ91, trivial⟩
                    · skip
                      refine w_ine_f dX5_readPart_206 (t := 215) rfl (by omega) ?_
                      refine w_lo dX5_readPart_209 rfl rfl rfl rfl ?_
                      refine w_ic dX5_readPart_210 zi_1 ?_
                      refine w_iv dX5_readPart_211 rfl rfl (As := [.int 1]) rfl rfl hJ86.1.1 zs_2 (Nat.le_of_ble_eq_true rfl) ?_
                      refine ZV.imp (k_1286 1 (by have := zt_1; omega) (by have := zt_1; omega) hN hJ86.1) ?_
                      rintro _ ⟨x95, M92, rfl, h96, h97, hJ93, hq94⟩
                      have hJ98 := zJ_trans hJ86 hJ93 (zSub_cons (fun _ _ h h' hk => zIR_e (by omega) (by omega) hk) (zSub_cons (fun _ _ h h' hk => zIR_s (zIR_e (by omega) (by omega) hk)) zSub_nil))
                      show ZW _ _ _ _ _ _ _ (214, [some (.ref 2), some (.int 6), some (.int v99_2), some (.int v99_3)], [.int x95], M92)
                      refine w_eni dX5_readPart_214 rfl (znb (by omega) (by omega)) ?_
                      exact ⟨_, _, rfl, (by omega), (by omega), hJ98, trivial⟩
                · skip
                  refine w_ine_f dX5_readPart_172 (t := 177) rfl (by omega) ?_
                  refine w_ic dX5_readPart_175 zi_0 ?_
                  refine w_en dX5_readPart_176 rfl ?_
                  exact ⟨_, _, rfl, (by have := zt_0; omega), (by have := zt_0; omega), hJ46, trivial⟩
              · skip
                refine w_ine_f dX5_readPart_152 (t := 161) rfl (by omega) ?_
                refine w_lo dX5_readPart_155 rfl rfl rfl rfl ?_
                refine w_ic dX5_readPart_156 zi_1 ?_
                refine w_iv dX5_readPart_157 rfl rfl (As := [.int 1]) rfl rfl hJ34.1.1 zs_2 (Nat.le_of_ble_eq_true rfl) ?_
                refine ZV.imp (k_1286 1 (by have := zt_1; omega) (by have := zt_1; omega) hN hJ34.1) ?_
                rintro _ ⟨x102, M99, rfl, h103, h104, hJ100, hq101⟩
                have hJ105 := zJ_trans hJ34 hJ100 (zSub_cons (fun _ _ h h' hk => zIR_e (by omega) (by omega) hk) (zSub_cons (fun _ _ h h' hk => zIR_s (zIR_e (by omega) (by omega) hk)) zSub_nil))
                show ZW _ _ _ _ _ _ _ (160, [some (.ref 2), some (.int 6), some (.int v99_2), some (.int v99_3)], [.int x102], M99)
                refine w_eni dX5_readPart_160 rfl (znb (by omega) (by omega)) ?_
                exact ⟨_, _, rfl, (by omega), (by omega), hJ105, trivial⟩
            · skip
              refine w_ieq_t dX5_readPart_143 (t := 200) rfl (by omega) ?_
              refine w_lo dX5_readPart_200 rfl rfl rfl rfl ?_
              refine w_bi dX5_readPart_201 (c := 41) (by decide) ?_
              refine w_iv dX5_readPart_203 rfl rfl (As := [.int 41]) rfl rfl hJ25.1.1 zs_2 (Nat.le_of_ble_eq_true rfl) ?_
              refine ZV.imp (k_1299 41 (by have := zt_41; omega) (by have := zt_41; omega) hN hJ25.1) ?_
              rintro _ ⟨x109, M106, rfl, h110, h111, hJ107, hq108⟩
              have hJ112 := zJ_trans hJ25 hJ107 zSub_nil
              show ZW _ _ _ _ _ _ _ (206, [some (.ref 2), some (.int 6), some (.int v99_2), some (.int v99_3)], [.int x109], M106)
              rcases Int.decEq x109.toInt (0 : Int) with h113 | h113
              · skip
                refine w_ine_t dX5_readPart_206 (t := 215) rfl (by omega) ?_
                refine w_lo dX5_readPart_215 rfl rfl rfl rfl ?_
                refine w_iv dX5_readPart_216 rfl rfl (As := []) rfl rfl hJ112.1.1 zs_2 (Nat.le_of_ble_eq_true rfl) ?_
                refine ZV.imp (k_1289 hN hJ112.1) ?_
                rintro _ ⟨M114, rfl, hJ115, hq116⟩
                have hJ117 := zJ_trans hJ112 hJ115 (zSub_cons (fun _ _ h h' hk => zIR_s (zIR_s (zIR_s (zIR_s (zIR_s (zIR_s (zIR_e (by omega) (by omega) hk))))))) zSub_nil)
                show ZW _ _ _ _ _ _ _ (219, [some (.ref 2), some (.int 6), some (.int v99_2), some (.int v99_3)], [], M114)
                refine w_ic dX5_readPart_219 zi_1 ?_
                refine w_en dX5_readPart_220 rfl ?_
                exact ⟨_, _, rfl, (by have := zt_1; omega), (by have := zt_1; omega), hJ117, trivial⟩
              · skip
                refine w_ine_f dX5_readPart_206 (t := 215) rfl (by omega) ?_
                refine w_lo dX5_readPart_209 rfl rfl rfl rfl ?_
                refine w_ic dX5_readPart_210 zi_1 ?_
                refine w_iv dX5_readPart_211 rfl rfl (As := [.int 1]) rfl rfl hJ112.1.1 zs_2 (Nat.le_of_ble_eq_true rfl) ?_
                refine ZV.imp (k_1286 1 (by have := zt_1; omega) (by have := zt_1; omega) hN hJ112.1) ?_
                rintro _ ⟨x121, M118, rfl, h122, h123, hJ119, hq120⟩
                have hJ124 := zJ_trans hJ112 hJ119 (zSub_cons (fun _ _ h h' hk => zIR_e (by omega) (by omega) hk) (zSub_cons (fun _ _ h h' hk => zIR_s (zIR_e (by omega) (by omega) hk)) zSub_nil))
                show ZW _ _ _ _ _ _ _ (214, [some (.ref 2), some (.int 6), some (.int v99_2), some (.int v99_3)], [.int x121], M118)
                refine w_eni dX5_readPart_214 rfl (znb (by omega) (by omega)) ?_
                exact ⟨_, _, rfl, (by omega), (by omega), hJ124, trivial⟩
          · skip
            refine w_ine_f dX5_readPart_137 (t := 142) rfl (by omega) ?_
            refine w_ic dX5_readPart_140 zi_0 ?_
            refine w_en dX5_readPart_141 rfl ?_
            exact ⟨_, _, rfl, (by have := zt_0; omega), (by have := zt_0; omega), hJ25, trivial⟩
        · skip
          refine w_ine_f dX5_readPart_105 (t := 114) rfl (by omega) ?_
          refine w_lo dX5_readPart_108 rfl rfl rfl rfl ?_
          refine w_ic dX5_readPart_109 zi_1 ?_
          refine w_iv dX5_readPart_110 rfl rfl (As := [.int 1]) rfl rfl hJ13.1.1 zs_2 (Nat.le_of_ble_eq_true rfl) ?_
          refine ZV.imp (k_1286 1 (by have := zt_1; omega) (by have := zt_1; omega) hN hJ13.1) ?_
          rintro _ ⟨x128, M125, rfl, h129, h130, hJ126, hq127⟩
          have hJ131 := zJ_trans hJ13 hJ126 (zSub_cons (fun _ _ h h' hk => zIR_e (by omega) (by omega) hk) (zSub_cons (fun _ _ h h' hk => zIR_s (zIR_e (by omega) (by omega) hk)) zSub_nil))
          show ZW _ _ _ _ _ _ _ (113, [some (.ref 2), some (.int 6), some (.int v99_2), some (.int v99_3)], [.int x128], M125)
          refine w_eni dX5_readPart_113 rfl (znb (by omega) (by omega)) ?_
          exact ⟨_, _, rfl, (by omega), (by omega), hJ131, trivial⟩
  obtain ⟨ih73, ih85, ih99⟩ := main 8
  show ZW _ _ _ _ _ _ _ (0, [some (.ref 2), some (.int 6), none, none], [], M0)
  refine w_lo dX5_readPart_0 rfl rfl rfl rfl ?_
  refine w_gf dX5_readPart_1 rfl hJ0.1.1 zs_2 (zr_2_3 hJ0.1) ?_
  refine w_lo dX5_readPart_4 rfl rfl rfl rfl ?_
  refine w_gfi dX5_readPart_5 rfl hJ0.1 zs_2 (Nat.le_of_ble_eq_true rfl) zo_2_7 ?_
  intro x132 f133 h134 h135
  refine w_iai dX5_readPart_8 hJ0.1 zs_4 (by omega) (by omega) zu_4 ?_
  intro x139 f136 h137 h138
  refine w_ic dX5_readPart_9 zi_4 ?_
  rcases Int.decEq x139.toInt (4 : Int) with h140 | h140
  · skip
    refine w_cne_t dX5_readPart_10 (t := 38) rfl (by have := zt_4; omega) ?_
    refine w_lo dX5_readPart_38 rfl rfl rfl rfl ?_
    refine w_iv dX5_readPart_39 rfl rfl (As := []) rfl rfl hJ0.1.1 zs_2 (Nat.le_of_ble_eq_true rfl) ?_
    refine ZV.imp (k_1287 hN hJ0.1) ?_
    rintro _ ⟨x144, M141, rfl, h145, h146, hJ142, hq143⟩
    have hJ147 := zJ_trans hJ0 hJ142 zSub_nil
    show ZW _ _ _ _ _ _ _ (42, [some (.ref 2), some (.int 6), none, none], [.int x144], M141)
    refine w_lo (ml' := [some (.ref 2), some (.int 6), some (.int x144), none]) dX5_readPart_42 rfl rfl rfl rfl ?_
    refine w_lo dX5_readPart_43 rfl rfl rfl rfl ?_
    refine w_ic dX5_readPart_44 zi_m1 ?_
    rcases Int.decEq x144.toInt (-1 : Int) with h148 | h148
    · skip
      refine w_ceq_f dX5_readPart_45 (t := 73) rfl (by have := zt_m1; omega) ?_
      refine w_lo dX5_readPart_48 rfl rfl rfl rfl ?_
      refine w_bi dX5_readPart_49 (c := 7) (by decide) ?_
      rcases zcut x144.toInt (7 : Int) with h149 | h149
      · skip
        refine w_cge_f dX5_readPart_51 (t := 73) rfl (by have := zt_7; omega) ?_
        refine w_lo dX5_readPart_54 rfl rfl rfl rfl ?_
        obtain ⟨b150, f151, h152⟩ := zd_2_8 hJ147.1
        have h153 := zDm_b h152
        refine w_gf dX5_readPart_55 rfl hJ147.1.1 zs_2 f151 ?_
        refine w_gf dX5_readPart_58 rfl hJ147.1.1 (zs_1_0 h152) (zr_1_0_15 h152 hJ147.1) ?_
        refine w_ic dX5_readPart_61 zi_m1 ?_
        refine w_lo dX5_readPart_62 rfl rfl rfl rfl ?_
        refine w_sub dX5_readPart_63 (by have := zt_m1; omega) ?_
        intro x154 h155
        have := zt_m1
        refine w_iv dX5_readPart_64 rfl rfl (As := [.int x154]) rfl rfl hJ147.1.1 (zs_1_13 h152) (Nat.le_of_ble_eq_true rfl) ?_
        refine ZV.imp (k_515 (b150 + 13) (zLw_of h152) x154 hN hJ147.1) ?_
        rintro _ ⟨M156, rfl, hJ157, hq158⟩
        have hJ159 := zJ_trans hJ147 hJ157 (zSub_cons (fun _ _ h h' hk => ((zDm_or h152).elim (fun e => zIR_s (zIR_s (zIR_e (by omega) (by omega) hk))) (fun e => zIR_s (zIR_s (zIR_s (zIR_e (by omega) (by omega) hk)))))) (zSub_cons (fun _ _ h h' hk => ((zDm_or h152).elim (fun e => zIR_s (zIR_s (zIR_s (zIR_s (zIR_a (by omega) (by omega)))))) (fun e => zIR_s (zIR_s (zIR_s (zIR_s (zIR_s (zIR_a (by omega) (by omega))))))))) zSub_nil))
        show ZW _ _ _ _ _ _ _ (67, [some (.ref 2), some (.int 6), some (.int x144), none], [], M156)
        refine w_lo dX5_readPart_67 rfl rfl rfl rfl ?_
        refine w_iv dX5_readPart_68 rfl rfl (As := []) rfl rfl hJ159.1.1 zs_2 (Nat.le_of_ble_eq_true rfl) ?_
        refine ZV.imp (k_1289 hN hJ159.1) ?_
        rintro _ ⟨M160, rfl, hJ161, hq162⟩
        have hJ163 := zJ_trans hJ159 hJ161 (zSub_cons (fun _ _ h h' hk => zIR_s (zIR_s (zIR_s (zIR_s (zIR_s (zIR_s (zIR_e (by omega) (by omega) hk))))))) zSub_nil)
        show ZW _ _ _ _ _ _ _ (71, [some (.ref 2), some (.int 6), some (.int x144), none], [], M160)
        refine w_ic dX5_readPart_71 zi_1 ?_
        refine w_en dX5_readPart_72 rfl ?_
        exact ⟨_, _, rfl, (by have := zt_1; omega), (by have := zt_1; omega), hJ163, trivial⟩
      · skip
        refine w_cge_t dX5_readPart_51 (t := 73) rfl (by have := zt_7; omega) ?_
        exact ih73 M141 x144 none hJ147 (by omega) (by omega) (by have := zt_6; omega)
    · skip
      refine w_ceq_t dX5_readPart_45 (t := 73) rfl (by have := zt_m1; omega) ?_
      exact ih73 M141 x144 none hJ147 (by omega) (by omega) (by have := zt_6; omega)
  · skip
    refine w_cne_f dX5_readPart_10 (t := 38) rfl (by have := zt_4; omega) ?_
    refine w_lo dX5_readPart_13 rfl rfl rfl rfl ?_
    obtain ⟨b164, f165, h166⟩ := zd_2_8 hJ0.1
    have h167 := zDm_b h166
    refine w_gf dX5_readPart_14 rfl hJ0.1.1 zs_2 f165 ?_
    refine w_gf dX5_readPart_17 rfl hJ0.1.1 (zs_1_0 h166) (zr_1_0_15 h166 hJ0.1) ?_
    refine w_lo dX5_readPart_20 rfl rfl rfl rfl ?_
    refine w_gf dX5_readPart_21 rfl hJ0.1.1 zs_2 (zr_2_4 hJ0.1) ?_
    refine w_lo dX5_readPart_24 rfl rfl rfl rfl ?_
    refine w_gf dX5_readPart_25 rfl hJ0.1.1 zs_2 f133 ?_
    refine w_iai dX5_readPart_28 hJ0.1 zs_5 (by omega) (by omega) zu_5 ?_
    intro x171 f168 h169 h170
    refine w_iv dX5_readPart_29 rfl rfl (As := [.int x171]) rfl rfl hJ0.1.1 (zs_1_13 h166) (Nat.le_of_ble_eq_true rfl) ?_
    refine ZV.imp (k_515 (b164 + 13) (zLw_of h166) x171 hN hJ0.1) ?_
    rintro _ ⟨M172, rfl, hJ173, hq174⟩
    have hJ175 := zJ_trans hJ0 hJ173 (zSub_cons (fun _ _ h h' hk => ((zDm_or h166).elim (fun e => zIR_s (zIR_s (zIR_e (by omega) (by omega) hk))) (fun e => zIR_s (zIR_s (zIR_s (zIR_e (by omega) (by omega) hk)))))) (zSub_cons (fun _ _ h h' hk => ((zDm_or h166).elim (fun e => zIR_s (zIR_s (zIR_s (zIR_s (zIR_a (by omega) (by omega)))))) (fun e => zIR_s (zIR_s (zIR_s (zIR_s (zIR_s (zIR_a (by omega) (by omega))))))))) zSub_nil))
    show ZW _ _ _ _ _ _ _ (32, [some (.ref 2), some (.int 6), none, none], [], M172)
    refine w_lo dX5_readPart_32 rfl rfl rfl rfl ?_
    refine w_iv dX5_readPart_33 rfl rfl (As := []) rfl rfl hJ175.1.1 zs_2 (Nat.le_of_ble_eq_true rfl) ?_
    refine ZV.imp (k_1289 hN hJ175.1) ?_
    rintro _ ⟨M176, rfl, hJ177, hq178⟩
    have hJ179 := zJ_trans hJ175 hJ177 (zSub_cons (fun _ _ h h' hk => zIR_s (zIR_s (zIR_s (zIR_s (zIR_s (zIR_s (zIR_e (by omega) (by omega) hk))))))) zSub_nil)
    show ZW _ _ _ _ _ _ _ (36, [some (.ref 2), some (.int 6), none, none], [], M176)
    refine w_ic dX5_readPart_36 zi_1 ?_
    refine w_en dX5_readPart_37 rfl ?_
    exact ⟨_, _, rfl, (by have := zt_1; omega), (by have := zt_1; omega), hJ179, trivial⟩
set_option maxRecDepth 100000 in
theorem k_1297_c6 {X : List Int32} {d N : Nat} {M0 : zM}  (hN : N ≤ 600) (hB0 : zB N M0) : ZV X (d + 7) 1297 [.ref 2, .int 6] M0 (zRI N [(2, 3, 0), (2, 3, 1), (20, 21, 1), (41, 42, 1), (21, 22, 1000), (42, 43, 1000), (2, 3, 7)] M0 (0) (1) (fun _ _ => True)) := by
  have hJ0 : zJ N [(2, 3, 0), (2, 3, 1), (20, 21, 1), (41, 42, 1), (21, 22, 1000), (42, 43, 1000), (2, 3, 7)] M0 M0 := zJ_refl hB0
  refine ZV.of (ini := false) rfl (Nat.le_of_ble_eq_true rfl) (by decide +kernel) ?_
  have main : ∀ n : Nat,
      (∀ (M : zM) (v4_2 : Int32) (v4_3 : Int32) (o4_4 : Option Value) (o4_5 : Option Value), zJ N [(2, 3, 0), (2, 3, 1), (20, 21, 1), (41, 42, 1), (21, 22, 1000), (42, 43, 1000), (2, 3, 7)] M0 M → ((-13 : Int) ≤ v4_2.toInt) → (v4_2.toInt ≤ 0) → ((0 : Int) ≤ v4_3.toInt) → (v4_3.toInt ≤ 1601) → 12832 * (1601 - v4_3.toInt) + 12830 < (n : Int) → ZW X (d + 6) 5 false (some .boolean) cX5_readSum (zRI N [(2, 3, 0), (2, 3, 1), (20, 21, 1), (41, 42, 1), (21, 22, 1000), (42, 43, 1000), (2, 3, 7)] M0 (0) (1) (fun _ _ => True)) (4, [some (.ref 2), some (.int 6), some (.int v4_2), some (.int v4_3), o4_4, o4_5], [], M)) ∧
      (∀ (M : zM) (v17_2 : Int32) (v17_3 : Int32) (v17_4 : Int32) (v17_5 : Int32), zJ N [(2, 3, 0), (2, 3, 1), (20, 21, 1), (41, 42, 1), (21, 22, 1000), (42, 43, 1000), (2, 3, 7)] M0 M → ((-2147483648 : Int) ≤ v17_2.toInt) → (v17_2.toInt ≤ 0) → ((0 : Int) ≤ v17_3.toInt) → (v17_3.toInt ≤ 1600) → ((-11 : Int) ≤ v17_4.toInt) → (v17_4.toInt ≤ 0) → ((0 : Int) ≤ v17_5.toInt) → (v17_5.toInt ≤ 1601) → 12832 * (1601 - v17_3.toInt) + 8 * (1601 - v17_5.toInt) + 5 < (n : Int) → ZW X (d + 6) 5 false (some .boolean) cX5_readSum (zRI N [(2, 3, 0), (2, 3, 1), (20, 21, 1), (41, 42, 1), (21, 22, 1000), (42, 43, 1000), (2, 3, 7)] M0 (0) (1) (fun _ _ => True)) (17, [some (.ref 2), some (.int 6), some (.int v17_2), some (.int v17_3), some (.int v17_4), some (.int v17_5)], [], M)) ∧
      (∀ (M : zM) (v52_2 : Int32) (v52_3 : Int32) (u52_4 : Int32) (v52_5 : Int32), zJ N [(2, 3, 0), (2, 3, 1), (20, 21, 1), (41, 42, 1), (21, 22, 1000), (42, 43, 1000), (2, 3, 7)] M0 M → ((-2147483648 : Int) ≤ v52_2.toInt) → (v52_2.toInt ≤ 0) → ((0 : Int) ≤ v52_3.toInt) → (v52_3.toInt ≤ 1600) → ((0 : Int) ≤ v52_5.toInt) → (v52_5.toInt ≤ 1600) → 12832 * (1601 - v52_3.toInt) + 8 * (1601 - v52_5.toInt) + 4 < (n : Int) → ZW X (d + 6) 5 false (some .boolean) cX5_readSum (zRI N [(2, 3, 0), (2, 3, 1), (20, 21, 1), (41, 42, 1), (21, 22, 1000), (42, 43, 1000), (2, 3, 7)] M0 (0) (1) (fun _ _ => True)) (52, [some (.ref 2), some (.int 6), some (.int v52_2), some (.int v52_3), some (.int u52_4), some (.int v52_5)], [], M)) ∧
      (∀ (M : zM) (v95_2 : Int32) (v95_3 : Int32) (u95_4 : Int32) (v95_5 : Int32) (s95_0 : Int32), zJ N [(2, 3, 0), (2, 3, 1), (20, 21, 1), (41, 42, 1), (21, 22, 1000), (42, 43, 1000), (2, 3, 7)] M0 M → ((-2147483648 : Int) ≤ v95_2.toInt) → (v95_2.toInt ≤ 0) → ((0 : Int) ≤ v95_3.toInt) → (v95_3.toInt ≤ 1600) → ((0 : Int) ≤ v95_5.toInt) → (v95_5.toInt ≤ 1600) → ((-11 : Int) ≤ s95_0.toInt) → (s95_0.toInt ≤ 0) → 12832 * (1601 - v95_3.toInt) + 8 * (1601 - v95_5.toInt) + 3 < (n : Int) → ZW X (d + 6) 5 false (some .boolean) cX5_readSum (zRI N [(2, 3, 0), (2, 3, 1), (20, 21, 1), (41, 42, 1), (21, 22, 1000), (42, 43, 1000), (2, 3, 7)] M0 (0) (1) (fun _ _ => True)) (95, [some (.ref 2), some (.int 6), some (.int v95_2), some (.int v95_3), some (.int u95_4), some (.int v95_5)], [.int s95_0], M)) ∧
      (∀ (M : zM) (v115_2 : Int32) (v115_3 : Int32) (u115_4 : Int32) (u115_5 : Int32), zJ N [(2, 3, 0), (2, 3, 1), (20, 21, 1), (41, 42, 1), (21, 22, 1000), (42, 43, 1000), (2, 3, 7)] M0 M → ((-2147483648 : Int) ≤ v115_2.toInt) → (v115_2.toInt ≤ 0) → ((0 : Int) ≤ v115_3.toInt) → (v115_3.toInt ≤ 1600) → 12832 * (1601 - v115_3.toInt) + 2 < (n : Int) → ZW X (d + 6) 5 false (some .boolean) cX5_readSum (zRI N [(2, 3, 0), (2, 3, 1), (20, 21, 1), (41, 42, 1), (21, 22, 1000), (42, 43, 1000), (2, 3, 7)] M0 (0) (1) (fun _ _ => True)) (115, [some (.ref 2), some (.int 6), some (.int v115_2), some (.int v115_3), some (.int u115_4), some (.int u115_5)], [], M)) ∧
      (∀ (M : zM) (u130_2 : Int32) (v130_3 : Int32) (u130_4 : Int32) (u130_5 : Int32), zJ N [(2, 3, 0), (2, 3, 1), (20, 21, 1), (41, 42, 1), (21, 22, 1000), (42, 43, 1000), (2, 3, 7)] M0 M → ((0 : Int) ≤ v130_3.toInt) → (v130_3.toInt ≤ 1600) → 12832 * (1601 - v130_3.toInt) + 1 < (n : Int) → ZW X (d + 6) 5 false (some .boolean) cX5_readSum (zRI N [(2, 3, 0), (2, 3, 1), (20, 21, 1), (41, 42, 1), (21, 22, 1000), (42, 43, 1000), (2, 3, 7)] M0 (0) (1) (fun _ _ => True)) (130, [some (.ref 2), some (.int 6), some (.int u130_2), some (.int v130_3), some (.int u130_4), some (.int u130_5)], [], M)) := by
    intro n
    induction n with
    | zero =>
      exact ⟨(fun M v4_2 v4_3 o4_4 o4_5 hJ v4_20 v4_21 v4_30 v4_31 hn => absurd hn (by omega)), (fun M v17_2 v17_3 v17_4 v17_5 hJ v17_20 v17_21 v17_30 v17_31 v17_40 v17_41 v17_50 v17_51 hn => absurd hn (by omega)), (fun M v52_2 v52_3 u52_4 v52_5 hJ v52_20 v52_21 v52_30 v52_31 v52_50 v52_51 hn => absurd hn (by omega)), (fun M v95_2 v95_3 u95_4 v95_5 s95_0 hJ v95_20 v95_21 v95_30 v95_31 v95_50 v95_51 s95_00 s95_01 hn => absurd hn (by omega)), (fun M v115_2 v115_3 u115_4 u115_5 hJ v115_20 v115_21 v115_30 v115_31 hn => absurd hn (by omega)), (fun M u130_2 v130_3 u130_4 u130_5 hJ v130_30 v130_31 hn => absurd hn (by omega))⟩
    | succ n ih =>
      obtain ⟨ih4, ih17, ih52, ih95, ih115, ih130⟩ := ih
      refine ⟨?_, ?_, ?_, ?_, ?_, ?_⟩
      · intro M v4_2 v4_3 o4_4 o4_5 hJ v4_20 v4_21 v4_30 v4_31 hn
        refine w_lo dX5_readSum_4 rfl rfl rfl rfl ?_
        refine w_si dX5_readSum_5 (c := 1600) (by decide) ?_
        rcases zcut (1600 : Int) v4_3.toInt with h1 | h1
        · skip
          refine w_cgt_t dX5_readSum_8 (t := 177) rfl (by have := zt_1600; omega) ?_
          refine w_ic dX5_readSum_177 zi_1 ?_
          refine w_en dX5_readSum_178 rfl ?_
          exact ⟨_, _, rfl, (by have := zt_1; omega), (by have := zt_1; omega), hJ, trivial⟩
        · skip
          refine w_cgt_f dX5_readSum_8 (t := 177) rfl (by have := zt_1600; omega) ?_
          refine w_ic dX5_readSum_11 zi_0 ?_
          refine w_lo (ml' := [some (.ref 2), some (.int 6), some (.int v4_2), some (.int v4_3), some (.int 0), o4_5]) dX5_readSum_12 rfl rfl rfl rfl ?_
          refine w_ic dX5_readSum_14 zi_0 ?_
          refine w_lo (ml' := [some (.ref 2), some (.int 6), some (.int v4_2), some (.int v4_3), some (.int 0), some (.int 0)]) dX5_readSum_15 rfl rfl rfl rfl ?_
          exact ih17 M v4_2 v4_3 0 0 hJ (zbot _) (by omega) (by omega) (by omega) (by have := zt_0; omega) (by have := zt_0; omega) (by have := zt_0; omega) (by have := zt_0; omega) (by have := zt_6; have := zt_0; omega)
      · intro M v17_2 v17_3 v17_4 v17_5 hJ v17_20 v17_21 v17_30 v17_31 v17_40 v17_41 v17_50 v17_51 hn
        refine w_lo dX5_readSum_17 rfl rfl rfl rfl ?_
        refine w_si dX5_readSum_19 (c := 1600) (by decide) ?_
        rcases zcut (1600 : Int) v17_5.toInt with h2 | h2
        · skip
          refine w_cgt_t dX5_readSum_22 (t := 115) rfl (by have := zt_1600; omega) ?_
          exact ih115 M v17_2 v17_3 v17_4 v17_5 hJ (zbot _) (by omega) (by omega) (by omega) (by have := zt_6; omega)
        · skip
          refine w_cgt_f dX5_readSum_22 (t := 115) rfl (by have := zt_1600; omega) ?_
          refine w_lo dX5_readSum_25 rfl rfl rfl rfl ?_
          refine w_lo dX5_readSum_26 rfl rfl rfl rfl ?_
          refine w_iv dX5_readSum_27 rfl rfl (As := [.int 6]) rfl rfl hJ.1.1 zs_2 (Nat.le_of_ble_eq_true rfl) ?_
          refine ZV.imp (k_1298_c6 hN hJ.1) ?_
          rintro _ ⟨x6, M3, rfl, h7, h8, hJ4, hq5⟩
          have hJ9 := zJ_trans hJ hJ4 (zSub_cons (fun _ _ h h' hk => zIR_e (by omega) (by omega) hk) (zSub_cons (fun _ _ h h' hk => zIR_s (zIR_e (by omega) (by omega) hk)) (zSub_cons (fun _ _ h h' hk => zIR_s (zIR_s (zIR_e (by omega) (by omega) hk))) (zSub_cons (fun _ _ h h' hk => zIR_s (zIR_s (zIR_s (zIR_e (by omega) (by omega) hk)))) (zSub_cons (fun _ _ h h' hk => zIR_s (zIR_s (zIR_s (zIR_s (zIR_a (by omega) (by omega)))))) (zSub_cons (fun _ _ h h' hk => zIR_s (zIR_s (zIR_s (zIR_s (zIR_s (zIR_a (by omega) (by omega))))))) (zSub_cons (fun _ _ h h' hk => zIR_s (zIR_s (zIR_s (zIR_s (zIR_s (zIR_s (zIR_e (by omega) (by omega) hk))))))) zSub_nil)))))))
          show ZW _ _ _ _ _ _ _ (30, [some (.ref 2), some (.int 6), some (.int v17_2), some (.int v17_3), some (.int v17_4), some (.int v17_5)], [.int x6], M3)
          rcases Int.decEq x6.toInt (0 : Int) with h10 | h10
          · skip
            refine w_ine_t dX5_readSum_30 (t := 35) rfl (by omega) ?_
            refine w_lo dX5_readSum_35 rfl rfl rfl rfl ?_
            rcases Int.decEq v17_4.toInt (0 : Int) with h11 | h11
            · skip
              refine w_ieq_f dX5_readSum_37 (t := 52) rfl (by omega) ?_
              refine w_lo dX5_readSum_40 rfl rfl rfl rfl ?_
              obtain ⟨b12, f13, h14⟩ := zd_2_8 hJ9.1
              have h15 := zDm_b h14
              refine w_gf dX5_readSum_41 rfl hJ9.1.1 zs_2 f13 ?_
              refine w_gf dX5_readSum_44 rfl hJ9.1.1 (zs_1_0 h14) (zr_1_0_15 h14 hJ9.1) ?_
              refine w_lo dX5_readSum_47 rfl rfl rfl rfl ?_
              refine w_iv dX5_readSum_49 rfl rfl (As := [.int v17_4]) rfl rfl hJ9.1.1 (zs_1_13 h14) (Nat.le_of_ble_eq_true rfl) ?_
              refine ZV.imp (k_515 (b12 + 13) (zLw_of h14) v17_4 hN hJ9.1) ?_
              rintro _ ⟨M16, rfl, hJ17, hq18⟩
              have hJ19 := zJ_trans hJ9 hJ17 (zSub_cons (fun _ _ h h' hk => ((zDm_or h14).elim (fun e => zIR_s (zIR_s (zIR_e (by omega) (by omega) hk))) (fun e => zIR_s (zIR_s (zIR_s (zIR_e (by omega) (by omega) hk)))))) (zSub_cons (fun _ _ h h' hk => ((zDm_or h14).elim (fun e => zIR_s (zIR_s (zIR_s (zIR_s (zIR_a (by omega) (by omega)))))) (fun e => zIR_s (zIR_s (zIR_s (zIR_s (zIR_s (zIR_a (by omega) (by omega))))))))) zSub_nil))
              show ZW _ _ _ _ _ _ _ (52, [some (.ref 2), some (.int 6), some (.int v17_2), some (.int v17_3), some (.int v17_4), some (.int v17_5)], [], M16)
              exact ih52 M16 v17_2 v17_3 v17_4 v17_5 hJ19 (zbot _) (by omega) (by omega) (by omega) (by omega) (by omega) (by have := zt_6; omega)
            · skip
              refine w_ieq_t dX5_readSum_37 (t := 52) rfl (by omega) ?_
              exact ih52 M3 v17_2 v17_3 v17_4 v17_5 hJ9 (zbot _) (by omega) (by omega) (by omega) (by omega) (by omega) (by have := zt_6; omega)
          · skip
            refine w_ine_f dX5_readSum_30 (t := 35) rfl (by omega) ?_
            refine w_ic dX5_readSum_33 zi_0 ?_
            refine w_en dX5_readSum_34 rfl ?_
            exact ⟨_, _, rfl, (by have := zt_0; omega), (by have := zt_0; omega), hJ9, trivial⟩
      · intro M v52_2 v52_3 u52_4 v52_5 hJ v52_20 v52_21 v52_30 v52_31 v52_50 v52_51 hn
        refine w_lo dX5_readSum_52 rfl rfl rfl rfl ?_
        refine w_bi dX5_readSum_53 (c := 42) (by decide) ?_
        refine w_iv dX5_readSum_55 rfl rfl (As := [.int 42]) rfl rfl hJ.1.1 zs_2 (Nat.le_of_ble_eq_true rfl) ?_
        refine ZV.imp (k_1299 42 (by have := zt_42; omega) (by have := zt_42; omega) hN hJ.1) ?_
        rintro _ ⟨x23, M20, rfl, h24, h25, hJ21, hq22⟩
        have hJ26 := zJ_trans hJ hJ21 zSub_nil
        show ZW _ _ _ _ _ _ _ (58, [some (.ref 2), some (.int 6), some (.int v52_2), some (.int v52_3), some (.int u52_4), some (.int v52_5)], [.int x23], M20)
        rcases Int.decEq x23.toInt (0 : Int) with h27 | h27
        · skip
          refine w_ieq_f dX5_readSum_58 (t := 66) rfl (by omega) ?_
          refine w_bi dX5_readSum_61 (c := (-9)) (by decide) ?_
          refine w_gt dX5_readSum_63 (t := 95) rfl ?_
          exact ih95 M20 v52_2 v52_3 u52_4 v52_5 (-9) hJ26 (zbot _) (by omega) (by omega) (by omega) (by omega) (by omega) (by have := zt_m9; omega) (by have := zt_m9; omega) (by have := zt_6; have := zt_m9; omega)
        · skip
          refine w_ieq_t dX5_readSum_58 (t := 66) rfl (by omega) ?_
          refine w_lo dX5_readSum_66 rfl rfl rfl rfl ?_
          refine w_bi dX5_readSum_67 (c := 47) (by decide) ?_
          refine w_iv dX5_readSum_69 rfl rfl (As := [.int 47]) rfl rfl hJ26.1.1 zs_2 (Nat.le_of_ble_eq_true rfl) ?_
          refine ZV.imp (k_1299 47 (by have := zt_47; omega) (by have := zt_47; omega) hN hJ26.1) ?_
          rintro _ ⟨x31, M28, rfl, h32, h33, hJ29, hq30⟩
          have hJ34 := zJ_trans hJ26 hJ29 zSub_nil
          show ZW _ _ _ _ _ _ _ (72, [some (.ref 2), some (.int 6), some (.int v52_2), some (.int v52_3), some (.int u52_4), some (.int v52_5)], [.int x31], M28)
          rcases Int.decEq x31.toInt (0 : Int) with h35 | h35
          · skip
            refine w_ieq_f dX5_readSum_72 (t := 80) rfl (by omega) ?_
            refine w_bi dX5_readSum_75 (c := (-10)) (by decide) ?_
            refine w_gt dX5_readSum_77 (t := 95) rfl ?_
            exact ih95 M28 v52_2 v52_3 u52_4 v52_5 (-10) hJ34 (zbot _) (by omega) (by omega) (by omega) (by omega) (by omega) (by have := zt_m10; omega) (by have := zt_m10; omega) (by have := zt_6; have := zt_m10; omega)
          · skip
            refine w_ieq_t dX5_readSum_72 (t := 80) rfl (by omega) ?_
            refine w_lo dX5_readSum_80 rfl rfl rfl rfl ?_
            refine w_bi dX5_readSum_81 (c := 37) (by decide) ?_
            refine w_iv dX5_readSum_83 rfl rfl (As := [.int 37]) rfl rfl hJ34.1.1 zs_2 (Nat.le_of_ble_eq_true rfl) ?_
            refine ZV.imp (k_1299 37 (by have := zt_37; omega) (by have := zt_37; omega) hN hJ34.1) ?_
            rintro _ ⟨x39, M36, rfl, h40, h41, hJ37, hq38⟩
            have hJ42 := zJ_trans hJ34 hJ37 zSub_nil
            show ZW _ _ _ _ _ _ _ (86, [some (.ref 2), some (.int 6), some (.int v52_2), some (.int v52_3), some (.int u52_4), some (.int v52_5)], [.int x39], M36)
            rcases Int.decEq x39.toInt (0 : Int) with h43 | h43
            · skip
              refine w_ieq_f dX5_readSum_86 (t := 94) rfl (by omega) ?_
              refine w_bi dX5_readSum_89 (c := (-11)) (by decide) ?_
              refine w_gt dX5_readSum_91 (t := 95) rfl ?_
              exact ih95 M36 v52_2 v52_3 u52_4 v52_5 (-11) hJ42 (zbot _) (by omega) (by omega) (by omega) (by omega) (by omega) (by have := zt_m11; omega) (by have := zt_m11; omega) (by have := zt_6; have := zt_m11; omega)
            · skip
              refine w_ieq_t dX5_readSum_86 (t := 94) rfl (by omega) ?_
              refine w_ic dX5_readSum_94 zi_0 ?_
              exact ih95 M36 v52_2 v52_3 u52_4 v52_5 0 hJ42 (zbot _) (by omega) (by omega) (by omega) (by omega) (by omega) (by have := zt_0; omega) (by have := zt_0; omega) (by have := zt_6; have := zt_0; omega)
      · intro M v95_2 v95_3 u95_4 v95_5 s95_0 hJ v95_20 v95_21 v95_30 v95_31 v95_50 v95_51 s95_00 s95_01 hn
        refine w_lo (ml' := [some (.ref 2), some (.int 6), some (.int v95_2), some (.int v95_3), some (.int s95_0), some (.int v95_5)]) dX5_readSum_95 rfl rfl rfl rfl ?_
        refine w_lo dX5_readSum_97 rfl rfl rfl rfl ?_
        rcases Int.decEq s95_0.toInt (0 : Int) with h44 | h44
        · skip
          refine w_ine_t dX5_readSum_99 (t := 105) rfl (by omega) ?_
          refine w_lo dX5_readSum_105 rfl rfl rfl rfl ?_
          refine w_iv dX5_readSum_106 rfl rfl (As := []) rfl rfl hJ.1.1 zs_2 (Nat.le_of_ble_eq_true rfl) ?_
          refine ZV.imp (k_1289 hN hJ.1) ?_
          rintro _ ⟨M45, rfl, hJ46, hq47⟩
          have hJ48 := zJ_trans hJ hJ46 (zSub_cons (fun _ _ h h' hk => zIR_s (zIR_s (zIR_s (zIR_s (zIR_s (zIR_s (zIR_e (by omega) (by omega) hk))))))) zSub_nil)
          show ZW _ _ _ _ _ _ _ (109, [some (.ref 2), some (.int 6), some (.int v95_2), some (.int v95_3), some (.int s95_0), some (.int v95_5)], [], M45)
          refine w_inc (kk := 5) dX5_readSum_109 rfl (m := 1) (by decide) (by omega) ?_
          intro x49 h50
          refine ⟨_, rfl, ?_⟩
          show ZW _ _ _ _ _ _ _ (112, [some (.ref 2), some (.int 6), some (.int v95_2), some (.int v95_3), some (.int s95_0), some (.int x49)], [], M45)
          refine w_gt dX5_readSum_112 (t := 17) rfl ?_
          exact ih17 M45 v95_2 v95_3 s95_0 x49 hJ48 (zbot _) (by omega) (by omega) (by omega) (by omega) (by omega) (by omega) (by omega) (by have := zt_6; omega)
        · skip
          refine w_ine_f dX5_readSum_99 (t := 105) rfl (by omega) ?_
          refine w_gt dX5_readSum_102 (t := 115) rfl ?_
          exact ih115 M v95_2 v95_3 s95_0 v95_5 hJ (zbot _) (by omega) (by omega) (by omega) (by have := zt_6; omega)
      · intro M v115_2 v115_3 u115_4 u115_5 hJ v115_20 v115_21 v115_30 v115_31 hn
        refine w_lo dX5_readSum_115 rfl rfl rfl rfl ?_
        rcases Int.decEq v115_2.toInt (0 : Int) with h51 | h51
        · skip
          refine w_ieq_f dX5_readSum_116 (t := 130) rfl (by omega) ?_
          refine w_lo dX5_readSum_119 rfl rfl rfl rfl ?_
          obtain ⟨b52, f53, h54⟩ := zd_2_8 hJ.1
          have h55 := zDm_b h54
          refine w_gf dX5_readSum_120 rfl hJ.1.1 zs_2 f53 ?_
          refine w_gf dX5_readSum_123 rfl hJ.1.1 (zs_1_0 h54) (zr_1_0_15 h54 hJ.1) ?_
          refine w_lo dX5_readSum_126 rfl rfl rfl rfl ?_
          refine w_iv dX5_readSum_127 rfl rfl (As := [.int v115_2]) rfl rfl hJ.1.1 (zs_1_13 h54) (Nat.le_of_ble_eq_true rfl) ?_
          refine ZV.imp (k_515 (b52 + 13) (zLw_of h54) v115_2 hN hJ.1) ?_
          rintro _ ⟨M56, rfl, hJ57, hq58⟩
          have hJ59 := zJ_trans hJ hJ57 (zSub_cons (fun _ _ h h' hk => ((zDm_or h54).elim (fun e => zIR_s (zIR_s (zIR_e (by omega) (by omega) hk))) (fun e => zIR_s (zIR_s (zIR_s (zIR_e (by omega) (by omega) hk)))))) (zSub_cons (fun _ _ h h' hk => ((zDm_or h54).elim (fun e => zIR_s (zIR_s (zIR_s (zIR_s (zIR_a (by omega) (by omega)))))) (fun e => zIR_s (zIR_s (zIR_s (zIR_s (zIR_s (zIR_a (by omega) (by omega))))))))) zSub_nil))
          show ZW _ _ _ _ _ _ _ (130, [some (.ref 2), some (.int 6), some (.int v115_2), some (.int v115_3), some (.int u115_4), some (.int u115_5)], [], M56)
          exact ih130 M56 v115_2 v115_3 u115_4 u115_5 hJ59 (by omega) (by omega) (by have := zt_6; omega)
        · skip
          refine w_ieq_t dX5_readSum_116 (t := 130) rfl (by omega) ?_
          exact ih130 M v115_2 v115_3 u115_4 u115_5 hJ (by omega) (by omega) (by have := zt_6; omega)
      · intro M u130_2 v130_3 u130_4 u130_5 hJ v130_30 v130_31 hn
        refine w_lo dX5_readSum_130 rfl rfl rfl rfl ?_
        refine w_bi dX5_readSum_131 (c := 43) (by decide) ?_
        refine w_iv dX5_readSum_133 rfl rfl (As := [.int 43]) rfl rfl hJ.1.1 zs_2 (Nat.le_of_ble_eq_true rfl) ?_
        refine ZV.imp (k_1299 43 (by have := zt_43; omega) (by have := zt_43; omega) hN hJ.1) ?_
        rintro _ ⟨x63, M60, rfl, h64, h65, hJ61, hq62⟩
        have hJ66 := zJ_trans hJ hJ61 zSub_nil
        show ZW _ _ _ _ _ _ _ (136, [some (.ref 2), some (.int 6), some (.int u130_2), some (.int v130_3), some (.int u130_4), some (.int u130_5)], [.int x63], M60)
        rcases Int.decEq x63.toInt (0 : Int) with h67 | h67
        · skip
          refine w_ieq_f dX5_readSum_136 (t := 144) rfl (by omega) ?_
          refine w_bi dX5_readSum_139 (c := (-12)) (by decide) ?_
          refine w_gt dX5_readSum_141 (t := 159) rfl ?_
          refine w_lo (ml' := [some (.ref 2), some (.int 6), some (.int (-12)), some (.int v130_3), some (.int u130_4), some (.int u130_5)]) dX5_readSum_159 rfl rfl rfl rfl ?_
          refine w_lo dX5_readSum_160 rfl rfl rfl rfl ?_
          refine w_ine_t dX5_readSum_161 (t := 167) rfl (by have := zt_m12; omega) ?_
          refine w_lo dX5_readSum_167 rfl rfl rfl rfl ?_
          refine w_iv dX5_readSum_168 rfl rfl (As := []) rfl rfl hJ66.1.1 zs_2 (Nat.le_of_ble_eq_true rfl) ?_
          refine ZV.imp (k_1289 hN hJ66.1) ?_
          rintro _ ⟨M68, rfl, hJ69, hq70⟩
          have hJ71 := zJ_trans hJ66 hJ69 (zSub_cons (fun _ _ h h' hk => zIR_s (zIR_s (zIR_s (zIR_s (zIR_s (zIR_s (zIR_e (by omega) (by omega) hk))))))) zSub_nil)
          show ZW _ _ _ _ _ _ _ (171, [some (.ref 2), some (.int 6), some (.int (-12)), some (.int v130_3), some (.int u130_4), some (.int u130_5)], [], M68)
          refine w_inc (kk := 3) dX5_readSum_171 rfl (m := 1) (by decide) (by omega) ?_
          intro x72 h73
          refine ⟨_, rfl, ?_⟩
          show ZW _ _ _ _ _ _ _ (174, [some (.ref 2), some (.int 6), some (.int (-12)), some (.int x72), some (.int u130_4), some (.int u130_5)], [], M68)
          refine w_gt dX5_readSum_174 (t := 4) rfl ?_
          exact ih4 M68 (-12) x72 (some (.int u130_4)) (some (.int u130_5)) hJ71 (by have := zt_m12; omega) (by have := zt_m12; omega) (by omega) (by omega) (by have := zt_6; have := zt_m12; omega)
        · skip
          refine w_ieq_t dX5_readSum_136 (t := 144) rfl (by omega) ?_
          refine w_lo dX5_readSum_144 rfl rfl rfl rfl ?_
          refine w_bi dX5_readSum_145 (c := 45) (by decide) ?_
          refine w_iv dX5_readSum_147 rfl rfl (As := [.int 45]) rfl rfl hJ66.1.1 zs_2 (Nat.le_of_ble_eq_true rfl) ?_
          refine ZV.imp (k_1299 45 (by have := zt_45; omega) (by have := zt_45; omega) hN hJ66.1) ?_
          rintro _ ⟨x77, M74, rfl, h78, h79, hJ75, hq76⟩
          have hJ80 := zJ_trans hJ66 hJ75 zSub_nil
          show ZW _ _ _ _ _ _ _ (150, [some (.ref 2), some (.int 6), some (.int u130_2), some (.int v130_3), some (.int u130_4), some (.int u130_5)], [.int x77], M74)
          rcases Int.decEq x77.toInt (0 : Int) with h81 | h81
          · skip
            refine w_ieq_f dX5_readSum_150 (t := 158) rfl (by omega) ?_
            refine w_bi dX5_readSum_153 (c := (-13)) (by decide) ?_
            refine w_gt dX5_readSum_155 (t := 159) rfl ?_
            refine w_lo (ml' := [some (.ref 2), some (.int 6), some (.int (-13)), some (.int v130_3), some (.int u130_4), some (.int u130_5)]) dX5_readSum_159 rfl rfl rfl rfl ?_
            refine w_lo dX5_readSum_160 rfl rfl rfl rfl ?_
            refine w_ine_t dX5_readSum_161 (t := 167) rfl (by have := zt_m13; omega) ?_
            refine w_lo dX5_readSum_167 rfl rfl rfl rfl ?_
            refine w_iv dX5_readSum_168 rfl rfl (As := []) rfl rfl hJ80.1.1 zs_2 (Nat.le_of_ble_eq_true rfl) ?_
            refine ZV.imp (k_1289 hN hJ80.1) ?_
            rintro _ ⟨M82, rfl, hJ83, hq84⟩
            have hJ85 := zJ_trans hJ80 hJ83 (zSub_cons (fun _ _ h h' hk => zIR_s (zIR_s (zIR_s (zIR_s (zIR_s (zIR_s (zIR_e (by omega) (by omega) hk))))))) zSub_nil)
            show ZW _ _ _ _ _ _ _ (171, [some (.ref 2), some (.int 6), some (.int (-13)), some (.int v130_3), some (.int u130_4), some (.int u130_5)], [], M82)
            refine w_inc (kk := 3) dX5_readSum_171 rfl (m := 1) (by decide) (by omega) ?_
            intro x86 h87
            refine ⟨_, rfl, ?_⟩
            show ZW _ _ _ _ _ _ _ (174, [some (.ref 2), some (.int 6), some (.int (-13)), some (.int x86), some (.int u130_4), some (.int u130_5)], [], M82)
            refine w_gt dX5_readSum_174 (t := 4) rfl ?_
            exact ih4 M82 (-13) x86 (some (.int u130_4)) (some (.int u130_5)) hJ85 (by have := zt_m13; omega) (by have := zt_m13; omega) (by omega) (by omega) (by have := zt_6; have := zt_m13; omega)
          · skip
            refine w_ieq_t dX5_readSum_150 (t := 158) rfl (by omega) ?_
            refine w_ic dX5_readSum_158 zi_0 ?_
            refine w_lo (ml' := [some (.ref 2), some (.int 6), some (.int 0), some (.int v130_3), some (.int u130_4), some (.int u130_5)]) dX5_readSum_159 rfl rfl rfl rfl ?_
            refine w_lo dX5_readSum_160 rfl rfl rfl rfl ?_
            refine w_ine_f dX5_readSum_161 (t := 167) rfl (by have := zt_0; omega) ?_
            refine w_gt dX5_readSum_164 (t := 177) rfl ?_
            refine w_ic dX5_readSum_177 zi_1 ?_
            refine w_en dX5_readSum_178 rfl ?_
            exact ⟨_, _, rfl, (by have := zt_1; omega), (by have := zt_1; omega), hJ80, trivial⟩
  obtain ⟨ih4, ih17, ih52, ih95, ih115, ih130⟩ := main 20582531
  show ZW _ _ _ _ _ _ _ (0, [some (.ref 2), some (.int 6), none, none, none, none], [], M0)
  refine w_ic dX5_readSum_0 zi_0 ?_
  refine w_lo (ml' := [some (.ref 2), some (.int 6), some (.int 0), none, none, none]) dX5_readSum_1 rfl rfl rfl rfl ?_
  refine w_ic dX5_readSum_2 zi_0 ?_
  refine w_lo (ml' := [some (.ref 2), some (.int 6), some (.int 0), some (.int 0), none, none]) dX5_readSum_3 rfl rfl rfl rfl ?_
  exact ih4 M0 0 0 none none hJ0 (by have := zt_0; omega) (by have := zt_0; omega) (by have := zt_0; omega) (by have := zt_0; omega) (by have := zt_6; have := zt_0; omega)
set_option maxRecDepth 100000 in
theorem k_1298_c5 {X : List Int32} {d N : Nat} {M0 : zM}  (hN : N ≤ 600) (hB0 : zB N M0) : ZV X (d + 8) 1298 [.ref 2, .int 5] M0 (zRI N [(2, 3, 0), (2, 3, 1), (20, 21, 1), (41, 42, 1), (21, 22, 1000), (42, 43, 1000), (2, 3, 7)] M0 (0) (1) (fun _ _ => True)) := by
  have hJ0 : zJ N [(2, 3, 0), (2, 3, 1), (20, 21, 1), (41, 42, 1), (21, 22, 1000), (42, 43, 1000), (2, 3, 7)] M0 M0 := zJ_refl hB0
  refine ZV.of (ini := false) rfl (Nat.le_of_ble_eq_true rfl) (by decide +kernel) ?_
  have main : ∀ n : Nat,
      (∀ (M : zM) (v73_2 : Int32) (o73_3 : Option Value), zJ N [(2, 3, 0), (2, 3, 1), (20, 21, 1), (41, 42, 1), (21, 22, 1000), (42, 43, 1000), (2, 3, 7)] M0 M → ((-1 : Int) ≤ v73_2.toInt) → (v73_2.toInt ≤ 26) → 3 < (n : Int) → ZW X (d + 7) 5 false (some .boolean) cX5_readPart (zRI N [(2, 3, 0), (2, 3, 1), (20, 21, 1), (41, 42, 1), (21, 22, 1000), (42, 43, 1000), (2, 3, 7)] M0 (0) (1) (fun _ _ => True)) (73, [some (.ref 2), some (.int 5), some (.int v73_2), o73_3], [], M)) ∧
      (∀ (M : zM) (v85_2 : Int32) (o85_3 : Option Value), zJ N [(2, 3, 0), (2, 3, 1), (20, 21, 1), (41, 42, 1), (21, 22, 1000), (42, 43, 1000), (2, 3, 7)] M0 M → ((25 : Int) ≤ v85_2.toInt) → (v85_2.toInt ≤ 26) → 2 < (n : Int) → ZW X (d + 7) 5 false (some .boolean) cX5_readPart (zRI N [(2, 3, 0), (2, 3, 1), (20, 21, 1), (41, 42, 1), (21, 22, 1000), (42, 43, 1000), (2, 3, 7)] M0 (0) (1) (fun _ _ => True)) (85, [some (.ref 2), some (.int 5), some (.int v85_2), o85_3], [], M)) ∧
      (∀ (M : zM) (v99_2 : Int32) (v99_3 : Int32), zJ N [(2, 3, 0), (2, 3, 1), (20, 21, 1), (41, 42, 1), (21, 22, 1000), (42, 43, 1000), (2, 3, 7)] M0 M → ((-1 : Int) ≤ v99_2.toInt) → (v99_2.toInt ≤ 26) → ((0 : Int) ≤ v99_3.toInt) → (v99_3.toInt ≤ 1) → 1 < (n : Int) → ZW X (d + 7) 5 false (some .boolean) cX5_readPart (zRI N [(2, 3, 0), (2, 3, 1), (20, 21, 1), (41, 42, 1), (21, 22, 1000), (42, 43, 1000), (2, 3, 7)] M0 (0) (1) (fun _ _ => True)) (99, [some (.ref 2), some (.int 5), some (.int v99_2), some (.int v99_3)], [], M)) := by
    intro n
    induction n with
    | zero =>
      exact ⟨(fun M v73_2 o73_3 hJ v73_20 v73_21 hn => absurd hn (by omega)), (fun M v85_2 o85_3 hJ v85_20 v85_21 hn => absurd hn (by omega)), (fun M v99_2 v99_3 hJ v99_20 v99_21 v99_30 v99_31 hn => absurd hn (by omega))⟩
    | succ n ih =>
      obtain ⟨ih73, ih85, ih99⟩ := ih
      refine ⟨?_, ?_, ?_⟩
      · intro M v73_2 o73_3 hJ v73_20 v73_21 hn
        refine w_lo dX5_readPart_73 rfl rfl rfl rfl ?_
        refine w_bi dX5_readPart_74 (c := 25) (by decide) ?_
        rcases Int.decEq v73_2.toInt (25 : Int) with h1 | h1
        · skip
          refine w_ceq_f dX5_readPart_76 (t := 85) rfl (by have := zt_25; omega) ?_
          refine w_lo dX5_readPart_79 rfl rfl rfl rfl ?_
          refine w_bi dX5_readPart_80 (c := 26) (by decide) ?_
          rcases Int.decEq v73_2.toInt (26 : Int) with h2 | h2
          · skip
            refine w_cne_t dX5_readPart_82 (t := 89) rfl (by have := zt_26; omega) ?_
            refine w_ic dX5_readPart_89 zi_0 ?_
            refine w_lo (ml' := [some (.ref 2), some (.int 5), some (.int v73_2), some (.int 0)]) dX5_readPart_90 rfl rfl rfl rfl ?_
            refine w_lo dX5_readPart_91 rfl rfl rfl rfl ?_
            refine w_ieq_t dX5_readPart_92 (t := 99) rfl (by have := zt_0; omega) ?_
            exact ih99 M v73_2 0 hJ (by omega) (by omega) (by have := zt_0; omega) (by have := zt_0; omega) (by have := zt_5; have := zt_0; omega)
          · skip
            refine w_cne_f dX5_readPart_82 (t := 89) rfl (by have := zt_26; omega) ?_
            exact ih85 M v73_2 o73_3 hJ (by omega) (by omega) (by have := zt_5; omega)
        · skip
          refine w_ceq_t dX5_readPart_76 (t := 85) rfl (by have := zt_25; omega) ?_
          exact ih85 M v73_2 o73_3 hJ (by omega) (by omega) (by have := zt_5; omega)
      · intro M v85_2 o85_3 hJ v85_20 v85_21 hn
        refine w_ic dX5_readPart_85 zi_1 ?_
        refine w_gt dX5_readPart_86 (t := 90) rfl ?_
        refine w_lo (ml' := [some (.ref 2), some (.int 5), some (.int v85_2), some (.int 1)]) dX5_readPart_90 rfl rfl rfl rfl ?_
        refine w_lo dX5_readPart_91 rfl rfl rfl rfl ?_
        refine w_ieq_f dX5_readPart_92 (t := 99) rfl (by have := zt_1; omega) ?_
        refine w_lo dX5_readPart_95 rfl rfl rfl rfl ?_
        refine w_iv dX5_readPart_96 rfl rfl (As := []) rfl rfl hJ.1.1 zs_2 (Nat.le_of_ble_eq_true rfl) ?_
        refine ZV.imp (k_1289 hN hJ.1) ?_
        rintro _ ⟨M3, rfl, hJ4, hq5⟩
        have hJ6 := zJ_trans hJ hJ4 (zSub_cons (fun _ _ h h' hk => zIR_s (zIR_s (zIR_s (zIR_s (zIR_s (zIR_s (zIR_e (by omega) (by omega) hk))))))) zSub_nil)
        show ZW _ _ _ _ _ _ _ (99, [some (.ref 2), some (.int 5), some (.int v85_2), some (.int 1)], [], M3)
        exact ih99 M3 v85_2 1 hJ6 (by omega) (by omega) (by have := zt_1; omega) (by have := zt_1; omega) (by have := zt_5; have := zt_1; omega)
      · intro M v99_2 v99_3 hJ v99_20 v99_21 v99_30 v99_31 hn
        refine w_lo dX5_readPart_99 rfl rfl rfl rfl ?_
        refine w_bi dX5_readPart_100 (c := 40) (by decide) ?_
        refine w_iv dX5_readPart_102 rfl rfl (As := [.int 40]) rfl rfl hJ.1.1 zs_2 (Nat.le_of_ble_eq_true rfl) ?_
        refine ZV.imp (k_1299 40 (by have := zt_40; omega) (by have := zt_40; omega) hN hJ.1) ?_
        rintro _ ⟨x10, M7, rfl, h11, h12, hJ8, hq9⟩
        have hJ13 := zJ_trans hJ hJ8 zSub_nil
        show ZW _ _ _ _ _ _ _ (105, [some (.ref 2), some (.int 5), some (.int v99_2), some (.int v99_3)], [.int x10], M7)
        rcases Int.decEq x10.toInt (0 : Int) with h14 | h14
        · skip
          refine w_ine_t dX5_readPart_105 (t := 114) rfl (by omega) ?_
          refine w_lo dX5_readPart_114 rfl rfl rfl rfl ?_
          refine w_bi dX5_readPart_115 (c := 8) (by decide) ?_
          refine w_clt_t dX5_readPart_117 (t := 126) rfl (by have := zt_5; have := zt_8; omega) ?_
          refine w_lo dX5_readPart_126 rfl rfl rfl rfl ?_
          refine w_iv dX5_readPart_127 rfl rfl (As := []) rfl rfl hJ13.1.1 zs_2 (Nat.le_of_ble_eq_true rfl) ?_
          refine ZV.imp (k_1289 hN hJ13.1) ?_
          rintro _ ⟨M15, rfl, hJ16, hq17⟩
          have hJ18 := zJ_trans hJ13 hJ16 (zSub_cons (fun _ _ h h' hk => zIR_s (zIR_s (zIR_s (zIR_s (zIR_s (zIR_s (zIR_e (by omega) (by omega) hk))))))) zSub_nil)
          show ZW _ _ _ _ _ _ _ (130, [some (.ref 2), some (.int 5), some (.int v99_2), some (.int v99_3)], [], M15)
          refine w_lo dX5_readPart_130 rfl rfl rfl rfl ?_
          refine w_lo dX5_readPart_131 rfl rfl rfl rfl ?_
          refine w_ic dX5_readPart_132 zi_1 ?_
          refine w_pu (st' := [.int 6, .ref 2]) dX5_readPart_133 rfl rfl ?_
          refine w_iv dX5_readPart_134 rfl rfl (As := [.int 6]) rfl rfl hJ18.1.1 zs_2 (Nat.le_of_ble_eq_true rfl) ?_
          refine ZV.imp (k_1297_c6 hN hJ18.1) ?_
          rintro _ ⟨x22, M19, rfl, h23, h24, hJ20, hq21⟩
          have hJ25 := zJ_trans hJ18 hJ20 (zSub_cons (fun _ _ h h' hk => zIR_e (by omega) (by omega) hk) (zSub_cons (fun _ _ h h' hk => zIR_s (zIR_e (by omega) (by omega) hk)) (zSub_cons (fun _ _ h h' hk => zIR_s (zIR_s (zIR_e (by omega) (by omega) hk))) (zSub_cons (fun _ _ h h' hk => zIR_s (zIR_s (zIR_s (zIR_e (by omega) (by omega) hk)))) (zSub_cons (fun _ _ h h' hk => zIR_s (zIR_s (zIR_s (zIR_s (zIR_a (by omega) (by omega)))))) (zSub_cons (fun _ _ h h' hk => zIR_s (zIR_s (zIR_s (zIR_s (zIR_s (zIR_a (by omega) (by omega))))))) (zSub_cons (fun _ _ h h' hk => zIR_s (zIR_s (zIR_s (zIR_s (zIR_s (zIR_s (zIR_e (by omega) (by omega) hk))))))) zSub_nil)))))))
          show ZW _ _ _ _ _ _ _ (137, [some (.ref 2), some (.int 5), some (.int v99_2), some (.int v99_3)], [.int x22], M19)
          rcases Int.decEq x22.toInt (0 : Int) with h26 | h26
          · skip
            refine w_ine_t dX5_readPart_137 (t := 142) rfl (by omega) ?_
            refine w_lo dX5_readPart_142 rfl rfl rfl rfl ?_
            rcases Int.decEq v99_3.toInt (0 : Int) with h27 | h27
            · skip
              refine w_ieq_f dX5_readPart_143 (t := 200) rfl (by omega) ?_
              refine w_lo dX5_readPart_146 rfl rfl rfl rfl ?_
              refine w_bi dX5_readPart_147 (c := 44) (by decide) ?_
              refine w_iv dX5_readPart_149 rfl rfl (As := [.int 44]) rfl rfl hJ25.1.1 zs_2 (Nat.le_of_ble_eq_true rfl) ?_
              refine ZV.imp (k_1299 44 (by have := zt_44; omega) (by have := zt_44; omega) hN hJ25.1) ?_
              rintro _ ⟨x31, M28, rfl, h32, h33, hJ29, hq30⟩
              have hJ34 := zJ_trans hJ25 hJ29 zSub_nil
              show ZW _ _ _ _ _ _ _ (152, [some (.ref 2), some (.int 5), some (.int v99_2), some (.int v99_3)], [.int x31], M28)
              rcases Int.decEq x31.toInt (0 : Int) with h35 | h35
              · skip
                refine w_ine_t dX5_readPart_152 (t := 161) rfl (by omega) ?_
                refine w_lo dX5_readPart_161 rfl rfl rfl rfl ?_
                refine w_iv dX5_readPart_162 rfl rfl (As := []) rfl rfl hJ34.1.1 zs_2 (Nat.le_of_ble_eq_true rfl) ?_
                refine ZV.imp (k_1289 hN hJ34.1) ?_
                rintro _ ⟨M36, rfl, hJ37, hq38⟩
                have hJ39 := zJ_trans hJ34 hJ37 (zSub_cons (fun _ _ h h' hk => zIR_s (zIR_s (zIR_s (zIR_s (zIR_s (zIR_s (zIR_e (by omega) (by omega) hk))))))) zSub_nil)
                show ZW _ _ _ _ _ _ _ (165, [some (.ref 2), some (.int 5), some (.int v99_2), some (.int v99_3)], [], M36)
                refine w_lo dX5_readPart_165 rfl rfl rfl rfl ?_
                refine w_lo dX5_readPart_166 rfl rfl rfl rfl ?_
                refine w_ic dX5_readPart_167 zi_1 ?_
                refine w_pu (st' := [.int 6, .ref 2]) dX5_readPart_168 rfl rfl ?_
                refine w_iv dX5_readPart_169 rfl rfl (As := [.int 6]) rfl rfl hJ39.1.1 zs_2 (Nat.le_of_ble_eq_true rfl) ?_
                refine ZV.imp (k_1297_c6 hN hJ39.1) ?_
                rintro _ ⟨x43, M40, rfl, h44, h45, hJ41, hq42⟩
                have hJ46 := zJ_trans hJ39 hJ41 (zSub_cons (fun _ _ h h' hk => zIR_e (by omega) (by omega) hk) (zSub_cons (fun _ _ h h' hk => zIR_s (zIR_e (by omega) (by omega) hk)) (zSub_cons (fun _ _ h h' hk => zIR_s (zIR_s (zIR_e (by omega) (by omega) hk))) (zSub_cons (fun _ _ h h' hk => zIR_s (zIR_s (zIR_s (zIR_e (by omega) (by omega) hk)))) (zSub_cons (fun _ _ h h' hk => zIR_s (zIR_s (zIR_s (zIR_s (zIR_a (by omega) (by omega)))))) (zSub_cons (fun _ _ h h' hk => zIR_s (zIR_s (zIR_s (zIR_s (zIR_s (zIR_a (by omega) (by omega))))))) (zSub_cons (fun _ _ h h' hk => zIR_s (zIR_s (zIR_s (zIR_s (zIR_s (zIR_s (zIR_e (by omega) (by omega) hk))))))) zSub_nil)))))))
                show ZW _ _ _ _ _ _ _ (172, [some (.ref 2), some (.int 5), some (.int v99_2), some (.int v99_3)], [.int x43], M40)
                rcases Int.decEq x43.toInt (0 : Int) with h47 | h47
                · skip
                  refine w_ine_t dX5_readPart_172 (t := 177) rfl (by omega) ?_
                  refine w_lo dX5_readPart_177 rfl rfl rfl rfl ?_
                  obtain ⟨b48, f49, h50⟩ := zd_2_8 hJ46.1
                  have h51 := zDm_b h50
                  refine w_gf dX5_readPart_178 rfl hJ46.1.1 zs_2 f49 ?_
                  refine w_gf dX5_readPart_181 rfl hJ46.1.1 (zs_1_0 h50) (zr_1_0_15 h50 hJ46.1) ?_
                  refine w_lo dX5_readPart_184 rfl rfl rfl rfl ?_
                  refine w_bi dX5_readPart_185 (c := 25) (by decide) ?_
                  rcases Int.decEq v99_2.toInt (25 : Int) with h52 | h52
                  · skip
                    refine w_cne_t dX5_readPart_187 (t := 195) rfl (by have := zt_25; omega) ?_
                    refine w_bi dX5_readPart_195 (c := (-20)) (by decide) ?_
                    refine w_iv dX5_readPart_197 rfl rfl (As := [.int (-20)]) rfl rfl hJ46.1.1 (zs_1_13 h50) (Nat.le_of_ble_eq_true rfl) ?_
                    refine ZV.imp (k_515 (b48 + 13) (zLw_of h50) (-20) hN hJ46.1) ?_
                    rintro _ ⟨M53, rfl, hJ54, hq55⟩
                    have hJ56 := zJ_trans hJ46 hJ54 (zSub_cons (fun _ _ h h' hk => ((zDm_or h50).elim (fun e => zIR_s (zIR_s (zIR_e (by omega) (by omega) hk))) (fun e => zIR_s (zIR_s (zIR_s (zIR_e (by omega) (by omega) hk)))))) (zSub_cons (fun _ _ h h' hk => ((zDm_or h50).elim (fun e => zIR_s (zIR_s (zIR_s (zIR_s (zIR_a (by omega) (by omega)))))) (fun e => zIR_s (zIR_s (zIR_s (zIR_s (zIR_s (zIR_a (by omega) (by omega))))))))) zSub_nil))
                    show ZW _ _ _ _ _ _ _ (200, [some (.ref 2), some (.int 5), some (.int v99_2), some (.int v99_3)], [], M53)
                    refine w_lo dX5_readPart_200 rfl rfl rfl rfl ?_
                    refine w_bi dX5_readPart_201 (c := 41) (by decide) ?_
                    refine w_iv dX5_readPart_203 rfl rfl (As := [.int 41]) rfl rfl hJ56.1.1 zs_2 (Nat.le_of_ble_eq_true rfl) ?_
                    refine ZV.imp (k_1299 41 (by have := zt_41; omega) (by have := zt_41; omega) hN hJ56.1) ?_
                    rintro _ ⟨x60, M57, rfl, h61, h62, hJ58, hq59⟩
                    have hJ63 := zJ_trans hJ56 hJ58 zSub_nil
                    show ZW _ _ _ _ _ _ _ (206, [some (.ref 2), some (.int 5), some (.int v99_2), some (.int v99_3)], [.int x60], M57)
                    rcases Int.decEq x60.toInt (0 : Int) with h64 | h64
                    · skip
                      refine w_ine_t dX5_readPart_206 (t := 215) rfl (by omega) ?_
                      refine w_lo dX5_readPart_215 rfl rfl rfl rfl ?_
                      refine w_iv dX5_readPart_216 rfl rfl (As := []) rfl rfl hJ63.1.1 zs_2 (Nat.le_of_ble_eq_true rfl) ?_
                      refine ZV.imp (k_1289 hN hJ63.1) ?_
                      rintro _ ⟨M65, rfl, hJ66, hq67⟩
                      have hJ68 := zJ_trans hJ63 hJ66 (zSub_cons (fun _ _ h h' hk => zIR_s (zIR_s (zIR_s (zIR_s (zIR_s (zIR_s (zIR_e (by omega) (by omega) hk))))))) zSub_nil)
                      show ZW _ _ _ _ _ _ _ (219, [some (.ref 2), some (.int 5), some (.int v99_2), some (.int v99_3)], [], M65)
                      refine w_ic dX5_readPart_219 zi_1 ?_
                      refine w_en dX5_readPart_220 rfl ?_
                      exact ⟨_, _, rfl, (by have := zt_1; omega), (by have := zt_1; omega), hJ68, trivial⟩
                    · skip
                      refine w_ine_f dX5_readPart_206 (t := 215) rfl (by omega) ?_
                      refine w_lo dX5_readPart_209 rfl rfl rfl rfl ?_
                      refine w_ic dX5_readPart_210 zi_1 ?_
                      refine w_iv dX5_readPart_211 rfl rfl (As := [.int 1]) rfl rfl hJ63.1.1 zs_2 (Nat.le_of_ble_eq_true rfl) ?_
                      refine ZV.imp (k_1286 1 (by have := zt_1; omega) (by have := zt_1; omega) hN hJ63.1) ?_
                      rintro _ ⟨x72, M69, rfl, h73, h74, hJ70, hq71⟩
                      have hJ75 := zJ_trans hJ63 hJ70 (zSub_cons (fun _ _ h h' hk => zIR_e (by omega) (by omega) hk) (zSub_cons (fun _ _ h h' hk => zIR_s (zIR_e (by omega) (by omega) hk)) zSub_nil))
                      show ZW _ _ _ _ _ _ _ (214, [some (.ref 2), some (.int 5), some (.int v99_2), some (.int v99_3)], [.int x72], M69)
                      refine w_eni dX5_readPart_214 rfl (znb (by omega) (by omega)) ?_
                      exact ⟨_, _, rfl, (by omega), (by omega), hJ75, trivial⟩
                  · skip
                    refine w_cne_f dX5_readPart_187 (t := 195) rfl (by have := zt_25; omega) ?_
                    refine w_bi dX5_readPart_190 (c := (-19)) (by decide) ?_
                    refine w_gt dX5_readPart_192 (t := 197) rfl ?_
                    refine w_iv dX5_readPart_197 rfl rfl (As := [.int (-19)]) rfl rfl hJ46.1.1 (zs_1_13 h50) (Nat.le_of_ble_eq_true rfl) ?_
                    refine ZV.imp (k_515 (b48 + 13) (zLw_of h50) (-19) hN hJ46.1) ?_
                    rintro _ ⟨M76, rfl, hJ77, hq78⟩
                    have hJ79 := zJ_trans hJ46 hJ77 (zSub_cons (fun _ _ h h' hk => ((zDm_or h50).elim (fun e => zIR_s (zIR_s (zIR_e (by omega) (by omega) hk))) (fun e => zIR_s (zIR_s (zIR_s (zIR_e (by omega) (by omega) hk)))))) (zSub_cons (fun _ _ h h' hk => ((zDm_or h50).elim (fun e => zIR_s (zIR_s (zIR_s (zIR_s (zIR_a (by omega) (by omega)))))) (fun e => zIR_s (zIR_s (zIR_s (zIR_s (zIR_s (zIR_a (by omega) (by omega))))))))) zSub_nil))
                    show ZW _ _ _ _ _ _ _ (200, [some (.ref 2), some (.int 5), some (.int v99_2), some (.int v99_3)], [], M76)
                    refine w_lo dX5_readPart_200 rfl rfl rfl rfl ?_
                    refine w_bi dX5_readPart_201 (c := 41) (by decide) ?_
                    refine w_iv dX5_readPart_203 rfl rfl (As := [.int 41]) rfl rfl hJ79.1.1 zs_2 (Nat.le_of_ble_eq_true rfl) ?_
                    refine ZV.imp (k_1299 41 (by have := zt_41; omega) (by have := zt_41; omega) hN hJ79.1) ?_
                    rintro _ ⟨x83, M80, rfl, h84, h85, hJ81, hq82⟩
                    have hJ86 := zJ_trans hJ79 hJ81 zSub_nil
                    show ZW _ _ _ _ _ _ _ (206, [some (.ref 2), some (.int 5), some (.int v99_2), some (.int v99_3)], [.int x83], M80)
                    rcases Int.decEq x83.toInt (0 : Int) with h87 | h87
                    · skip
                      refine w_ine_t dX5_readPart_206 (t := 215) rfl (by omega) ?_
                      refine w_lo dX5_readPart_215 rfl rfl rfl rfl ?_
                      refine w_iv dX5_readPart_216 rfl rfl (As := []) rfl rfl hJ86.1.1 zs_2 (Nat.le_of_ble_eq_true rfl) ?_
                      refine ZV.imp (k_1289 hN hJ86.1) ?_
                      rintro _ ⟨M88, rfl, hJ89, hq90⟩
                      have hJ91 := zJ_trans hJ86 hJ89 (zSub_cons (fun _ _ h h' hk => zIR_s (zIR_s (zIR_s (zIR_s (zIR_s (zIR_s (zIR_e (by omega) (by omega) hk))))))) zSub_nil)
                      show ZW _ _ _ _ _ _ _ (219, [some (.ref 2), some (.int 5), some (.int v99_2), some (.int v99_3)], [], M88)
                      refine w_ic dX5_readPart_219 zi_1 ?_
                      refine w_en dX5_readPart_220 rfl ?_
                      exact ⟨_, _, rfl, (by have := zt_1; omega), (by have := zt_1; omega), hJ91, trivial⟩
                    · skip
                      refine w_ine_f dX5_readPart_206 (t := 215) rfl (by omega) ?_
                      refine w_lo dX5_readPart_209 rfl rfl rfl rfl ?_
                      refine w_ic dX5_readPart_210 zi_1 ?_
                      refine w_iv dX5_readPart_211 rfl rfl (As := [.int 1]) rfl rfl hJ86.1.1 zs_2 (Nat.le_of_ble_eq_true rfl) ?_
                      refine ZV.imp (k_1286 1 (by have := zt_1; omega) (by have := zt_1; omega) hN hJ86.1) ?_
                      rintro _ ⟨x95, M92, rfl, h96, h97, hJ93, hq94⟩
                      have hJ98 := zJ_trans hJ86 hJ93 (zSub_cons (fun _ _ h h' hk => zIR_e (by omega) (by omega) hk) (zSub_cons (fun _ _ h h' hk => zIR_s (zIR_e (by omega) (by omega) hk)) zSub_nil))
                      show ZW _ _ _ _ _ _ _ (214, [some (.ref 2), some (.int 5), some (.int v99_2), some (.int v99_3)], [.int x95], M92)
                      refine w_eni dX5_readPart_214 rfl (znb (by omega) (by omega)) ?_
                      exact ⟨_, _, rfl, (by omega), (by omega), hJ98, trivial⟩
                · skip
                  refine w_ine_f dX5_readPart_172 (t := 177) rfl (by omega) ?_
                  refine w_ic dX5_readPart_175 zi_0 ?_
                  refine w_en dX5_readPart_176 rfl ?_
                  exact ⟨_, _, rfl, (by have := zt_0; omega), (by have := zt_0; omega), hJ46, trivial⟩
              · skip
                refine w_ine_f dX5_readPart_152 (t := 161) rfl (by omega) ?_
                refine w_lo dX5_readPart_155 rfl rfl rfl rfl ?_
                refine w_ic dX5_readPart_156 zi_1 ?_
                refine w_iv dX5_readPart_157 rfl rfl (As := [.int 1]) rfl rfl hJ34.1.1 zs_2 (Nat.le_of_ble_eq_true rfl) ?_
                refine ZV.imp (k_1286 1 (by have := zt_1; omega) (by have := zt_1; omega) hN hJ34.1) ?_
                rintro _ ⟨x102, M99, rfl, h103, h104, hJ100, hq101⟩
                have hJ105 := zJ_trans hJ34 hJ100 (zSub_cons (fun _ _ h h' hk => zIR_e (by omega) (by omega) hk) (zSub_cons (fun _ _ h h' hk => zIR_s (zIR_e (by omega) (by omega) hk)) zSub_nil))
                show ZW _ _ _ _ _ _ _ (160, [some (.ref 2), some (.int 5), some (.int v99_2), some (.int v99_3)], [.int x102], M99)
                refine w_eni dX5_readPart_160 rfl (znb (by omega) (by omega)) ?_
                exact ⟨_, _, rfl, (by omega), (by omega), hJ105, trivial⟩
            · skip
              refine w_ieq_t dX5_readPart_143 (t := 200) rfl (by omega) ?_
              refine w_lo dX5_readPart_200 rfl rfl rfl rfl ?_
              refine w_bi dX5_readPart_201 (c := 41) (by decide) ?_
              refine w_iv dX5_readPart_203 rfl rfl (As := [.int 41]) rfl rfl hJ25.1.1 zs_2 (Nat.le_of_ble_eq_true rfl) ?_
              refine ZV.imp (k_1299 41 (by have := zt_41; omega) (by have := zt_41; omega) hN hJ25.1) ?_
              rintro _ ⟨x109, M106, rfl, h110, h111, hJ107, hq108⟩
              have hJ112 := zJ_trans hJ25 hJ107 zSub_nil
              show ZW _ _ _ _ _ _ _ (206, [some (.ref 2), some (.int 5), some (.int v99_2), some (.int v99_3)], [.int x109], M106)
              rcases Int.decEq x109.toInt (0 : Int) with h113 | h113
              · skip
                refine w_ine_t dX5_readPart_206 (t := 215) rfl (by omega) ?_
                refine w_lo dX5_readPart_215 rfl rfl rfl rfl ?_
                refine w_iv dX5_readPart_216 rfl rfl (As := []) rfl rfl hJ112.1.1 zs_2 (Nat.le_of_ble_eq_true rfl) ?_
                refine ZV.imp (k_1289 hN hJ112.1) ?_
                rintro _ ⟨M114, rfl, hJ115, hq116⟩
                have hJ117 := zJ_trans hJ112 hJ115 (zSub_cons (fun _ _ h h' hk => zIR_s (zIR_s (zIR_s (zIR_s (zIR_s (zIR_s (zIR_e (by omega) (by omega) hk))))))) zSub_nil)
                show ZW _ _ _ _ _ _ _ (219, [some (.ref 2), some (.int 5), some (.int v99_2), some (.int v99_3)], [], M114)
                refine w_ic dX5_readPart_219 zi_1 ?_
                refine w_en dX5_readPart_220 rfl ?_
                exact ⟨_, _, rfl, (by have := zt_1; omega), (by have := zt_1; omega), hJ117, trivial⟩
              · skip
                refine w_ine_f dX5_readPart_206 (t := 215) rfl (by omega) ?_
                refine w_lo dX5_readPart_209 rfl rfl rfl rfl ?_
                refine w_ic dX5_readPart_210 zi_1 ?_
                refine w_iv dX5_readPart_211 rfl rfl (As := [.int 1]) rfl rfl hJ112.1.1 zs_2 (Nat.le_of_ble_eq_true rfl) ?_
                refine ZV.imp (k_1286 1 (by have := zt_1; omega) (by have := zt_1; omega) hN hJ112.1) ?_
                rintro _ ⟨x121, M118, rfl, h122, h123, hJ119, hq120⟩
                have hJ124 := zJ_trans hJ112 hJ119 (zSub_cons (fun _ _ h h' hk => zIR_e (by omega) (by omega) hk) (zSub_cons (fun _ _ h h' hk => zIR_s (zIR_e (by omega) (by omega) hk)) zSub_nil))
                show ZW _ _ _ _ _ _ _ (214, [some (.ref 2), some (.int 5), some (.int v99_2), some (.int v99_3)], [.int x121], M118)
                refine w_eni dX5_readPart_214 rfl (znb (by omega) (by omega)) ?_
                exact ⟨_, _, rfl, (by omega), (by omega), hJ124, trivial⟩
          · skip
            refine w_ine_f dX5_readPart_137 (t := 142) rfl (by omega) ?_
            refine w_ic dX5_readPart_140 zi_0 ?_
            refine w_en dX5_readPart_141 rfl ?_
            exact ⟨_, _, rfl, (by have := zt_0; omega), (by have := zt_0; omega), hJ25, trivial⟩
        · skip
          refine w_ine_f dX5_readPart_105 (t := 114) rfl (by omega) ?_
          refine w_lo dX5_readPart_108 rfl rfl rfl rfl ?_
          refine w_ic dX5_readPart_109 zi_1 ?_
          refine w_iv dX5_readPart_110 rfl rfl (As := [.int 1]) rfl rfl hJ13.1.1 zs_2 (Nat.le_of_ble_eq_true rfl) ?_
          refine ZV.imp (k_1286 1 (by have := zt_1; omega) (by have := zt_1; omega) hN hJ13.1) ?_
          rintro _ ⟨x128, M125, rfl, h129, h130, hJ126, hq127⟩
          have hJ131 := zJ_trans hJ13 hJ126 (zSub_cons (fun _ _ h h' hk => zIR_e (by omega) (by omega) hk) (zSub_cons (fun _ _ h h' hk => zIR_s (zIR_e (by omega) (by omega) hk)) zSub_nil))
          show ZW _ _ _ _ _ _ _ (113, [some (.ref 2), some (.int 5), some (.int v99_2), some (.int v99_3)], [.int x128], M125)
          refine w_eni dX5_readPart_113 rfl (znb (by omega) (by omega)) ?_
          exact ⟨_, _, rfl, (by omega), (by omega), hJ131, trivial⟩
  obtain ⟨ih73, ih85, ih99⟩ := main 8
  show ZW _ _ _ _ _ _ _ (0, [some (.ref 2), some (.int 5), none, none], [], M0)
  refine w_lo dX5_readPart_0 rfl rfl rfl rfl ?_
  refine w_gf dX5_readPart_1 rfl hJ0.1.1 zs_2 (zr_2_3 hJ0.1) ?_
  refine w_lo dX5_readPart_4 rfl rfl rfl rfl ?_
  refine w_gfi dX5_readPart_5 rfl hJ0.1 zs_2 (Nat.le_of_ble_eq_true rfl) zo_2_7 ?_
  intro x132 f133 h134 h135
  refine w_iai dX5_readPart_8 hJ0.1 zs_4 (by omega) (by omega) zu_4 ?_
  intro x139 f136 h137 h138
  refine w_ic dX5_readPart_9 zi_4 ?_
  rcases Int.decEq x139.toInt (4 : Int) with h140 | h140
  · skip
    refine w_cne_t dX5_readPart_10 (t := 38) rfl (by have := zt_4; omega) ?_
    refine w_lo dX5_readPart_38 rfl rfl rfl rfl ?_
    refine w_iv dX5_readPart_39 rfl rfl (As := []) rfl rfl hJ0.1.1 zs_2 (Nat.le_of_ble_eq_true rfl) ?_
    refine ZV.imp (k_1287 hN hJ0.1) ?_
    rintro _ ⟨x144, M141, rfl, h145, h146, hJ142, hq143⟩
    have hJ147 := zJ_trans hJ0 hJ142 zSub_nil
    show ZW _ _ _ _ _ _ _ (42, [some (.ref 2), some (.int 5), none, none], [.int x144], M141)
    refine w_lo (ml' := [some (.ref 2), some (.int 5), some (.int x144), none]) dX5_readPart_42 rfl rfl rfl rfl ?_
    refine w_lo dX5_readPart_43 rfl rfl rfl rfl ?_
    refine w_ic dX5_readPart_44 zi_m1 ?_
    rcases Int.decEq x144.toInt (-1 : Int) with h148 | h148
    · skip
      refine w_ceq_f dX5_readPart_45 (t := 73) rfl (by have := zt_m1; omega) ?_
      refine w_lo dX5_readPart_48 rfl rfl rfl rfl ?_
      refine w_bi dX5_readPart_49 (c := 7) (by decide) ?_
      rcases zcut x144.toInt (7 : Int) with h149 | h149
      · skip
        refine w_cge_f dX5_readPart_51 (t := 73) rfl (by have := zt_7; omega) ?_
        refine w_lo dX5_readPart_54 rfl rfl rfl rfl ?_
        obtain ⟨b150, f151, h152⟩ := zd_2_8 hJ147.1
        have h153 := zDm_b h152
        refine w_gf dX5_readPart_55 rfl hJ147.1.1 zs_2 f151 ?_
        refine w_gf dX5_readPart_58 rfl hJ147.1.1 (zs_1_0 h152) (zr_1_0_15 h152 hJ147.1) ?_
        refine w_ic dX5_readPart_61 zi_m1 ?_
        refine w_lo dX5_readPart_62 rfl rfl rfl rfl ?_
        refine w_sub dX5_readPart_63 (by have := zt_m1; omega) ?_
        intro x154 h155
        have := zt_m1
        refine w_iv dX5_readPart_64 rfl rfl (As := [.int x154]) rfl rfl hJ147.1.1 (zs_1_13 h152) (Nat.le_of_ble_eq_true rfl) ?_
        refine ZV.imp (k_515 (b150 + 13) (zLw_of h152) x154 hN hJ147.1) ?_
        rintro _ ⟨M156, rfl, hJ157, hq158⟩
        have hJ159 := zJ_trans hJ147 hJ157 (zSub_cons (fun _ _ h h' hk => ((zDm_or h152).elim (fun e => zIR_s (zIR_s (zIR_e (by omega) (by omega) hk))) (fun e => zIR_s (zIR_s (zIR_s (zIR_e (by omega) (by omega) hk)))))) (zSub_cons (fun _ _ h h' hk => ((zDm_or h152).elim (fun e => zIR_s (zIR_s (zIR_s (zIR_s (zIR_a (by omega) (by omega)))))) (fun e => zIR_s (zIR_s (zIR_s (zIR_s (zIR_s (zIR_a (by omega) (by omega))))))))) zSub_nil))
        show ZW _ _ _ _ _ _ _ (67, [some (.ref 2), some (.int 5), some (.int x144), none], [], M156)
        refine w_lo dX5_readPart_67 rfl rfl rfl rfl ?_
        refine w_iv dX5_readPart_68 rfl rfl (As := []) rfl rfl hJ159.1.1 zs_2 (Nat.le_of_ble_eq_true rfl) ?_
        refine ZV.imp (k_1289 hN hJ159.1) ?_
        rintro _ ⟨M160, rfl, hJ161, hq162⟩
        have hJ163 := zJ_trans hJ159 hJ161 (zSub_cons (fun _ _ h h' hk => zIR_s (zIR_s (zIR_s (zIR_s (zIR_s (zIR_s (zIR_e (by omega) (by omega) hk))))))) zSub_nil)
        show ZW _ _ _ _ _ _ _ (71, [some (.ref 2), some (.int 5), some (.int x144), none], [], M160)
        refine w_ic dX5_readPart_71 zi_1 ?_
        refine w_en dX5_readPart_72 rfl ?_
        exact ⟨_, _, rfl, (by have := zt_1; omega), (by have := zt_1; omega), hJ163, trivial⟩
      · skip
        refine w_cge_t dX5_readPart_51 (t := 73) rfl (by have := zt_7; omega) ?_
        exact ih73 M141 x144 none hJ147 (by omega) (by omega) (by have := zt_5; omega)
    · skip
      refine w_ceq_t dX5_readPart_45 (t := 73) rfl (by have := zt_m1; omega) ?_
      exact ih73 M141 x144 none hJ147 (by omega) (by omega) (by have := zt_5; omega)
  · skip
    refine w_cne_f dX5_readPart_10 (t := 38) rfl (by have := zt_4; omega) ?_
    refine w_lo dX5_readPart_13 rfl rfl rfl rfl ?_
    obtain ⟨b164, f165, h166⟩ := zd_2_8 hJ0.1
    have h167 := zDm_b h166
    refine w_gf dX5_readPart_14 rfl hJ0.1.1 zs_2 f165 ?_
    refine w_gf dX5_readPart_17 rfl hJ0.1.1 (zs_1_0 h166) (zr_1_0_15 h166 hJ0.1) ?_
    refine w_lo dX5_readPart_20 rfl rfl rfl rfl ?_
    refine w_gf dX5_readPart_21 rfl hJ0.1.1 zs_2 (zr_2_4 hJ0.1) ?_
    refine w_lo dX5_readPart_24 rfl rfl rfl rfl ?_
    refine w_gf dX5_readPart_25 rfl hJ0.1.1 zs_2 f133 ?_
    refine w_iai dX5_readPart_28 hJ0.1 zs_5 (by omega) (by omega) zu_5 ?_
    intro x171 f168 h169 h170
    refine w_iv dX5_readPart_29 rfl rfl (As := [.int x171]) rfl rfl hJ0.1.1 (zs_1_13 h166) (Nat.le_of_ble_eq_true rfl) ?_
    refine ZV.imp (k_515 (b164 + 13) (zLw_of h166) x171 hN hJ0.1) ?_
    rintro _ ⟨M172, rfl, hJ173, hq174⟩
    have hJ175 := zJ_trans hJ0 hJ173 (zSub_cons (fun _ _ h h' hk => ((zDm_or h166).elim (fun e => zIR_s (zIR_s (zIR_e (by omega) (by omega) hk))) (fun e => zIR_s (zIR_s (zIR_s (zIR_e (by omega) (by omega) hk)))))) (zSub_cons (fun _ _ h h' hk => ((zDm_or h166).elim (fun e => zIR_s (zIR_s (zIR_s (zIR_s (zIR_a (by omega) (by omega)))))) (fun e => zIR_s (zIR_s (zIR_s (zIR_s (zIR_s (zIR_a (by omega) (by omega))))))))) zSub_nil))
    show ZW _ _ _ _ _ _ _ (32, [some (.ref 2), some (.int 5), none, none], [], M172)
    refine w_lo dX5_readPart_32 rfl rfl rfl rfl ?_
    refine w_iv dX5_readPart_33 rfl rfl (As := []) rfl rfl hJ175.1.1 zs_2 (Nat.le_of_ble_eq_true rfl) ?_
    refine ZV.imp (k_1289 hN hJ175.1) ?_
    rintro _ ⟨M176, rfl, hJ177, hq178⟩
    have hJ179 := zJ_trans hJ175 hJ177 (zSub_cons (fun _ _ h h' hk => zIR_s (zIR_s (zIR_s (zIR_s (zIR_s (zIR_s (zIR_e (by omega) (by omega) hk))))))) zSub_nil)
    show ZW _ _ _ _ _ _ _ (36, [some (.ref 2), some (.int 5), none, none], [], M176)
    refine w_ic dX5_readPart_36 zi_1 ?_
    refine w_en dX5_readPart_37 rfl ?_
    exact ⟨_, _, rfl, (by have := zt_1; omega), (by have := zt_1; omega), hJ179, trivial⟩
set_option maxRecDepth 100000 in
theorem k_1297_c5 {X : List Int32} {d N : Nat} {M0 : zM}  (hN : N ≤ 600) (hB0 : zB N M0) : ZV X (d + 9) 1297 [.ref 2, .int 5] M0 (zRI N [(2, 3, 0), (2, 3, 1), (20, 21, 1), (41, 42, 1), (21, 22, 1000), (42, 43, 1000), (2, 3, 7)] M0 (0) (1) (fun _ _ => True)) := by
  have hJ0 : zJ N [(2, 3, 0), (2, 3, 1), (20, 21, 1), (41, 42, 1), (21, 22, 1000), (42, 43, 1000), (2, 3, 7)] M0 M0 := zJ_refl hB0
  refine ZV.of (ini := false) rfl (Nat.le_of_ble_eq_true rfl) (by decide +kernel) ?_
  have main : ∀ n : Nat,
      (∀ (M : zM) (v4_2 : Int32) (v4_3 : Int32) (o4_4 : Option Value) (o4_5 : Option Value), zJ N [(2, 3, 0), (2, 3, 1), (20, 21, 1), (41, 42, 1), (21, 22, 1000), (42, 43, 1000), (2, 3, 7)] M0 M → ((-13 : Int) ≤ v4_2.toInt) → (v4_2.toInt ≤ 0) → ((0 : Int) ≤ v4_3.toInt) → (v4_3.toInt ≤ 1601) → 12832 * (1601 - v4_3.toInt) + 12830 < (n : Int) → ZW X (d + 8) 5 false (some .boolean) cX5_readSum (zRI N [(2, 3, 0), (2, 3, 1), (20, 21, 1), (41, 42, 1), (21, 22, 1000), (42, 43, 1000), (2, 3, 7)] M0 (0) (1) (fun _ _ => True)) (4, [some (.ref 2), some (.int 5), some (.int v4_2), some (.int v4_3), o4_4, o4_5], [], M)) ∧
      (∀ (M : zM) (v17_2 : Int32) (v17_3 : Int32) (v17_4 : Int32) (v17_5 : Int32), zJ N [(2, 3, 0), (2, 3, 1), (20, 21, 1), (41, 42, 1), (21, 22, 1000), (42, 43, 1000), (2, 3, 7)] M0 M → ((-2147483648 : Int) ≤ v17_2.toInt) → (v17_2.toInt ≤ 0) → ((0 : Int) ≤ v17_3.toInt) → (v17_3.toInt ≤ 1600) → ((-11 : Int) ≤ v17_4.toInt) → (v17_4.toInt ≤ 0) → ((0 : Int) ≤ v17_5.toInt) → (v17_5.toInt ≤ 1601) → 12832 * (1601 - v17_3.toInt) + 8 * (1601 - v17_5.toInt) + 5 < (n : Int) → ZW X (d + 8) 5 false (some .boolean) cX5_readSum (zRI N [(2, 3, 0), (2, 3, 1), (20, 21, 1), (41, 42, 1), (21, 22, 1000), (42, 43, 1000), (2, 3, 7)] M0 (0) (1) (fun _ _ => True)) (17, [some (.ref 2), some (.int 5), some (.int v17_2), some (.int v17_3), some (.int v17_4), some (.int v17_5)], [], M)) ∧
      (∀ (M : zM) (v52_2 : Int32) (v52_3 : Int32) (u52_4 : Int32) (v52_5 : Int32), zJ N [(2, 3, 0), (2, 3, 1), (20, 21, 1), (41, 42, 1), (21, 22, 1000), (42, 43, 1000), (2, 3, 7)] M0 M → ((-2147483648 : Int) ≤ v52_2.toInt) → (v52_2.toInt ≤ 0) → ((0 : Int) ≤ v52_3.toInt) → (v52_3.toInt ≤ 1600) → ((0 : Int) ≤ v52_5.toInt) → (v52_5.toInt ≤ 1600) → 12832 * (1601 - v52_3.toInt) + 8 * (1601 - v52_5.toInt) + 4 < (n : Int) → ZW X (d + 8) 5 false (some .boolean) cX5_readSum (zRI N [(2, 3, 0), (2, 3, 1), (20, 21, 1), (41, 42, 1), (21, 22, 1000), (42, 43, 1000), (2, 3, 7)] M0 (0) (1) (fun _ _ => True)) (52, [some (.ref 2), some (.int 5), some (.int v52_2), some (.int v52_3), some (.int u52_4), some (.int v52_5)], [], M)) ∧
      (∀ (M : zM) (v95_2 : Int32) (v95_3 : Int32) (u95_4 : Int32) (v95_5 : Int32) (s95_0 : Int32), zJ N [(2, 3, 0), (2, 3, 1), (20, 21, 1), (41, 42, 1), (21, 22, 1000), (42, 43, 1000), (2, 3, 7)] M0 M → ((-2147483648 : Int) ≤ v95_2.toInt) → (v95_2.toInt ≤ 0) → ((0 : Int) ≤ v95_3.toInt) → (v95_3.toInt ≤ 1600) → ((0 : Int) ≤ v95_5.toInt) → (v95_5.toInt ≤ 1600) → ((-11 : Int) ≤ s95_0.toInt) → (s95_0.toInt ≤ 0) → 12832 * (1601 - v95_3.toInt) + 8 * (1601 - v95_5.toInt) + 3 < (n : Int) → ZW X (d + 8) 5 false (some .boolean) cX5_readSum (zRI N [(2, 3, 0), (2, 3, 1), (20, 21, 1), (41, 42, 1), (21, 22, 1000), (42, 43, 1000), (2, 3, 7)] M0 (0) (1) (fun _ _ => True)) (95, [some (.ref 2), some (.int 5), some (.int v95_2), some (.int v95_3), some (.int u95_4), some (.int v95_5)], [.int s95_0], M)) ∧
      (∀ (M : zM) (v115_2 : Int32) (v115_3 : Int32) (u115_4 : Int32) (u115_5 : Int32), zJ N [(2, 3, 0), (2, 3, 1), (20, 21, 1), (41, 42, 1), (21, 22, 1000), (42, 43, 1000), (2, 3, 7)] M0 M → ((-2147483648 : Int) ≤ v115_2.toInt) → (v115_2.toInt ≤ 0) → ((0 : Int) ≤ v115_3.toInt) → (v115_3.toInt ≤ 1600) → 12832 * (1601 - v115_3.toInt) + 2 < (n : Int) → ZW X (d + 8) 5 false (some .boolean) cX5_readSum (zRI N [(2, 3, 0), (2, 3, 1), (20, 21, 1), (41, 42, 1), (21, 22, 1000), (42, 43, 1000), (2, 3, 7)] M0 (0) (1) (fun _ _ => True)) (115, [some (.ref 2), some (.int 5), some (.int v115_2), some (.int v115_3), some (.int u115_4), some (.int u115_5)], [], M)) ∧
      (∀ (M : zM) (u130_2 : Int32) (v130_3 : Int32) (u130_4 : Int32) (u130_5 : Int32), zJ N [(2, 3, 0), (2, 3, 1), (20, 21, 1), (41, 42, 1), (21, 22, 1000), (42, 43, 1000), (2, 3, 7)] M0 M → ((0 : Int) ≤ v130_3.toInt) → (v130_3.toInt ≤ 1600) → 12832 * (1601 - v130_3.toInt) + 1 < (n : Int) → ZW X (d + 8) 5 false (some .boolean) cX5_readSum (zRI N [(2, 3, 0), (2, 3, 1), (20, 21, 1), (41, 42, 1), (21, 22, 1000), (42, 43, 1000), (2, 3, 7)] M0 (0) (1) (fun _ _ => True)) (130, [some (.ref 2), some (.int 5), some (.int u130_2), some (.int v130_3), some (.int u130_4), some (.int u130_5)], [], M)) := by
    intro n
    induction n with
    | zero =>
      exact ⟨(fun M v4_2 v4_3 o4_4 o4_5 hJ v4_20 v4_21 v4_30 v4_31 hn => absurd hn (by omega)), (fun M v17_2 v17_3 v17_4 v17_5 hJ v17_20 v17_21 v17_30 v17_31 v17_40 v17_41 v17_50 v17_51 hn => absurd hn (by omega)), (fun M v52_2 v52_3 u52_4 v52_5 hJ v52_20 v52_21 v52_30 v52_31 v52_50 v52_51 hn => absurd hn (by omega)), (fun M v95_2 v95_3 u95_4 v95_5 s95_0 hJ v95_20 v95_21 v95_30 v95_31 v95_50 v95_51 s95_00 s95_01 hn => absurd hn (by omega)), (fun M v115_2 v115_3 u115_4 u115_5 hJ v115_20 v115_21 v115_30 v115_31 hn => absurd hn (by omega)), (fun M u130_2 v130_3 u130_4 u130_5 hJ v130_30 v130_31 hn => absurd hn (by omega))⟩
    | succ n ih =>
      obtain ⟨ih4, ih17, ih52, ih95, ih115, ih130⟩ := ih
      refine ⟨?_, ?_, ?_, ?_, ?_, ?_⟩
      · intro M v4_2 v4_3 o4_4 o4_5 hJ v4_20 v4_21 v4_30 v4_31 hn
        refine w_lo dX5_readSum_4 rfl rfl rfl rfl ?_
        refine w_si dX5_readSum_5 (c := 1600) (by decide) ?_
        rcases zcut (1600 : Int) v4_3.toInt with h1 | h1
        · skip
          refine w_cgt_t dX5_readSum_8 (t := 177) rfl (by have := zt_1600; omega) ?_
          refine w_ic dX5_readSum_177 zi_1 ?_
          refine w_en dX5_readSum_178 rfl ?_
          exact ⟨_, _, rfl, (by have := zt_1; omega), (by have := zt_1; omega), hJ, trivial⟩
        · skip
          refine w_cgt_f dX5_readSum_8 (t := 177) rfl (by have := zt_1600; omega) ?_
          refine w_ic dX5_readSum_11 zi_0 ?_
          refine w_lo (ml' := [some (.ref 2), some (.int 5), some (.int v4_2), some (.int v4_3), some (.int 0), o4_5]) dX5_readSum_12 rfl rfl rfl rfl ?_
          refine w_ic dX5_readSum_14 zi_0 ?_
          refine w_lo (ml' := [some (.ref 2), some (.int 5), some (.int v4_2), some (.int v4_3), some (.int 0), some (.int 0)]) dX5_readSum_15 rfl rfl rfl rfl ?_
          exact ih17 M v4_2 v4_3 0 0 hJ (zbot _) (by omega) (by omega) (by omega) (by have := zt_0; omega) (by have := zt_0; omega) (by have := zt_0; omega) (by have := zt_0; omega) (by have := zt_5; have := zt_0; omega)
      · intro M v17_2 v17_3 v17_4 v17_5 hJ v17_20 v17_21 v17_30 v17_31 v17_40 v17_41 v17_50 v17_51 hn
        refine w_lo dX5_readSum_17 rfl rfl rfl rfl ?_
        refine w_si dX5_readSum_19 (c := 1600) (by decide) ?_
        rcases zcut (1600 : Int) v17_5.toInt with h2 | h2
        · skip
          refine w_cgt_t dX5_readSum_22 (t := 115) rfl (by have := zt_1600; omega) ?_
          exact ih115 M v17_2 v17_3 v17_4 v17_5 hJ (zbot _) (by omega) (by omega) (by omega) (by have := zt_5; omega)
        · skip
          refine w_cgt_f dX5_readSum_22 (t := 115) rfl (by have := zt_1600; omega) ?_
          refine w_lo dX5_readSum_25 rfl rfl rfl rfl ?_
          refine w_lo dX5_readSum_26 rfl rfl rfl rfl ?_
          refine w_iv dX5_readSum_27 rfl rfl (As := [.int 5]) rfl rfl hJ.1.1 zs_2 (Nat.le_of_ble_eq_true rfl) ?_
          refine ZV.imp (k_1298_c5 hN hJ.1) ?_
          rintro _ ⟨x6, M3, rfl, h7, h8, hJ4, hq5⟩
          have hJ9 := zJ_trans hJ hJ4 (zSub_cons (fun _ _ h h' hk => zIR_e (by omega) (by omega) hk) (zSub_cons (fun _ _ h h' hk => zIR_s (zIR_e (by omega) (by omega) hk)) (zSub_cons (fun _ _ h h' hk => zIR_s (zIR_s (zIR_e (by omega) (by omega) hk))) (zSub_cons (fun _ _ h h' hk => zIR_s (zIR_s (zIR_s (zIR_e (by omega) (by omega) hk)))) (zSub_cons (fun _ _ h h' hk => zIR_s (zIR_s (zIR_s (zIR_s (zIR_a (by omega) (by omega)))))) (zSub_cons (fun _ _ h h' hk => zIR_s (zIR_s (zIR_s (zIR_s (zIR_s (zIR_a (by omega) (by omega))))))) (zSub_cons (fun _ _ h h' hk => zIR_s (zIR_s (zIR_s (zIR_s (zIR_s (zIR_s (zIR_e (by omega) (by omega) hk))))))) zSub_nil)))))))
          show ZW _ _ _ _ _ _ _ (30, [some (.ref 2), some (.int 5), some (.int v17_2), some (.int v17_3), some (.int v17_4), some (.int v17_5)], [.int x6], M3)
          rcases Int.decEq x6.toInt (0 : Int) with h10 | h10
          · skip
            refine w_ine_t dX5_readSum_30 (t := 35) rfl (by omega) ?_
            refine w_lo dX5_readSum_35 rfl rfl rfl rfl ?_
            rcases Int.decEq v17_4.toInt (0 : Int) with h11 | h11
            · skip
              refine w_ieq_f dX5_readSum_37 (t := 52) rfl (by omega) ?_
              refine w_lo dX5_readSum_40 rfl rfl rfl rfl ?_
              obtain ⟨b12, f13, h14⟩ := zd_2_8 hJ9.1
              have h15 := zDm_b h14
              refine w_gf dX5_readSum_41 rfl hJ9.1.1 zs_2 f13 ?_
              refine w_gf dX5_readSum_44 rfl hJ9.1.1 (zs_1_0 h14) (zr_1_0_15 h14 hJ9.1) ?_
              refine w_lo dX5_readSum_47 rfl rfl rfl rfl ?_
              refine w_iv dX5_readSum_49 rfl rfl (As := [.int v17_4]) rfl rfl hJ9.1.1 (zs_1_13 h14) (Nat.le_of_ble_eq_true rfl) ?_
              refine ZV.imp (k_515 (b12 + 13) (zLw_of h14) v17_4 hN hJ9.1) ?_
              rintro _ ⟨M16, rfl, hJ17, hq18⟩
              have hJ19 := zJ_trans hJ9 hJ17 (zSub_cons (fun _ _ h h' hk => ((zDm_or h14).elim (fun e => zIR_s (zIR_s (zIR_e (by omega) (by omega) hk))) (fun e => zIR_s (zIR_s (zIR_s (zIR_e (by omega) (by omega) hk)))))) (zSub_cons (fun _ _ h h' hk => ((zDm_or h14).elim (fun e => zIR_s (zIR_s (zIR_s (zIR_s (zIR_a (by omega) (by omega)))))) (fun e => zIR_s (zIR_s (zIR_s (zIR_s (zIR_s (zIR_a (by omega) (by omega))))))))) zSub_nil))
              show ZW _ _ _ _ _ _ _ (52, [some (.ref 2), some (.int 5), some (.int v17_2), some (.int v17_3), some (.int v17_4), some (.int v17_5)], [], M16)
              exact ih52 M16 v17_2 v17_3 v17_4 v17_5 hJ19 (zbot _) (by omega) (by omega) (by omega) (by omega) (by omega) (by have := zt_5; omega)
            · skip
              refine w_ieq_t dX5_readSum_37 (t := 52) rfl (by omega) ?_
              exact ih52 M3 v17_2 v17_3 v17_4 v17_5 hJ9 (zbot _) (by omega) (by omega) (by omega) (by omega) (by omega) (by have := zt_5; omega)
          · skip
            refine w_ine_f dX5_readSum_30 (t := 35) rfl (by omega) ?_
            refine w_ic dX5_readSum_33 zi_0 ?_
            refine w_en dX5_readSum_34 rfl ?_
            exact ⟨_, _, rfl, (by have := zt_0; omega), (by have := zt_0; omega), hJ9, trivial⟩
      · intro M v52_2 v52_3 u52_4 v52_5 hJ v52_20 v52_21 v52_30 v52_31 v52_50 v52_51 hn
        refine w_lo dX5_readSum_52 rfl rfl rfl rfl ?_
        refine w_bi dX5_readSum_53 (c := 42) (by decide) ?_
        refine w_iv dX5_readSum_55 rfl rfl (As := [.int 42]) rfl rfl hJ.1.1 zs_2 (Nat.le_of_ble_eq_true rfl) ?_
        refine ZV.imp (k_1299 42 (by have := zt_42; omega) (by have := zt_42; omega) hN hJ.1) ?_
        rintro _ ⟨x23, M20, rfl, h24, h25, hJ21, hq22⟩
        have hJ26 := zJ_trans hJ hJ21 zSub_nil
        show ZW _ _ _ _ _ _ _ (58, [some (.ref 2), some (.int 5), some (.int v52_2), some (.int v52_3), some (.int u52_4), some (.int v52_5)], [.int x23], M20)
        rcases Int.decEq x23.toInt (0 : Int) with h27 | h27
        · skip
          refine w_ieq_f dX5_readSum_58 (t := 66) rfl (by omega) ?_
          refine w_bi dX5_readSum_61 (c := (-9)) (by decide) ?_
          refine w_gt dX5_readSum_63 (t := 95) rfl ?_
          exact ih95 M20 v52_2 v52_3 u52_4 v52_5 (-9) hJ26 (zbot _) (by omega) (by omega) (by omega) (by omega) (by omega) (by have := zt_m9; omega) (by have := zt_m9; omega) (by have := zt_5; have := zt_m9; omega)
        · skip
          refine w_ieq_t dX5_readSum_58 (t := 66) rfl (by omega) ?_
          refine w_lo dX5_readSum_66 rfl rfl rfl rfl ?_
          refine w_bi dX5_readSum_67 (c := 47) (by decide) ?_
          refine w_iv dX5_readSum_69 rfl rfl (As := [.int 47]) rfl rfl hJ26.1.1 zs_2 (Nat.le_of_ble_eq_true rfl) ?_
          refine ZV.imp (k_1299 47 (by have := zt_47; omega) (by have := zt_47; omega) hN hJ26.1) ?_
          rintro _ ⟨x31, M28, rfl, h32, h33, hJ29, hq30⟩
          have hJ34 := zJ_trans hJ26 hJ29 zSub_nil
          show ZW _ _ _ _ _ _ _ (72, [some (.ref 2), some (.int 5), some (.int v52_2), some (.int v52_3), some (.int u52_4), some (.int v52_5)], [.int x31], M28)
          rcases Int.decEq x31.toInt (0 : Int) with h35 | h35
          · skip
            refine w_ieq_f dX5_readSum_72 (t := 80) rfl (by omega) ?_
            refine w_bi dX5_readSum_75 (c := (-10)) (by decide) ?_
            refine w_gt dX5_readSum_77 (t := 95) rfl ?_
            exact ih95 M28 v52_2 v52_3 u52_4 v52_5 (-10) hJ34 (zbot _) (by omega) (by omega) (by omega) (by omega) (by omega) (by have := zt_m10; omega) (by have := zt_m10; omega) (by have := zt_5; have := zt_m10; omega)
          · skip
            refine w_ieq_t dX5_readSum_72 (t := 80) rfl (by omega) ?_
            refine w_lo dX5_readSum_80 rfl rfl rfl rfl ?_
            refine w_bi dX5_readSum_81 (c := 37) (by decide) ?_
            refine w_iv dX5_readSum_83 rfl rfl (As := [.int 37]) rfl rfl hJ34.1.1 zs_2 (Nat.le_of_ble_eq_true rfl) ?_
            refine ZV.imp (k_1299 37 (by have := zt_37; omega) (by have := zt_37; omega) hN hJ34.1) ?_
            rintro _ ⟨x39, M36, rfl, h40, h41, hJ37, hq38⟩
            have hJ42 := zJ_trans hJ34 hJ37 zSub_nil
            show ZW _ _ _ _ _ _ _ (86, [some (.ref 2), some (.int 5), some (.int v52_2), some (.int v52_3), some (.int u52_4), some (.int v52_5)], [.int x39], M36)
            rcases Int.decEq x39.toInt (0 : Int) with h43 | h43
            · skip
              refine w_ieq_f dX5_readSum_86 (t := 94) rfl (by omega) ?_
              refine w_bi dX5_readSum_89 (c := (-11)) (by decide) ?_
              refine w_gt dX5_readSum_91 (t := 95) rfl ?_
              exact ih95 M36 v52_2 v52_3 u52_4 v52_5 (-11) hJ42 (zbot _) (by omega) (by omega) (by omega) (by omega) (by omega) (by have := zt_m11; omega) (by have := zt_m11; omega) (by have := zt_5; have := zt_m11; omega)
            · skip
              refine w_ieq_t dX5_readSum_86 (t := 94) rfl (by omega) ?_
              refine w_ic dX5_readSum_94 zi_0 ?_
              exact ih95 M36 v52_2 v52_3 u52_4 v52_5 0 hJ42 (zbot _) (by omega) (by omega) (by omega) (by omega) (by omega) (by have := zt_0; omega) (by have := zt_0; omega) (by have := zt_5; have := zt_0; omega)
      · intro M v95_2 v95_3 u95_4 v95_5 s95_0 hJ v95_20 v95_21 v95_30 v95_31 v95_50 v95_51 s95_00 s95_01 hn
        refine w_lo (ml' := [some (.ref 2), some (.int 5), some (.int v95_2), some (.int v95_3), some (.int s95_0), some (.int v95_5)]) dX5_readSum_95 rfl rfl rfl rfl ?_
        refine w_lo dX5_readSum_97 rfl rfl rfl rfl ?_
        rcases Int.decEq s95_0.toInt (0 : Int) with h44 | h44
        · skip
          refine w_ine_t dX5_readSum_99 (t := 105) rfl (by omega) ?_
          refine w_lo dX5_readSum_105 rfl rfl rfl rfl ?_
          refine w_iv dX5_readSum_106 rfl rfl (As := []) rfl rfl hJ.1.1 zs_2 (Nat.le_of_ble_eq_true rfl) ?_
          refine ZV.imp (k_1289 hN hJ.1) ?_
          rintro _ ⟨M45, rfl, hJ46, hq47⟩
          have hJ48 := zJ_trans hJ hJ46 (zSub_cons (fun _ _ h h' hk => zIR_s (zIR_s (zIR_s (zIR_s (zIR_s (zIR_s (zIR_e (by omega) (by omega) hk))))))) zSub_nil)
          show ZW _ _ _ _ _ _ _ (109, [some (.ref 2), some (.int 5), some (.int v95_2), some (.int v95_3), some (.int s95_0), some (.int v95_5)], [], M45)
          refine w_inc (kk := 5) dX5_readSum_109 rfl (m := 1) (by decide) (by omega) ?_
          intro x49 h50
          refine ⟨_, rfl, ?_⟩
          show ZW _ _ _ _ _ _ _ (112, [some (.ref 2), some (.int 5), some (.int v95_2), some (.int v95_3), some (.int s95_0), some (.int x49)], [], M45)
          refine w_gt dX5_readSum_112 (t := 17) rfl ?_
          exact ih17 M45 v95_2 v95_3 s95_0 x49 hJ48 (zbot _) (by omega) (by omega) (by omega) (by omega) (by omega) (by omega) (by omega) (by have := zt_5; omega)
        · skip
          refine w_ine_f dX5_readSum_99 (t := 105) rfl (by omega) ?_
          refine w_gt dX5_readSum_102 (t := 115) rfl ?_
          exact ih115 M v95_2 v95_3 s95_0 v95_5 hJ (zbot _) (by omega) (by omega) (by omega) (by have := zt_5; omega)
      · intro M v115_2 v115_3 u115_4 u115_5 hJ v115_20 v115_21 v115_30 v115_31 hn
        refine w_lo dX5_readSum_115 rfl rfl rfl rfl ?_
        rcases Int.decEq v115_2.toInt (0 : Int) with h51 | h51
        · skip
          refine w_ieq_f dX5_readSum_116 (t := 130) rfl (by omega) ?_
          refine w_lo dX5_readSum_119 rfl rfl rfl rfl ?_
          obtain ⟨b52, f53, h54⟩ := zd_2_8 hJ.1
          have h55 := zDm_b h54
          refine w_gf dX5_readSum_120 rfl hJ.1.1 zs_2 f53 ?_
          refine w_gf dX5_readSum_123 rfl hJ.1.1 (zs_1_0 h54) (zr_1_0_15 h54 hJ.1) ?_
          refine w_lo dX5_readSum_126 rfl rfl rfl rfl ?_
          refine w_iv dX5_readSum_127 rfl rfl (As := [.int v115_2]) rfl rfl hJ.1.1 (zs_1_13 h54) (Nat.le_of_ble_eq_true rfl) ?_
          refine ZV.imp (k_515 (b52 + 13) (zLw_of h54) v115_2 hN hJ.1) ?_
          rintro _ ⟨M56, rfl, hJ57, hq58⟩
          have hJ59 := zJ_trans hJ hJ57 (zSub_cons (fun _ _ h h' hk => ((zDm_or h54).elim (fun e => zIR_s (zIR_s (zIR_e (by omega) (by omega) hk))) (fun e => zIR_s (zIR_s (zIR_s (zIR_e (by omega) (by omega) hk)))))) (zSub_cons (fun _ _ h h' hk => ((zDm_or h54).elim (fun e => zIR_s (zIR_s (zIR_s (zIR_s (zIR_a (by omega) (by omega)))))) (fun e => zIR_s (zIR_s (zIR_s (zIR_s (zIR_s (zIR_a (by omega) (by omega))))))))) zSub_nil))
          show ZW _ _ _ _ _ _ _ (130, [some (.ref 2), some (.int 5), some (.int v115_2), some (.int v115_3), some (.int u115_4), some (.int u115_5)], [], M56)
          exact ih130 M56 v115_2 v115_3 u115_4 u115_5 hJ59 (by omega) (by omega) (by have := zt_5; omega)
        · skip
          refine w_ieq_t dX5_readSum_116 (t := 130) rfl (by omega) ?_
          exact ih130 M v115_2 v115_3 u115_4 u115_5 hJ (by omega) (by omega) (by have := zt_5; omega)
      · intro M u130_2 v130_3 u130_4 u130_5 hJ v130_30 v130_31 hn
        refine w_lo dX5_readSum_130 rfl rfl rfl rfl ?_
        refine w_bi dX5_readSum_131 (c := 43) (by decide) ?_
        refine w_iv dX5_readSum_133 rfl rfl (As := [.int 43]) rfl rfl hJ.1.1 zs_2 (Nat.le_of_ble_eq_true rfl) ?_
        refine ZV.imp (k_1299 43 (by have := zt_43; omega) (by have := zt_43; omega) hN hJ.1) ?_
        rintro _ ⟨x63, M60, rfl, h64, h65, hJ61, hq62⟩
        have hJ66 := zJ_trans hJ hJ61 zSub_nil
        show ZW _ _ _ _ _ _ _ (136, [some (.ref 2), some (.int 5), some (.int u130_2), some (.int v130_3), some (.int u130_4), some (.int u130_5)], [.int x63], M60)
        rcases Int.decEq x63.toInt (0 : Int) with h67 | h67
        · skip
          refine w_ieq_f dX5_readSum_136 (t := 144) rfl (by omega) ?_
          refine w_bi dX5_readSum_139 (c := (-12)) (by decide) ?_
          refine w_gt dX5_readSum_141 (t := 159) rfl ?_
          refine w_lo (ml' := [some (.ref 2), some (.int 5), some (.int (-12)), some (.int v130_3), some (.int u130_4), some (.int u130_5)]) dX5_readSum_159 rfl rfl rfl rfl ?_
          refine w_lo dX5_readSum_160 rfl rfl rfl rfl ?_
          refine w_ine_t dX5_readSum_161 (t := 167) rfl (by have := zt_m12; omega) ?_
          refine w_lo dX5_readSum_167 rfl rfl rfl rfl ?_
          refine w_iv dX5_readSum_168 rfl rfl (As := []) rfl rfl hJ66.1.1 zs_2 (Nat.le_of_ble_eq_true rfl) ?_
          refine ZV.imp (k_1289 hN hJ66.1) ?_
          rintro _ ⟨M68, rfl, hJ69, hq70⟩
          have hJ71 := zJ_trans hJ66 hJ69 (zSub_cons (fun _ _ h h' hk => zIR_s (zIR_s (zIR_s (zIR_s (zIR_s (zIR_s (zIR_e (by omega) (by omega) hk))))))) zSub_nil)
          show ZW _ _ _ _ _ _ _ (171, [some (.ref 2), some (.int 5), some (.int (-12)), some (.int v130_3), some (.int u130_4), some (.int u130_5)], [], M68)
          refine w_inc (kk := 3) dX5_readSum_171 rfl (m := 1) (by decide) (by omega) ?_
          intro x72 h73
          refine ⟨_, rfl, ?_⟩
          show ZW _ _ _ _ _ _ _ (174, [some (.ref 2), some (.int 5), some (.int (-12)), some (.int x72), some (.int u130_4), some (.int u130_5)], [], M68)
          refine w_gt dX5_readSum_174 (t := 4) rfl ?_
          exact ih4 M68 (-12) x72 (some (.int u130_4)) (some (.int u130_5)) hJ71 (by have := zt_m12; omega) (by have := zt_m12; omega) (by omega) (by omega) (by have := zt_5; have := zt_m12; omega)
        · skip
          refine w_ieq_t dX5_readSum_136 (t := 144) rfl (by omega) ?_
          refine w_lo dX5_readSum_144 rfl rfl rfl rfl ?_
          refine w_bi dX5_readSum_145 (c := 45) (by decide) ?_
          refine w_iv dX5_readSum_147 rfl rfl (As := [.int 45]) rfl rfl hJ66.1.1 zs_2 (Nat.le_of_ble_eq_true rfl) ?_
          refine ZV.imp (k_1299 45 (by have := zt_45; omega) (by have := zt_45; omega) hN hJ66.1) ?_
          rintro _ ⟨x77, M74, rfl, h78, h79, hJ75, hq76⟩
          have hJ80 := zJ_trans hJ66 hJ75 zSub_nil
          show ZW _ _ _ _ _ _ _ (150, [some (.ref 2), some (.int 5), some (.int u130_2), some (.int v130_3), some (.int u130_4), some (.int u130_5)], [.int x77], M74)
          rcases Int.decEq x77.toInt (0 : Int) with h81 | h81
          · skip
            refine w_ieq_f dX5_readSum_150 (t := 158) rfl (by omega) ?_
            refine w_bi dX5_readSum_153 (c := (-13)) (by decide) ?_
            refine w_gt dX5_readSum_155 (t := 159) rfl ?_
            refine w_lo (ml' := [some (.ref 2), some (.int 5), some (.int (-13)), some (.int v130_3), some (.int u130_4), some (.int u130_5)]) dX5_readSum_159 rfl rfl rfl rfl ?_
            refine w_lo dX5_readSum_160 rfl rfl rfl rfl ?_
            refine w_ine_t dX5_readSum_161 (t := 167) rfl (by have := zt_m13; omega) ?_
            refine w_lo dX5_readSum_167 rfl rfl rfl rfl ?_
            refine w_iv dX5_readSum_168 rfl rfl (As := []) rfl rfl hJ80.1.1 zs_2 (Nat.le_of_ble_eq_true rfl) ?_
            refine ZV.imp (k_1289 hN hJ80.1) ?_
            rintro _ ⟨M82, rfl, hJ83, hq84⟩
            have hJ85 := zJ_trans hJ80 hJ83 (zSub_cons (fun _ _ h h' hk => zIR_s (zIR_s (zIR_s (zIR_s (zIR_s (zIR_s (zIR_e (by omega) (by omega) hk))))))) zSub_nil)
            show ZW _ _ _ _ _ _ _ (171, [some (.ref 2), some (.int 5), some (.int (-13)), some (.int v130_3), some (.int u130_4), some (.int u130_5)], [], M82)
            refine w_inc (kk := 3) dX5_readSum_171 rfl (m := 1) (by decide) (by omega) ?_
            intro x86 h87
            refine ⟨_, rfl, ?_⟩
            show ZW _ _ _ _ _ _ _ (174, [some (.ref 2), some (.int 5), some (.int (-13)), some (.int x86), some (.int u130_4), some (.int u130_5)], [], M82)
            refine w_gt dX5_readSum_174 (t := 4) rfl ?_
            exact ih4 M82 (-13) x86 (some (.int u130_4)) (some (.int u130_5)) hJ85 (by have := zt_m13; omega) (by have := zt_m13; omega) (by omega) (by omega) (by have := zt_5; have := zt_m13; omega)
          · skip
            refine w_ieq_t dX5_readSum_150 (t := 158) rfl (by omega) ?_
            refine w_ic dX5_readSum_158 zi_0 ?_
            refine w_lo (ml' := [some (.ref 2), some (.int 5), some (.int 0), some (.int v130_3), some (.int u130_4), some (.int u130_5)]) dX5_readSum_159 rfl rfl rfl rfl ?_
            refine w_lo dX5_readSum_160 rfl rfl rfl rfl ?_
            refine w_ine_f dX5_readSum_161 (t := 167) rfl (by have := zt_0; omega) ?_
            refine w_gt dX5_readSum_164 (t := 177) rfl ?_
            refine w_ic dX5_readSum_177 zi_1 ?_
            refine w_en dX5_readSum_178 rfl ?_
            exact ⟨_, _, rfl, (by have := zt_1; omega), (by have := zt_1; omega), hJ80, trivial⟩
  obtain ⟨ih4, ih17, ih52, ih95, ih115, ih130⟩ := main 20582531
  show ZW _ _ _ _ _ _ _ (0, [some (.ref 2), some (.int 5), none, none, none, none], [], M0)
  refine w_ic dX5_readSum_0 zi_0 ?_
  refine w_lo (ml' := [some (.ref 2), some (.int 5), some (.int 0), none, none, none]) dX5_readSum_1 rfl rfl rfl rfl ?_
  refine w_ic dX5_readSum_2 zi_0 ?_
  refine w_lo (ml' := [some (.ref 2), some (.int 5), some (.int 0), some (.int 0), none, none]) dX5_readSum_3 rfl rfl rfl rfl ?_
  exact ih4 M0 0 0 none none hJ0 (by have := zt_0; omega) (by have := zt_0; omega) (by have := zt_0; omega) (by have := zt_0; omega) (by have := zt_5; have := zt_0; omega)
