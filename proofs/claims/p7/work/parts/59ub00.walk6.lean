/-! walks of the Reader by pure conditions (wip/safe/gen32.py) -/
set_option maxRecDepth 100000 in
theorem u_513 {X : List Int32} {d N : Nat} {M0 : zM} (t : Nat) (ht : zLw t) (hN : N ≤ 600) (hB0 : zB N M0) {Q : zF → Prop} (hb : b_513 t (zi M0) Q) : ZV X (d + 1) 513 [.ref t] M0 (zRV N [(t, t + 1, 0), (t, t + 1, 1)] M0 (fun M' => Q (zi M'))) := by
  have hbt := zLw_b ht
  have hJ0 : zJ N [(t, t + 1, 0), (t, t + 1, 1)] M0 M0 := zJ_refl hB0
  refine ZV.of (ini := false) rfl (Nat.le_of_ble_eq_true rfl) (by decide +kernel) ?_
  unfold b_513 at hb
  replace hb : zHd _ := hb
  show ZW _ _ _ _ _ _ _ (0, [some (.ref t)], [], M0)
  refine w_lo dX2_empty_0 rfl rfl rfl rfl ?_
  refine w_ic dX2_empty_1 zi_0 ?_
  refine w_pfi dX2_empty_2 rfl hJ0 (zs_2_0 ht) (Nat.le_of_ble_eq_true rfl) (zo_2_0_0 ht) (by have := zt_0; omega) (by have := zt_0; omega) (zIR_k (by omega) (by omega)) rfl rfl rfl ?_
  intro M1 hJ2 f3 hn4
  replace hb : zHd _ := hb (zi M1) (zi_zup hn4 f3 rfl zt_0)
  refine w_lo dX2_empty_5 rfl rfl rfl rfl ?_
  refine w_ic dX2_empty_6 zi_0 ?_
  refine w_pfi dX2_empty_7 rfl hJ2 (zs_2_0 ht) (Nat.le_of_ble_eq_true rfl) (zo_2_0_1 ht) (by have := zt_0; omega) (by have := zt_0; omega) (zIR_s (zIR_k (by omega) (by omega))) rfl rfl rfl ?_
  intro M6 hJ7 f8 hn9
  replace hb : zHd _ := hb (zi M6) (zi_zup hn9 f8 rfl zt_0)
  refine w_en dX2_empty_10 rfl ?_
  exact ⟨_, rfl, hJ7, hb⟩
set_option maxRecDepth 100000 in
theorem u_257 {X : List Int32} {d N : Nat} {M0 : zM} (t : Nat) (ht : zDm t) (hN : N ≤ 600) (hB0 : zB N M0) {Q : zF → Prop} (hb : b_257 t (zi M0) Q) : ZV X (d + 2) 257 [.ref t] M0 (zRV N [(t, t + 1, 0), (t + 13, t + 14, 0), (t, t + 1, 1), (t + 13, t + 14, 1), (t + 12, t + 13, 1000), (t, t + 1, 2)] M0 (fun M' => Q (zi M'))) := by
  have hbt := zDm_b ht
  have hJ0 : zJ N [(t, t + 1, 0), (t + 13, t + 14, 0), (t, t + 1, 1), (t + 13, t + 14, 1), (t + 12, t + 13, 1000), (t, t + 1, 2)] M0 M0 := zJ_refl hB0
  refine ZV.of (ini := false) rfl (Nat.le_of_ble_eq_true rfl) (by decide +kernel) ?_
  unfold b_257 at hb
  replace hb : zHd _ := hb
  show ZW _ _ _ _ _ _ _ (0, [some (.ref t)], [], M0)
  refine w_lo dX1_empty_0 rfl rfl rfl rfl ?_
  refine w_ic dX1_empty_1 zi_0 ?_
  refine w_pfi dX1_empty_2 rfl hJ0 (zs_1_0 ht) (Nat.le_of_ble_eq_true rfl) (zo_1_0_0 ht) (by have := zt_0; omega) (by have := zt_0; omega) (zIR_k (by omega) (by omega)) rfl rfl rfl ?_
  intro M1 hJ2 f3 hn4
  replace hb : zHd _ := hb (zi M1) (zi_zup hn4 f3 rfl zt_0)
  refine w_lo dX1_empty_5 rfl rfl rfl rfl ?_
  refine w_ic dX1_empty_6 zi_0 ?_
  refine w_pfi dX1_empty_7 rfl hJ2 (zs_1_0 ht) (Nat.le_of_ble_eq_true rfl) (zo_1_0_1 ht) (by have := zt_0; omega) (by have := zt_0; omega) (zIR_s (zIR_s (zIR_k (by omega) (by omega)))) rfl rfl rfl ?_
  intro M6 hJ7 f8 hn9
  replace hb : zHd _ := hb (zi M6) (zi_zup hn9 f8 rfl zt_0)
  refine w_lo dX1_empty_10 rfl rfl rfl rfl ?_
  refine w_ic dX1_empty_11 zi_0 ?_
  refine w_pfi dX1_empty_12 rfl hJ7 (zs_1_0 ht) (Nat.le_of_ble_eq_true rfl) (zo_1_0_2 ht) (by have := zt_0; omega) (by have := zt_0; omega) (zIR_s (zIR_s (zIR_s (zIR_s (zIR_s (zIR_k (by omega) (by omega))))))) rfl rfl rfl ?_
  intro M11 hJ12 f13 hn14
  replace hb : zHd _ := hb (zi M11) (zi_zup hn14 f13 rfl zt_0)
  refine w_lo dX1_empty_15 rfl rfl rfl rfl ?_
  refine w_gf dX1_empty_16 rfl hJ12.1.1 (zs_1_0 ht) (zr_1_0_14 ht hJ12.1) ?_
  refine w_ic dX1_empty_19 zi_0 ?_
  refine w_ss dX1_empty_20 rfl rfl (As := [.ref (t + 12), .int 0]) rfl rfl (Nat.le_of_ble_eq_true rfl) ?_
  refine ZV.imp (k_3072 (t + 12) _ _ _ (zs_1_12 ht) (zu_1_12 ht) (Nat.le_of_ble_eq_true rfl) (by decide) (by decide) 0 (by have := zt_0; omega) (by have := zt_0; omega) hN hJ12.1) ?_
  rintro _ ⟨M16, rfl, hJ17, hq18⟩
  replace hb : zHd _ := hb  (zi M16) (zi_fr hJ17.2)
  have hJ20 := zJ_trans hJ12 hJ17 (zSub_cons (fun _ _ h h' hk => zIR_s (zIR_s (zIR_s (zIR_s (zIR_a (by omega) (by omega)))))) zSub_nil)
  show ZW _ _ _ _ _ _ _ (23, [some (.ref t)], [], M16)
  refine w_lo dX1_empty_23 rfl rfl rfl rfl ?_
  refine w_gf dX1_empty_24 rfl hJ20.1.1 (zs_1_0 ht) (zr_1_0_15 ht hJ20.1) ?_
  refine w_iv dX1_empty_27 rfl rfl (As := []) rfl rfl hJ20.1.1 (zs_1_13 ht) (Nat.le_of_ble_eq_true rfl) ?_
  obtain ⟨P23, hp24, hb⟩ := hb
  replace hb : zHd _ := hb
  refine ZV.imp (u_513 (t + 13) (zLw_of ht) hN hJ20.1 hp24) ?_
  rintro _ ⟨M21, rfl, hJ22, hq25⟩
  replace hb : zHd _ := hb  (zi M21) (zi_fr hJ22.2) hq25
  have hJ27 := zJ_trans hJ20 hJ22 (zSub_cons (fun _ _ h h' hk => zIR_s (zIR_e (by omega) (by omega) hk)) (zSub_cons (fun _ _ h h' hk => zIR_s (zIR_s (zIR_s (zIR_e (by omega) (by omega) hk)))) zSub_nil))
  show ZW _ _ _ _ _ _ _ (30, [some (.ref t)], [], M21)
  refine w_en dX1_empty_30 rfl ?_
  exact ⟨_, rfl, hJ27, hb⟩
set_option maxRecDepth 100000 in
theorem u_258 {X : List Int32} {d N : Nat} {M0 : zM} (t : Nat) (ht : zDm t) (a0 : Int32) (hN : N ≤ 600) (hB0 : zB N M0) {Q : Int → zF → Prop} (hb : b_258 t (zi M0) a0.toInt Q) : ZV X (d + 1) 258 [.ref t, .int a0] M0 (zRI N [] M0 (0) (1) (fun v M' => Q v.toInt (zi M'))) := by
  have hbt := zDm_b ht
  have hJ0 : zJ N [] M0 M0 := zJ_refl hB0
  refine ZV.of (ini := false) rfl (Nat.le_of_ble_eq_true rfl) (by decide +kernel) ?_
  obtain ⟨I2, I30, hbE, hb2, hb30⟩ := hb
  replace hbE : zHd _ := hbE
  replace hb2 : zHd _ := hb2
  replace hb30 : zHd _ := hb30
  have main : ∀ n : Nat,
      (∀ (M : zM) (v2_1 : Int32) (v2_2 : Int32), zJ N [] M0 M → ((-2147483648 : Int) ≤ v2_1.toInt) → (v2_1.toInt ≤ 2147483647) → ((0 : Int) ≤ v2_2.toInt) → (v2_2.toInt ≤ 12) → I2 n (zi M) v2_1.toInt v2_2.toInt → ZW X (d + 0) 1 false (some .boolean) cX1_isTaken (zRI N [] M0 (0) (1) (fun v M' => Q v.toInt (zi M'))) (2, [some (.ref t), some (.int v2_1), some (.int v2_2)], [], M)) ∧
      (∀ (M : zM) (v30_1 : Int32) (v30_2 : Int32), zJ N [] M0 M → ((-2147483648 : Int) ≤ v30_1.toInt) → (v30_1.toInt ≤ 2147483647) → ((0 : Int) ≤ v30_2.toInt) → (v30_2.toInt ≤ 6) → I30 n (zi M) v30_1.toInt v30_2.toInt → ZW X (d + 0) 1 false (some .boolean) cX1_isTaken (zRI N [] M0 (0) (1) (fun v M' => Q v.toInt (zi M'))) (30, [some (.ref t), some (.int v30_1), some (.int v30_2)], [], M)) := by
    intro n
    induction n using Nat.strongRecOn with
    | _ n ih =>
      refine ⟨?_, ?_⟩
      · intro M v2_1 v2_2 hJ v2_10 v2_11 v2_20 v2_21 hI
        have hb : zHd _ := hb2 n (zi M) v2_1.toInt v2_2.toInt (zi_fr hJ.2) v2_20 v2_21 hI
        refine w_lo dX1_isTaken_2 rfl rfl rfl rfl ?_
        refine w_lo dX1_isTaken_3 rfl rfl rfl rfl ?_
        refine w_gfi dX1_isTaken_4 rfl hJ.1 (zs_1_0 ht) (Nat.le_of_ble_eq_true rfl) (zo_1_0_1 ht) ?_
        intro x1 f2 h3 h4
        replace hb : zHd _ := hb x1.toInt (ziE f2) h3 h4
        rcases zcut v2_2.toInt x1.toInt with h5 | h5
        · skip
          replace hb : zHd _ := hb.1 h5
          refine w_cge_f dX1_isTaken_7 (t := 28) rfl (by omega) ?_
          refine w_lo dX1_isTaken_10 rfl rfl rfl rfl ?_
          refine w_gf dX1_isTaken_11 rfl hJ.1.1 (zs_1_0 ht) (zr_1_0_3 ht hJ.1) ?_
          refine w_lo dX1_isTaken_14 rfl rfl rfl rfl ?_
          refine w_iai dX1_isTaken_15 hJ.1 (zs_1_1 ht) (by omega) (by omega) (zu_1_1 ht) ?_
          intro x9 f6 h7 h8
          replace hb : zHd _ := hb x9.toInt (ziEk f6 rfl)
          refine w_lo dX1_isTaken_16 rfl rfl rfl rfl ?_
          rcases Int.decEq x9.toInt v2_1.toInt with h10 | h10
          · skip
            replace hb : zHd _ := hb.1 h10
            refine w_cne_t dX1_isTaken_17 (t := 22) rfl (by omega) ?_
            refine w_inc (kk := 2) dX1_isTaken_22 rfl (m := 1) (by decide) (by omega) ?_
            intro x11 h12
            refine ⟨_, rfl, ?_⟩
            replace hb : zHd _ := hb x11.toInt h12
            show ZW _ _ _ _ _ _ _ (25, [some (.ref t), some (.int v2_1), some (.int x11)], [], M)
            refine w_gt dX1_isTaken_25 (t := 2) rfl ?_
            obtain ⟨m, hm, hI⟩ := hb
            exact (ih m hm).1 M v2_1 x11 hJ (zbot _) (ztop _) (by omega) (by omega) hI
          · skip
            replace hb : zHd _ := hb.2 h10
            refine w_cne_f dX1_isTaken_17 (t := 22) rfl (by omega) ?_
            refine w_ic dX1_isTaken_20 zi_1 ?_
            refine w_en dX1_isTaken_21 rfl ?_
            exact ⟨_, _, rfl, (by have := zt_1; omega), (by have := zt_1; omega), hJ, hb⟩
        · skip
          replace hb : zHd _ := hb.2 h5
          refine w_cge_t dX1_isTaken_7 (t := 28) rfl (by omega) ?_
          refine w_ic dX1_isTaken_28 zi_0 ?_
          refine w_lo (ml' := [some (.ref t), some (.int v2_1), some (.int 0)]) dX1_isTaken_29 rfl rfl rfl rfl ?_
          obtain ⟨m, hm, hI⟩ := hb
          exact (ih m hm).2 M v2_1 0 hJ (zbot _) (ztop _) (by have := zt_0; omega) (by have := zt_0; omega) hI
      · intro M v30_1 v30_2 hJ v30_10 v30_11 v30_20 v30_21 hI
        have hb : zHd _ := hb30 n (zi M) v30_1.toInt v30_2.toInt (zi_fr hJ.2) v30_20 v30_21 hI
        refine w_lo dX1_isTaken_30 rfl rfl rfl rfl ?_
        refine w_lo dX1_isTaken_31 rfl rfl rfl rfl ?_
        refine w_gfi dX1_isTaken_32 rfl hJ.1 (zs_1_0 ht) (Nat.le_of_ble_eq_true rfl) (zo_1_0_2 ht) ?_
        intro x13 f14 h15 h16
        replace hb : zHd _ := hb x13.toInt (ziE f14) h15 h16
        rcases zcut v30_2.toInt x13.toInt with h17 | h17
        · skip
          replace hb : zHd _ := hb.1 h17
          refine w_cge_f dX1_isTaken_35 (t := 56) rfl (by omega) ?_
          refine w_lo dX1_isTaken_38 rfl rfl rfl rfl ?_
          refine w_gf dX1_isTaken_39 rfl hJ.1.1 (zs_1_0 ht) (zr_1_0_9 ht hJ.1) ?_
          refine w_lo dX1_isTaken_42 rfl rfl rfl rfl ?_
          refine w_iai dX1_isTaken_43 hJ.1 (zs_1_7 ht) (by omega) (by omega) (zu_1_7 ht) ?_
          intro x21 f18 h19 h20
          replace hb : zHd _ := hb x21.toInt (ziEk f18 rfl)
          refine w_lo dX1_isTaken_44 rfl rfl rfl rfl ?_
          rcases Int.decEq x21.toInt v30_1.toInt with h22 | h22
          · skip
            replace hb : zHd _ := hb.1 h22
            refine w_cne_t dX1_isTaken_45 (t := 50) rfl (by omega) ?_
            refine w_inc (kk := 2) dX1_isTaken_50 rfl (m := 1) (by decide) (by omega) ?_
            intro x23 h24
            refine ⟨_, rfl, ?_⟩
            replace hb : zHd _ := hb x23.toInt h24
            show ZW _ _ _ _ _ _ _ (53, [some (.ref t), some (.int v30_1), some (.int x23)], [], M)
            refine w_gt dX1_isTaken_53 (t := 30) rfl ?_
            obtain ⟨m, hm, hI⟩ := hb
            exact (ih m hm).2 M v30_1 x23 hJ (zbot _) (ztop _) (by omega) (by omega) hI
          · skip
            replace hb : zHd _ := hb.2 h22
            refine w_cne_f dX1_isTaken_45 (t := 50) rfl (by omega) ?_
            refine w_ic dX1_isTaken_48 zi_1 ?_
            refine w_en dX1_isTaken_49 rfl ?_
            exact ⟨_, _, rfl, (by have := zt_1; omega), (by have := zt_1; omega), hJ, hb⟩
        · skip
          replace hb : zHd _ := hb.2 h17
          refine w_cge_t dX1_isTaken_35 (t := 56) rfl (by omega) ?_
          refine w_ic dX1_isTaken_56 zi_0 ?_
          refine w_en dX1_isTaken_57 rfl ?_
          exact ⟨_, _, rfl, (by have := zt_0; omega), (by have := zt_0; omega), hJ, hb⟩
  have hb : zHd _ := hbE
  show ZW _ _ _ _ _ _ _ (0, [some (.ref t), some (.int a0), none], [], M0)
  refine w_ic dX1_isTaken_0 zi_0 ?_
  refine w_lo (ml' := [some (.ref t), some (.int a0), some (.int 0)]) dX1_isTaken_1 rfl rfl rfl rfl ?_
  obtain ⟨m, hI⟩ := hb
  exact (main m).1 M0 a0 0 hJ0 (zbot _) (ztop _) (by have := zt_0; omega) (by have := zt_0; omega) hI
set_option maxRecDepth 100000 in
theorem u_514 {X : List Int32} {d N : Nat} {M0 : zM} (t : Nat) (ht : zLw t) (a0 : Int32) (ha00 : (0 : Int) ≤ a0.toInt) (ha01 : a0.toInt ≤ 1) (hN : N ≤ 600) (hB0 : zB N M0) {Q : zF → Prop} (hb : b_514 t (zi M0) a0.toInt Q) : ZV X (d + 1) 514 [.ref t, .int a0] M0 (zRV N [(t + 2, t + 4, 1000)] M0 (fun M' => Q (zi M'))) := by
  have hbt := zLw_b ht
  have hJ0 : zJ N [(t + 2, t + 4, 1000)] M0 M0 := zJ_refl hB0
  refine ZV.of (ini := false) rfl (Nat.le_of_ble_eq_true rfl) (by decide +kernel) ?_
  unfold b_514 at hb
  replace hb : zHd _ := hb
  show ZW _ _ _ _ _ _ _ (0, [some (.ref t), some (.int a0)], [], M0)
  refine w_lo dX2_beginSum_0 rfl rfl rfl rfl ?_
  refine w_gfi dX2_beginSum_1 rfl hJ0.1 (zs_2_0 ht) (Nat.le_of_ble_eq_true rfl) (zo_2_0_0 ht) ?_
  intro x1 f2 h3 h4
  replace hb : zHd _ := hb x1.toInt (ziE f2) h3 h4
  refine w_bi dX2_beginSum_4 (c := 8) (by decide) ?_
  rcases zcut x1.toInt (8 : Int) with h5 | h5
  · skip
    replace hb : zHd _ := hb.1 h5
    refine w_cge_f dX2_beginSum_6 (t := 32) rfl (by have := zt_8; omega) ?_
    refine w_lo dX2_beginSum_9 rfl rfl rfl rfl ?_
    refine w_gf dX2_beginSum_10 rfl hJ0.1.1 (zs_2_0 ht) (zr_2_0_3 ht hJ0.1) ?_
    refine w_lo dX2_beginSum_13 rfl rfl rfl rfl ?_
    refine w_gf dX2_beginSum_14 rfl hJ0.1.1 (zs_2_0 ht) f2 ?_
    refine w_lo dX2_beginSum_17 rfl rfl rfl rfl ?_
    refine w_bsi dX2_beginSum_18 hJ0 (zs_2_2 ht) (by omega) (by omega) (zu_2_2 ht) (by omega) (by omega) (zIR_a (by omega) (by omega)) ?_
    intro M6 hJ7 f8 hn9
    replace hb : zHd _ := hb (zi M6) (zi_zup hn9 f8 rfl rfl)
    refine w_lo dX2_beginSum_19 rfl rfl rfl rfl ?_
    refine w_gf dX2_beginSum_20 rfl hJ7.1.1 (zs_2_0 ht) (zr_2_0_4 ht hJ7.1) ?_
    refine w_lo dX2_beginSum_23 rfl rfl rfl rfl ?_
    have f11 := (hn9 (t) 0 (Or.inl (by omega))).trans (f2)
    refine w_gf dX2_beginSum_24 rfl hJ7.1.1 (zs_2_0 ht) f11 ?_
    refine w_lo dX2_beginSum_27 rfl rfl rfl rfl ?_
    refine w_gfi dX2_beginSum_28 rfl hJ7.1 (zs_2_0 ht) (Nat.le_of_ble_eq_true rfl) (zo_2_0_1 ht) ?_
    intro x12 f13 h14 h15
    replace hb : zHd _ := hb x12.toInt (ziE f13) h14 h15
    refine w_isi dX2_beginSum_31 hJ7 (zs_2_3 ht) (by omega) (by omega) (zu_2_3 ht) (by omega) (by omega) (zIR_a (by omega) (by omega)) ?_
    intro M16 hJ17 f18 hn19
    replace hb : zHd _ := hb (zi M16) (zi_zup hn19 f18 rfl rfl)
    refine w_en dX2_beginSum_32 rfl ?_
    exact ⟨_, rfl, hJ17, hb⟩
  · skip
    replace hb : zHd _ := hb.2 h5
    refine w_cge_t dX2_beginSum_6 (t := 32) rfl (by have := zt_8; omega) ?_
    refine w_en dX2_beginSum_32 rfl ?_
    exact ⟨_, rfl, hJ0, hb⟩
set_option maxRecDepth 100000 in
theorem u_515 {X : List Int32} {d N : Nat} {M0 : zM} (t : Nat) (ht : zLw t) (a0 : Int32) (hN : N ≤ 600) (hB0 : zB N M0) {Q : zF → Prop} (hb : b_515 t (zi M0) a0.toInt Q) : ZV X (d + 1) 515 [.ref t, .int a0] M0 (zRV N [(t, t + 1, 1), (t + 1, t + 2, 1000)] M0 (fun M' => Q (zi M'))) := by
  have hbt := zLw_b ht
  have hJ0 : zJ N [(t, t + 1, 1), (t + 1, t + 2, 1000)] M0 M0 := zJ_refl hB0
  refine ZV.of (ini := false) rfl (Nat.le_of_ble_eq_true rfl) (by decide +kernel) ?_
  unfold b_515 at hb
  replace hb : zHd _ := hb
  show ZW _ _ _ _ _ _ _ (0, [some (.ref t), some (.int a0)], [], M0)
  refine w_lo dX2_put_0 rfl rfl rfl rfl ?_
  refine w_gfi dX2_put_1 rfl hJ0.1 (zs_2_0 ht) (Nat.le_of_ble_eq_true rfl) (zo_2_0_1 ht) ?_
  intro x1 f2 h3 h4
  replace hb : zHd _ := hb x1.toInt (ziE f2) h3 h4
  refine w_si dX2_put_4 (c := 1600) (by decide) ?_
  rcases zcut x1.toInt (1600 : Int) with h5 | h5
  · skip
    replace hb : zHd _ := hb.1 h5
    refine w_cge_f dX2_put_7 (t := 30) rfl (by have := zt_1600; omega) ?_
    refine w_lo dX2_put_10 rfl rfl rfl rfl ?_
    refine w_gf dX2_put_11 rfl hJ0.1.1 (zs_2_0 ht) (zr_2_0_2 ht hJ0.1) ?_
    refine w_lo dX2_put_14 rfl rfl rfl rfl ?_
    refine w_gf dX2_put_15 rfl hJ0.1.1 (zs_2_0 ht) f2 ?_
    refine w_lo dX2_put_18 rfl rfl rfl rfl ?_
    refine w_isi dX2_put_19 hJ0 (zs_2_1 ht) (by omega) (by omega) (zu_2_1 ht) (zbot _) (ztop _) (zIR_s (zIR_a (by omega) (by omega))) ?_
    intro M6 hJ7 f8 hn9
    replace hb : zHd _ := hb (zi M6) (zi_zup hn9 f8 rfl rfl)
    refine w_lo dX2_put_20 rfl rfl rfl rfl ?_
    refine w_pu dX2_put_21 rfl rfl ?_
    have f11 := (hn9 (t) 1 (Or.inl (by omega))).trans (f2)
    refine w_gf dX2_put_22 rfl hJ7.1.1 (zs_2_0 ht) f11 ?_
    refine w_ic dX2_put_25 zi_1 ?_
    refine w_add dX2_put_26 (by have := zt_1; omega) ?_
    intro x12 h13
    have := zt_1
    replace hb : zHd _ := hb x12.toInt (by have := zt_1; omega)
    refine w_pfi dX2_put_27 rfl hJ7 (zs_2_0 ht) (Nat.le_of_ble_eq_true rfl) (zo_2_0_1 ht) (by omega) (by omega) (zIR_k (by omega) (by omega)) rfl rfl rfl ?_
    intro M14 hJ15 f16 hn17
    replace hb : zHd _ := hb (zi M14) (zi_zup hn17 f16 rfl rfl)
    refine w_en dX2_put_30 rfl ?_
    exact ⟨_, rfl, hJ15, hb⟩
  · skip
    replace hb : zHd _ := hb.2 h5
    refine w_cge_t dX2_put_7 (t := 30) rfl (by have := zt_1600; omega) ?_
    refine w_en dX2_put_30 rfl ?_
    exact ⟨_, rfl, hJ0, hb⟩
set_option maxRecDepth 100000 in
theorem u_516 {X : List Int32} {d N : Nat} {M0 : zM} (t : Nat) (ht : zLw t) (hN : N ≤ 600) (hB0 : zB N M0) {Q : zF → Prop} (hb : b_516 t (zi M0) Q) : ZV X (d + 1) 516 [.ref t] M0 (zRV N [(t + 4, t + 5, 1000)] M0 (fun M' => Q (zi M'))) := by
  have hbt := zLw_b ht
  have hJ0 : zJ N [(t + 4, t + 5, 1000)] M0 M0 := zJ_refl hB0
  refine ZV.of (ini := false) rfl (Nat.le_of_ble_eq_true rfl) (by decide +kernel) ?_
  unfold b_516 at hb
  replace hb : zHd _ := hb
  show ZW _ _ _ _ _ _ _ (0, [some (.ref t)], [], M0)
  refine w_lo dX2_beginTest_0 rfl rfl rfl rfl ?_
  refine w_gfi dX2_beginTest_1 rfl hJ0.1 (zs_2_0 ht) (Nat.le_of_ble_eq_true rfl) (zo_2_0_0 ht) ?_
  intro x1 f2 h3 h4
  replace hb : zHd _ := hb x1.toInt (ziE f2) h3 h4
  refine w_bi dX2_beginTest_4 (c := 8) (by decide) ?_
  rcases zcut x1.toInt (8 : Int) with h5 | h5
  · skip
    replace hb : zHd _ := hb.1 h5
    refine w_cge_f dX2_beginTest_6 (t := 22) rfl (by have := zt_8; omega) ?_
    refine w_lo dX2_beginTest_9 rfl rfl rfl rfl ?_
    refine w_gf dX2_beginTest_10 rfl hJ0.1.1 (zs_2_0 ht) (zr_2_0_5 ht hJ0.1) ?_
    refine w_lo dX2_beginTest_13 rfl rfl rfl rfl ?_
    refine w_gf dX2_beginTest_14 rfl hJ0.1.1 (zs_2_0 ht) f2 ?_
    refine w_lo dX2_beginTest_17 rfl rfl rfl rfl ?_
    refine w_gfi dX2_beginTest_18 rfl hJ0.1 (zs_2_0 ht) (Nat.le_of_ble_eq_true rfl) (zo_2_0_1 ht) ?_
    intro x6 f7 h8 h9
    replace hb : zHd _ := hb x6.toInt (ziE f7) h8 h9
    refine w_isi dX2_beginTest_21 hJ0 (zs_2_4 ht) (by omega) (by omega) (zu_2_4 ht) (by omega) (by omega) (zIR_a (by omega) (by omega)) ?_
    intro M10 hJ11 f12 hn13
    replace hb : zHd _ := hb (zi M10) (zi_zup hn13 f12 rfl rfl)
    refine w_en dX2_beginTest_22 rfl ?_
    exact ⟨_, rfl, hJ11, hb⟩
  · skip
    replace hb : zHd _ := hb.2 h5
    refine w_cge_t dX2_beginTest_6 (t := 22) rfl (by have := zt_8; omega) ?_
    refine w_en dX2_beginTest_22 rfl ?_
    exact ⟨_, rfl, hJ0, hb⟩
set_option maxRecDepth 100000 in
theorem u_517 {X : List Int32} {d N : Nat} {M0 : zM} (t : Nat) (ht : zLw t) (hN : N ≤ 600) (hB0 : zB N M0) {Q : zF → Prop} (hb : b_517 t (zi M0) Q) : ZV X (d + 1) 517 [.ref t] M0 (zRV N [(t, t + 1, 0), (t + 5, t + 6, 1000)] M0 (fun M' => Q (zi M'))) := by
  have hbt := zLw_b ht
  have hJ0 : zJ N [(t, t + 1, 0), (t + 5, t + 6, 1000)] M0 M0 := zJ_refl hB0
  refine ZV.of (ini := false) rfl (Nat.le_of_ble_eq_true rfl) (by decide +kernel) ?_
  unfold b_517 at hb
  replace hb : zHd _ := hb
  show ZW _ _ _ _ _ _ _ (0, [some (.ref t)], [], M0)
  refine w_lo dX2_close_0 rfl rfl rfl rfl ?_
  refine w_gfi dX2_close_1 rfl hJ0.1 (zs_2_0 ht) (Nat.le_of_ble_eq_true rfl) (zo_2_0_0 ht) ?_
  intro x1 f2 h3 h4
  replace hb : zHd _ := hb x1.toInt (ziE f2) h3 h4
  refine w_bi dX2_close_4 (c := 8) (by decide) ?_
  rcases zcut x1.toInt (8 : Int) with h5 | h5
  · skip
    replace hb : zHd _ := hb.1 h5
    refine w_cge_f dX2_close_6 (t := 32) rfl (by have := zt_8; omega) ?_
    refine w_lo dX2_close_9 rfl rfl rfl rfl ?_
    refine w_gf dX2_close_10 rfl hJ0.1.1 (zs_2_0 ht) (zr_2_0_6 ht hJ0.1) ?_
    refine w_lo dX2_close_13 rfl rfl rfl rfl ?_
    refine w_gf dX2_close_14 rfl hJ0.1.1 (zs_2_0 ht) f2 ?_
    refine w_lo dX2_close_17 rfl rfl rfl rfl ?_
    refine w_gfi dX2_close_18 rfl hJ0.1 (zs_2_0 ht) (Nat.le_of_ble_eq_true rfl) (zo_2_0_1 ht) ?_
    intro x6 f7 h8 h9
    replace hb : zHd _ := hb x6.toInt (ziE f7) h8 h9
    refine w_isi dX2_close_21 hJ0 (zs_2_5 ht) (by omega) (by omega) (zu_2_5 ht) (by omega) (by omega) (zIR_s (zIR_a (by omega) (by omega))) ?_
    intro M10 hJ11 f12 hn13
    replace hb : zHd _ := hb (zi M10) (zi_zup hn13 f12 rfl rfl)
    refine w_lo dX2_close_22 rfl rfl rfl rfl ?_
    refine w_pu dX2_close_23 rfl rfl ?_
    have f15 := (hn13 (t) 0 (Or.inl (by omega))).trans (f2)
    refine w_gf dX2_close_24 rfl hJ11.1.1 (zs_2_0 ht) f15 ?_
    refine w_ic dX2_close_27 zi_1 ?_
    refine w_add dX2_close_28 (by have := zt_1; omega) ?_
    intro x16 h17
    have := zt_1
    replace hb : zHd _ := hb x16.toInt (by have := zt_1; omega)
    refine w_pfi dX2_close_29 rfl hJ11 (zs_2_0 ht) (Nat.le_of_ble_eq_true rfl) (zo_2_0_0 ht) (by omega) (by omega) (zIR_k (by omega) (by omega)) rfl rfl rfl ?_
    intro M18 hJ19 f20 hn21
    replace hb : zHd _ := hb (zi M18) (zi_zup hn21 f20 rfl rfl)
    refine w_en dX2_close_32 rfl ?_
    exact ⟨_, rfl, hJ19, hb⟩
  · skip
    replace hb : zHd _ := hb.2 h5
    refine w_cge_t dX2_close_6 (t := 32) rfl (by have := zt_8; omega) ?_
    refine w_en dX2_close_32 rfl ?_
    exact ⟨_, rfl, hJ0, hb⟩
set_option maxRecDepth 100000 in
theorem u_1283 {X : List Int32} {d N : Nat} {M0 : zM} (a0 : Int32) (ha00 : (0 : Int) ≤ a0.toInt) (ha01 : a0.toInt ≤ 255) (hN : N ≤ 600) (hB0 : zB N M0) {Q : Int → zF → Prop} (hb : b_1283 (zi M0) a0.toInt Q) : ZV X (d + 5) 1283 [.int a0] M0 (zRI N [] M0 (0) (5) (fun v M' => Q v.toInt (zi M'))) := by
  have hJ0 : zJ N [] M0 M0 := zJ_refl hB0
  refine ZV.of (ini := false) rfl (Nat.le_of_ble_eq_true rfl) (by decide +kernel) ?_
  obtain ⟨I28, hbE, hb28⟩ := hb
  replace hbE : zHd _ := hbE
  replace hb28 : zHd _ := hb28
  have main : ∀ n : Nat,
      (∀ (M : zM) (v28_0 : Int32), zJ N [] M0 M → ((0 : Int) ≤ v28_0.toInt) → (v28_0.toInt ≤ 255) → I28 n (zi M) v28_0.toInt → ZW X (d + 4) 5 false (some .int) cX5_kindOf (zRI N [] M0 (0) (5) (fun v M' => Q v.toInt (zi M'))) (28, [some (.int v28_0)], [], M)) := by
    intro n
    induction n using Nat.strongRecOn with
    | _ n ih =>
      · intro M v28_0 hJ v28_00 v28_01 hI
        have hb : zHd _ := hb28 n (zi M) v28_0.toInt (zi_fr hJ.2) v28_00 v28_01 hI
        refine w_lo dX5_kindOf_28 rfl rfl rfl rfl ?_
        refine w_bi dX5_kindOf_29 (c := 48) (by decide) ?_
        rcases zcut v28_0.toInt (48 : Int) with h1 | h1
        · skip
          replace hb : zHd _ := hb.1 h1
          refine w_clt_t dX5_kindOf_31 (t := 42) rfl (by have := zt_48; omega) ?_
          refine w_lo dX5_kindOf_42 rfl rfl rfl rfl ?_
          rcases zcut (0 : Int) v28_0.toInt with h2 | h2
          · skip
            replace hb : zHd _ := hb.1 h2
            refine w_ile_f dX5_kindOf_43 (t := 60) rfl (by omega) ?_
            refine w_me (st' := [.ref 1000002]) dX5_kindOf_46 rfl rfl rfl rfl rfl ?_
            refine w_lo dX5_kindOf_48 rfl rfl rfl rfl ?_
            refine w_exE dX5_kindOf_49 rfl rfl ?_
            intro x3 h4
            replace hb : zHd _ := hb x3.toInt (by rw [h4, zxi2c_i])
            refine w_ixE dX5_kindOf_50 rfl (Nat.le_of_ble_eq_true rfl) ?_
            intro x5 h6
            replace hb : zHd _ := hb x5.toInt h6
            show ZW _ _ _ _ _ _ _ (53, [some (.int v28_0)], [.int x5], M)
            rcases zcut x5.toInt (0 : Int) with h7 | h7
            · skip
              replace hb : zHd _ := hb.1 h7
              refine w_ilt_t dX5_kindOf_53 (t := 60) rfl (by omega) ?_
              refine w_ic dX5_kindOf_60 zi_1 ?_
              refine w_en dX5_kindOf_61 rfl ?_
              exact ⟨_, _, rfl, (by have := zt_1; omega), (by have := zt_1; omega), hJ, hb⟩
            · skip
              replace hb : zHd _ := hb.2 h7
              refine w_ilt_f dX5_kindOf_53 (t := 60) rfl (by omega) ?_
              refine w_ic dX5_kindOf_56 zi_5 ?_
              refine w_gt dX5_kindOf_57 (t := 61) rfl ?_
              refine w_en dX5_kindOf_61 rfl ?_
              exact ⟨_, _, rfl, (by have := zt_5; omega), (by have := zt_5; omega), hJ, hb⟩
          · skip
            replace hb : zHd _ := hb.2 h2
            refine w_ile_t dX5_kindOf_43 (t := 60) rfl (by omega) ?_
            refine w_ic dX5_kindOf_60 zi_1 ?_
            refine w_en dX5_kindOf_61 rfl ?_
            exact ⟨_, _, rfl, (by have := zt_1; omega), (by have := zt_1; omega), hJ, hb⟩
        · skip
          replace hb : zHd _ := hb.2 h1
          refine w_clt_f dX5_kindOf_31 (t := 42) rfl (by have := zt_48; omega) ?_
          refine w_lo dX5_kindOf_34 rfl rfl rfl rfl ?_
          refine w_bi dX5_kindOf_35 (c := 57) (by decide) ?_
          rcases zcut (57 : Int) v28_0.toInt with h8 | h8
          · skip
            replace hb : zHd _ := hb.1 h8
            refine w_cgt_t dX5_kindOf_37 (t := 42) rfl (by have := zt_57; omega) ?_
            refine w_lo dX5_kindOf_42 rfl rfl rfl rfl ?_
            refine w_ile_f dX5_kindOf_43 (t := 60) rfl (by omega) ?_
            refine w_me (st' := [.ref 1000002]) dX5_kindOf_46 rfl rfl rfl rfl rfl ?_
            refine w_lo dX5_kindOf_48 rfl rfl rfl rfl ?_
            refine w_exE dX5_kindOf_49 rfl rfl ?_
            intro x9 h10
            replace hb : zHd _ := hb x9.toInt (by rw [h10, zxi2c_i])
            refine w_ixE dX5_kindOf_50 rfl (Nat.le_of_ble_eq_true rfl) ?_
            intro x11 h12
            replace hb : zHd _ := hb x11.toInt h12
            show ZW _ _ _ _ _ _ _ (53, [some (.int v28_0)], [.int x11], M)
            rcases zcut x11.toInt (0 : Int) with h13 | h13
            · skip
              replace hb : zHd _ := hb.1 h13
              refine w_ilt_t dX5_kindOf_53 (t := 60) rfl (by omega) ?_
              refine w_ic dX5_kindOf_60 zi_1 ?_
              refine w_en dX5_kindOf_61 rfl ?_
              exact ⟨_, _, rfl, (by have := zt_1; omega), (by have := zt_1; omega), hJ, hb⟩
            · skip
              replace hb : zHd _ := hb.2 h13
              refine w_ilt_f dX5_kindOf_53 (t := 60) rfl (by omega) ?_
              refine w_ic dX5_kindOf_56 zi_5 ?_
              refine w_gt dX5_kindOf_57 (t := 61) rfl ?_
              refine w_en dX5_kindOf_61 rfl ?_
              exact ⟨_, _, rfl, (by have := zt_5; omega), (by have := zt_5; omega), hJ, hb⟩
          · skip
            replace hb : zHd _ := hb.2 h8
            refine w_cgt_f dX5_kindOf_37 (t := 42) rfl (by have := zt_57; omega) ?_
            refine w_ic dX5_kindOf_40 zi_4 ?_
            refine w_en dX5_kindOf_41 rfl ?_
            exact ⟨_, _, rfl, (by have := zt_4; omega), (by have := zt_4; omega), hJ, hb⟩
  have hb : zHd _ := hbE
  show ZW _ _ _ _ _ _ _ (0, [some (.int a0)], [], M0)
  refine w_lo dX5_kindOf_0 rfl rfl rfl rfl ?_
  refine w_bi dX5_kindOf_1 (c := 32) (by decide) ?_
  rcases Int.decEq a0.toInt (32 : Int) with h14 | h14
  · skip
    replace hb : zHd _ := hb.1 h14
    refine w_ceq_f dX5_kindOf_3 (t := 12) rfl (by have := zt_32; omega) ?_
    refine w_lo dX5_kindOf_6 rfl rfl rfl rfl ?_
    refine w_bi dX5_kindOf_7 (c := 10) (by decide) ?_
    rcases Int.decEq a0.toInt (10 : Int) with h15 | h15
    · skip
      replace hb : zHd _ := hb.1 h15
      refine w_cne_t dX5_kindOf_9 (t := 14) rfl (by have := zt_10; omega) ?_
      refine w_lo dX5_kindOf_14 rfl rfl rfl rfl ?_
      refine w_bi dX5_kindOf_15 (c := 97) (by decide) ?_
      rcases zcut a0.toInt (97 : Int) with h16 | h16
      · skip
        replace hb : zHd _ := hb.1 h16
        refine w_clt_t dX5_kindOf_17 (t := 28) rfl (by have := zt_97; omega) ?_
        obtain ⟨m, hI⟩ := hb
        exact (main m) M0 a0 hJ0 (by omega) (by omega) hI
      · skip
        replace hb : zHd _ := hb.2 h16
        refine w_clt_f dX5_kindOf_17 (t := 28) rfl (by have := zt_97; omega) ?_
        refine w_lo dX5_kindOf_20 rfl rfl rfl rfl ?_
        refine w_bi dX5_kindOf_21 (c := 122) (by decide) ?_
        rcases zcut (122 : Int) a0.toInt with h17 | h17
        · skip
          replace hb : zHd _ := hb.1 h17
          refine w_cgt_t dX5_kindOf_23 (t := 28) rfl (by have := zt_122; omega) ?_
          obtain ⟨m, hI⟩ := hb
          exact (main m) M0 a0 hJ0 (by omega) (by omega) hI
        · skip
          replace hb : zHd _ := hb.2 h17
          refine w_cgt_f dX5_kindOf_23 (t := 28) rfl (by have := zt_122; omega) ?_
          refine w_ic dX5_kindOf_26 zi_2 ?_
          refine w_en dX5_kindOf_27 rfl ?_
          exact ⟨_, _, rfl, (by have := zt_2; omega), (by have := zt_2; omega), hJ0, hb⟩
    · skip
      replace hb : zHd _ := hb.2 h15
      refine w_cne_f dX5_kindOf_9 (t := 14) rfl (by have := zt_10; omega) ?_
      refine w_ic dX5_kindOf_12 zi_0 ?_
      refine w_en dX5_kindOf_13 rfl ?_
      exact ⟨_, _, rfl, (by have := zt_0; omega), (by have := zt_0; omega), hJ0, hb⟩
  · skip
    replace hb : zHd _ := hb.2 h14
    refine w_ceq_t dX5_kindOf_3 (t := 12) rfl (by have := zt_32; omega) ?_
    refine w_ic dX5_kindOf_12 zi_0 ?_
    refine w_en dX5_kindOf_13 rfl ?_
    exact ⟨_, _, rfl, (by have := zt_0; omega), (by have := zt_0; omega), hJ0, hb⟩
set_option maxRecDepth 100000 in
theorem u_1284 {X : List Int32} {d N : Nat} {M0 : zM} (a0 : Int32) (ha00 : (0 : Int) ≤ a0.toInt) (ha01 : a0.toInt ≤ 255) (a1 : Int32) (ha10 : (1 : Int) ≤ a1.toInt) (ha11 : a1.toInt ≤ 1700) (a2 : Int32) (ha20 : (0 : Int) ≤ a2.toInt) (ha21 : a2.toInt ≤ 1599) (hN : N ≤ 600) (hB0 : zB N M0) {Q : Int → zF → Prop} (hb : b_1284 (zi M0) a0.toInt a1.toInt a2.toInt Q) : ZV X (d + 1) 1284 [.ref 2, .int a0, .int a1, .int a2] M0 (zRI N [(4, 6, 1000)] M0 (0) (1) (fun v M' => Q v.toInt (zi M'))) := by
  have hJ0 : zJ N [(4, 6, 1000)] M0 M0 := zJ_refl hB0
  refine ZV.of (ini := false) rfl (Nat.le_of_ble_eq_true rfl) (by decide +kernel) ?_
  obtain ⟨I45, hbE, hb45⟩ := hb
  replace hbE : zHd _ := hbE
  replace hb45 : zHd _ := hb45
  have main : ∀ n : Nat,
      (∀ (M : zM) (v45_1 : Int32) (v45_2 : Int32) (v45_3 : Int32) (v45_4 : Int32) (v45_5 : Int32) (s45_0 : Int32) (s45_1 : Int32), zJ N [(4, 6, 1000)] M0 M → ((0 : Int) ≤ v45_1.toInt) → (v45_1.toInt ≤ 255) → ((1 : Int) ≤ v45_2.toInt) → (v45_2.toInt ≤ 1700) → ((0 : Int) ≤ v45_3.toInt) → (v45_3.toInt ≤ 1599) → ((0 : Int) ≤ v45_4.toInt) → (v45_4.toInt ≤ 1600) → ((0 : Int) ≤ v45_5.toInt) → (v45_5.toInt ≤ 1) → ((1 : Int) ≤ s45_0.toInt) → (s45_0.toInt ≤ 1700) → ((4 : Int) ≤ s45_1.toInt) → (s45_1.toInt ≤ 6) → I45 n (zi M) v45_1.toInt v45_2.toInt v45_3.toInt v45_4.toInt v45_5.toInt s45_0.toInt s45_1.toInt → ZW X (d + 0) 5 false (some .boolean) cX5_lengthen (zRI N [(4, 6, 1000)] M0 (0) (1) (fun v M' => Q v.toInt (zi M'))) (45, [some (.ref 2), some (.int v45_1), some (.int v45_2), some (.int v45_3), some (.int v45_4), some (.int v45_5)], [.int s45_1, .int s45_0], M)) := by
    intro n
    induction n using Nat.strongRecOn with
    | _ n ih =>
      · intro M v45_1 v45_2 v45_3 v45_4 v45_5 s45_0 s45_1 hJ v45_10 v45_11 v45_20 v45_21 v45_30 v45_31 v45_40 v45_41 v45_50 v45_51 s45_00 s45_01 s45_10 s45_11 hI
        have hb : zHd _ := hb45 n (zi M) v45_1.toInt v45_2.toInt v45_3.toInt v45_4.toInt v45_5.toInt s45_0.toInt s45_1.toInt (zi_fr hJ.2) v45_10 v45_11 v45_20 v45_21 v45_30 v45_31 v45_40 v45_41 v45_50 v45_51 s45_00 s45_01 s45_10 s45_11 hI
        rcases zcut s45_1.toInt s45_0.toInt with h1 | h1
        · skip
          replace hb : zHd _ := hb.1 h1
          refine w_cle_f dX5_lengthen_45 (t := 66) rfl (by omega) ?_
          refine w_lo dX5_lengthen_48 rfl rfl rfl rfl ?_
          refine w_gf dX5_lengthen_49 rfl hJ.1.1 zs_2 (zr_2_3 hJ.1) ?_
          refine w_lo dX5_lengthen_52 rfl rfl rfl rfl ?_
          refine w_ic dX5_lengthen_54 zi_1 ?_
          refine w_isi dX5_lengthen_55 hJ zs_4 (by omega) (by omega) zu_4 (by have := zt_1; omega) (by have := zt_1; omega) (zIR_a (by omega) (by omega)) ?_
          intro M2 hJ3 f4 hn5
          replace hb : zHd _ := hb (zi M2) (zi_zup hn5 f4 rfl zt_1)
          refine w_lo dX5_lengthen_56 rfl rfl rfl rfl ?_
          refine w_gf dX5_lengthen_57 rfl hJ3.1.1 zs_2 (zr_2_4 hJ3.1) ?_
          refine w_lo dX5_lengthen_60 rfl rfl rfl rfl ?_
          refine w_lo dX5_lengthen_62 rfl rfl rfl rfl ?_
          refine w_isi dX5_lengthen_63 hJ3 zs_5 (by omega) (by omega) zu_5 (zbot _) (ztop _) (zIR_a (by omega) (by omega)) ?_
          intro M7 hJ8 f9 hn10
          replace hb : zHd _ := hb (zi M7) (zi_zup hn10 f9 rfl rfl)
          refine w_ic dX5_lengthen_64 zi_0 ?_
          refine w_en dX5_lengthen_65 rfl ?_
          exact ⟨_, _, rfl, (by have := zt_0; omega), (by have := zt_0; omega), hJ8, hb⟩
        · skip
          replace hb : zHd _ := hb.2 h1
          refine w_cle_t dX5_lengthen_45 (t := 66) rfl (by omega) ?_
          refine w_lo dX5_lengthen_66 rfl rfl rfl rfl ?_
          rcases Int.decEq v45_5.toInt (0 : Int) with h12 | h12
          · skip
            replace hb : zHd _ := hb.1 h12
            refine w_ieq_f dX5_lengthen_68 (t := 96) rfl (by omega) ?_
            refine w_lo dX5_lengthen_71 rfl rfl rfl rfl ?_
            refine w_gf dX5_lengthen_72 rfl hJ.1.1 zs_2 (zr_2_4 hJ.1) ?_
            refine w_lo dX5_lengthen_75 rfl rfl rfl rfl ?_
            refine w_pu dX5_lengthen_77 rfl rfl ?_
            refine w_iai dX5_lengthen_78 hJ.1 zs_5 (by omega) (by omega) zu_5 ?_
            intro x16 f13 h14 h15
            replace hb : zHd _ := hb x16.toInt (ziEk f13 rfl)
            refine w_lo dX5_lengthen_79 rfl rfl rfl rfl ?_
            refine w_bi dX5_lengthen_80 (c := 97) (by decide) ?_
            refine w_sub dX5_lengthen_82 (by have := zt_97; omega) ?_
            intro x17 h18
            have := zt_97
            replace hb : zHd _ := hb x17.toInt (by have := zt_97; omega)
            refine w_ic dX5_lengthen_83 zi_1 ?_
            refine w_add dX5_lengthen_84 (by have := zt_1; omega) ?_
            intro x19 h20
            have := zt_1
            replace hb : zHd _ := hb x19.toInt (by have := zt_1; omega)
            refine w_ic dX5_lengthen_85 zi_5 ?_
            refine w_lo dX5_lengthen_86 rfl rfl rfl rfl ?_
            refine w_ic dX5_lengthen_87 zi_1 ?_
            refine w_sub dX5_lengthen_88 (by have := zt_1; omega) ?_
            intro x21 h22
            have := zt_1
            replace hb : zHd _ := hb x21.toInt (by have := zt_1; omega)
            refine w_mulc dX5_lengthen_89 zt_5 (by have := zt_5; omega) ?_
            intro x23 h24
            have := zt_5
            replace hb : zHd _ := hb x23.toInt (by have := zt_5; omega)
            refine w_exE dX5_lengthen_90 rfl rfl ?_
            intro x26 h25
            replace hb : zHd _ := hb x26.toInt (by rw [h25, zxshl_i])
            refine w_exE dX5_lengthen_91 rfl rfl ?_
            intro x28 h27
            replace hb : zHd _ := hb x28.toInt (by rw [h27, zxor_i])
            refine w_isi dX5_lengthen_92 hJ zs_5 (by omega) (by omega) zu_5 (zbot _) (ztop _) (zIR_a (by omega) (by omega)) ?_
            intro M29 hJ30 f31 hn32
            replace hb : zHd _ := hb (zi M29) (zi_zup hn32 f31 rfl rfl)
            refine w_gt dX5_lengthen_93 (t := 118) rfl ?_
            refine w_ic dX5_lengthen_118 zi_1 ?_
            refine w_en dX5_lengthen_119 rfl ?_
            exact ⟨_, _, rfl, (by have := zt_1; omega), (by have := zt_1; omega), hJ30, hb⟩
          · skip
            replace hb : zHd _ := hb.2 h12
            refine w_ieq_t dX5_lengthen_68 (t := 96) rfl (by omega) ?_
            refine w_lo dX5_lengthen_96 rfl rfl rfl rfl ?_
            refine w_gf dX5_lengthen_97 rfl hJ.1.1 zs_2 (zr_2_4 hJ.1) ?_
            refine w_lo dX5_lengthen_100 rfl rfl rfl rfl ?_
            refine w_bi dX5_lengthen_102 (c := 10) (by decide) ?_
            refine w_lo dX5_lengthen_104 rfl rfl rfl rfl ?_
            refine w_gf dX5_lengthen_105 rfl hJ.1.1 zs_2 (zr_2_4 hJ.1) ?_
            refine w_lo dX5_lengthen_108 rfl rfl rfl rfl ?_
            refine w_iai dX5_lengthen_110 hJ.1 zs_5 (by omega) (by omega) zu_5 ?_
            intro x37 f34 h35 h36
            replace hb : zHd _ := hb x37.toInt (ziEk f34 rfl)
            have h38 := hb.1
            replace hb : zHd _ := hb.2
            refine w_mulc dX5_lengthen_111 zt_10 (by have := zt_10; omega) ?_
            intro x39 h40
            have := zt_10
            replace hb : zHd _ := hb x39.toInt (by have := zt_10; omega)
            refine w_lo dX5_lengthen_112 rfl rfl rfl rfl ?_
            have h41 := hb.1
            replace hb : zHd _ := hb.2
            refine w_add dX5_lengthen_113 (by omega) ?_
            intro x42 h43
            replace hb : zHd _ := hb x42.toInt (by omega)
            refine w_bi dX5_lengthen_114 (c := 48) (by decide) ?_
            have h44 := hb.1
            replace hb : zHd _ := hb.2
            refine w_sub dX5_lengthen_116 (by have := zt_48; omega) ?_
            intro x45 h46
            have := zt_48
            replace hb : zHd _ := hb x45.toInt (by have := zt_48; omega)
            refine w_isi dX5_lengthen_117 hJ zs_5 (by omega) (by omega) zu_5 (zbot _) (ztop _) (zIR_a (by omega) (by omega)) ?_
            intro M47 hJ48 f49 hn50
            replace hb : zHd _ := hb (zi M47) (zi_zup hn50 f49 rfl rfl)
            refine w_ic dX5_lengthen_118 zi_1 ?_
            refine w_en dX5_lengthen_119 rfl ?_
            exact ⟨_, _, rfl, (by have := zt_1; omega), (by have := zt_1; omega), hJ48, hb⟩
  have hb : zHd _ := hbE
  show ZW _ _ _ _ _ _ _ (0, [some (.ref 2), some (.int a0), some (.int a1), some (.int a2), none, none], [], M0)
  refine w_lo dX5_lengthen_0 rfl rfl rfl rfl ?_
  refine w_gfi dX5_lengthen_1 rfl hJ0.1 zs_2 (Nat.le_of_ble_eq_true rfl) zo_2_6 ?_
  intro x52 f53 h54 h55
  replace hb : zHd _ := hb x52.toInt (ziE f53) h54 h55
  refine w_ic dX5_lengthen_4 zi_1 ?_
  refine w_sub dX5_lengthen_5 (by have := zt_1; omega) ?_
  intro x56 h57
  have := zt_1
  replace hb : zHd _ := hb x56.toInt (by have := zt_1; omega)
  refine w_lo (ml' := [some (.ref 2), some (.int a0), some (.int a1), some (.int a2), some (.int x56), none]) dX5_lengthen_6 rfl rfl rfl rfl ?_
  refine w_lo dX5_lengthen_8 rfl rfl rfl rfl ?_
  rcases zcut x56.toInt (0 : Int) with h58 | h58
  · skip
    replace hb : zHd _ := hb.1 h58
    refine w_ige_f dX5_lengthen_10 (t := 15) rfl (by omega) ?_
    refine w_ic dX5_lengthen_13 zi_0 ?_
    refine w_en dX5_lengthen_14 rfl ?_
    exact ⟨_, _, rfl, (by have := zt_0; omega), (by have := zt_0; omega), hJ0, hb⟩
  · skip
    replace hb : zHd _ := hb.2 h58
    refine w_ige_t dX5_lengthen_10 (t := 15) rfl (by omega) ?_
    refine w_lo dX5_lengthen_15 rfl rfl rfl rfl ?_
    refine w_gf dX5_lengthen_16 rfl hJ0.1.1 zs_2 (zr_2_3 hJ0.1) ?_
    refine w_lo dX5_lengthen_19 rfl rfl rfl rfl ?_
    refine w_iai dX5_lengthen_21 hJ0.1 zs_4 (by omega) (by omega) zu_4 ?_
    intro x62 f59 h60 h61
    replace hb : zHd _ := hb x62.toInt (ziEk f59 rfl) h60 h61
    refine w_ic dX5_lengthen_22 zi_2 ?_
    rcases Int.decEq x62.toInt (2 : Int) with h63 | h63
    · skip
      replace hb : zHd _ := hb.1 h63
      refine w_cne_t dX5_lengthen_23 (t := 30) rfl (by have := zt_2; omega) ?_
      refine w_ic dX5_lengthen_30 zi_0 ?_
      refine w_lo (ml' := [some (.ref 2), some (.int a0), some (.int a1), some (.int a2), some (.int x56), some (.int 0)]) dX5_lengthen_31 rfl rfl rfl rfl ?_
      refine w_lo dX5_lengthen_33 rfl rfl rfl rfl ?_
      refine w_lo dX5_lengthen_34 rfl rfl rfl rfl ?_
      refine w_ieq_t dX5_lengthen_36 (t := 44) rfl (by have := zt_0; omega) ?_
      refine w_ic dX5_lengthen_44 zi_4 ?_
      obtain ⟨m, hI⟩ := hb
      exact (main m) M0 a0 a1 a2 x56 0 a1 4 hJ0 (by omega) (by omega) (by omega) (by omega) (by omega) (by omega) (by omega) (by omega) (by have := zt_0; omega) (by have := zt_0; omega) (by omega) (by omega) (by have := zt_4; omega) (by have := zt_4; omega) hI
    · skip
      replace hb : zHd _ := hb.2 h63
      refine w_cne_f dX5_lengthen_23 (t := 30) rfl (by have := zt_2; omega) ?_
      refine w_ic dX5_lengthen_26 zi_1 ?_
      refine w_gt dX5_lengthen_27 (t := 31) rfl ?_
      refine w_lo (ml' := [some (.ref 2), some (.int a0), some (.int a1), some (.int a2), some (.int x56), some (.int 1)]) dX5_lengthen_31 rfl rfl rfl rfl ?_
      refine w_lo dX5_lengthen_33 rfl rfl rfl rfl ?_
      refine w_lo dX5_lengthen_34 rfl rfl rfl rfl ?_
      refine w_ieq_f dX5_lengthen_36 (t := 44) rfl (by have := zt_1; omega) ?_
      refine w_bi dX5_lengthen_39 (c := 6) (by decide) ?_
      refine w_gt dX5_lengthen_41 (t := 45) rfl ?_
      obtain ⟨m, hI⟩ := hb
      exact (main m) M0 a0 a1 a2 x56 1 a1 6 hJ0 (by omega) (by omega) (by omega) (by omega) (by omega) (by omega) (by omega) (by omega) (by have := zt_1; omega) (by have := zt_1; omega) (by omega) (by omega) (by have := zt_6; omega) (by have := zt_6; omega) hI
set_option maxRecDepth 100000 in
theorem u_1285 {X : List Int32} {d N : Nat} {M0 : zM} (a0 : Int32) (ha00 : (0 : Int) ≤ a0.toInt) (ha01 : a0.toInt ≤ 5) (a1 : Int32) (ha10 : (-96 : Int) ≤ a1.toInt) (ha11 : a1.toInt ≤ 1600) (a2 : Int32) (ha20 : (0 : Int) ≤ a2.toInt) (ha21 : a2.toInt ≤ 1600) (hN : N ≤ 600) (hB0 : zB N M0) {Q : zF → Prop} (hb : b_1285 (zi M0) a0.toInt a1.toInt a2.toInt Q) : ZV X (d + 1) 1285 [.ref 2, .int a0, .int a1, .int a2] M0 (zRV N [(4, 7, 1000), (2, 3, 6)] M0 (fun M' => Q (zi M'))) := by
  have hJ0 : zJ N [(4, 7, 1000), (2, 3, 6)] M0 M0 := zJ_refl hB0
  refine ZV.of (ini := false) rfl (Nat.le_of_ble_eq_true rfl) (by decide +kernel) ?_
  unfold b_1285 at hb
  replace hb : zHd _ := hb
  show ZW _ _ _ _ _ _ _ (0, [some (.ref 2), some (.int a0), some (.int a1), some (.int a2)], [], M0)
  refine w_lo dX5_add_0 rfl rfl rfl rfl ?_
  refine w_gfi dX5_add_1 rfl hJ0.1 zs_2 (Nat.le_of_ble_eq_true rfl) zo_2_6 ?_
  intro x1 f2 h3 h4
  replace hb : zHd _ := hb x1.toInt (ziE f2) h3 h4
  refine w_si dX5_add_4 (c := 1600) (by decide) ?_
  rcases zcut (1600 : Int) x1.toInt with h5 | h5
  · skip
    replace hb : zHd _ := hb.1 h5
    refine w_cgt_t dX5_add_7 (t := 50) rfl (by have := zt_1600; omega) ?_
    refine w_en dX5_add_50 rfl ?_
    exact ⟨_, rfl, hJ0, hb⟩
  · skip
    replace hb : zHd _ := hb.2 h5
    refine w_cgt_f dX5_add_7 (t := 50) rfl (by have := zt_1600; omega) ?_
    refine w_lo dX5_add_10 rfl rfl rfl rfl ?_
    refine w_gf dX5_add_11 rfl hJ0.1.1 zs_2 (zr_2_3 hJ0.1) ?_
    refine w_lo dX5_add_14 rfl rfl rfl rfl ?_
    refine w_gf dX5_add_15 rfl hJ0.1.1 zs_2 f2 ?_
    refine w_lo dX5_add_18 rfl rfl rfl rfl ?_
    refine w_isi dX5_add_19 hJ0 zs_4 (by omega) (by omega) zu_4 (by omega) (by omega) (zIR_a (by omega) (by omega)) ?_
    intro M6 hJ7 f8 hn9
    replace hb : zHd _ := hb (zi M6) (zi_zup hn9 f8 rfl rfl)
    refine w_lo dX5_add_20 rfl rfl rfl rfl ?_
    refine w_gf dX5_add_21 rfl hJ7.1.1 zs_2 (zr_2_4 hJ7.1) ?_
    refine w_lo dX5_add_24 rfl rfl rfl rfl ?_
    have f11 := (hn9 (2) 6 (Or.inl (by omega))).trans (f2)
    refine w_gf dX5_add_25 rfl hJ7.1.1 zs_2 f11 ?_
    refine w_lo dX5_add_28 rfl rfl rfl rfl ?_
    refine w_isi dX5_add_29 hJ7 zs_5 (by omega) (by omega) zu_5 (zbot _) (ztop _) (zIR_a (by omega) (by omega)) ?_
    intro M12 hJ13 f14 hn15
    replace hb : zHd _ := hb (zi M12) (zi_zup hn15 f14 rfl rfl)
    refine w_lo dX5_add_30 rfl rfl rfl rfl ?_
    refine w_gf dX5_add_31 rfl hJ13.1.1 zs_2 (zr_2_5 hJ13.1) ?_
    refine w_lo dX5_add_34 rfl rfl rfl rfl ?_
    have f17 := (hn15 (2) 6 (Or.inl (by omega))).trans (f11)
    refine w_gf dX5_add_35 rfl hJ13.1.1 zs_2 f17 ?_
    refine w_lo dX5_add_38 rfl rfl rfl rfl ?_
    refine w_isi dX5_add_39 hJ13 zs_6 (by omega) (by omega) zu_6 (by omega) (by omega) (zIR_a (by omega) (by omega)) ?_
    intro M18 hJ19 f20 hn21
    replace hb : zHd _ := hb (zi M18) (zi_zup hn21 f20 rfl rfl)
    refine w_lo dX5_add_40 rfl rfl rfl rfl ?_
    refine w_pu dX5_add_41 rfl rfl ?_
    have f23 := (hn21 (2) 6 (Or.inl (by omega))).trans (f17)
    refine w_gf dX5_add_42 rfl hJ19.1.1 zs_2 f23 ?_
    refine w_ic dX5_add_45 zi_1 ?_
    refine w_add dX5_add_46 (by have := zt_1; omega) ?_
    intro x24 h25
    have := zt_1
    replace hb : zHd _ := hb x24.toInt (by have := zt_1; omega)
    refine w_pfi dX5_add_47 rfl hJ19 zs_2 (Nat.le_of_ble_eq_true rfl) zo_2_6 (by omega) (by omega) (zIR_s (zIR_k (by omega) (by omega))) rfl rfl rfl ?_
    intro M26 hJ27 f28 hn29
    replace hb : zHd _ := hb (zi M26) (zi_zup hn29 f28 rfl rfl)
    refine w_en dX5_add_50 rfl ?_
    exact ⟨_, rfl, hJ27, hb⟩
set_option maxRecDepth 100000 in
theorem u_1282 {X : List Int32} {d N : Nat} {M0 : zM} (a1 : Int32) (ha10 : (0 : Int) ≤ a1.toInt) (ha11 : a1.toInt ≤ 1600) (hN : N ≤ 600) (hB0 : zB N M0) {Q : zF → Prop} (hb : b_1282 (zi M0) a1.toInt Q) : ZV X (d + 6) 1282 [.ref 2, .ref 1, .int a1] M0 (zRV N [(4, 7, 1000), (2, 3, 6)] M0 (fun M' => Q (zi M'))) := by
  have hJ0 : zJ N [(4, 7, 1000), (2, 3, 6)] M0 M0 := zJ_refl hB0
  refine ZV.of (ini := false) rfl (Nat.le_of_ble_eq_true rfl) (by decide +kernel) ?_
  obtain ⟨I13, I51, I86, I111, hbE, hb13, hb51, hb86, hb111⟩ := hb
  replace hbE : zHd _ := hbE
  replace hb13 : zHd _ := hb13
  replace hb51 : zHd _ := hb51
  replace hb86 : zHd _ := hb86
  replace hb111 : zHd _ := hb111
  have main : ∀ n : Nat,
      (∀ (M : zM) (v13_2 : Int32) (v13_3 : Int32) (v13_4 : Int32) (v13_5 : Int32) (o13_6 : Option Value) (o13_7 : Option Value) (o13_8 : Option Value), zJ N [(4, 7, 1000), (2, 3, 6)] M0 M → ((0 : Int) ≤ v13_2.toInt) → (v13_2.toInt ≤ 1600) → ((0 : Int) ≤ v13_3.toInt) → (v13_3.toInt ≤ 5) → ((0 : Int) ≤ v13_4.toInt) → (v13_4.toInt ≤ 2046) → ((0 : Int) ≤ v13_5.toInt) → (v13_5.toInt ≤ 1600) → I13 n (zi M) v13_2.toInt v13_3.toInt v13_4.toInt v13_5.toInt → ZW X (d + 5) 5 false none cX5_scan (zRV N [(4, 7, 1000), (2, 3, 6)] M0 (fun M' => Q (zi M'))) (13, [some (.ref 2), some (.ref 1), some (.int v13_2), some (.int v13_3), some (.int v13_4), some (.int v13_5), o13_6, o13_7, o13_8], [], M)) ∧
      (∀ (M : zM) (v51_2 : Int32) (v51_3 : Int32) (v51_4 : Int32) (v51_5 : Int32) (v51_6 : Int32) (v51_7 : Int32) (o51_8 : Option Value), zJ N [(4, 7, 1000), (2, 3, 6)] M0 M → ((1 : Int) ≤ v51_2.toInt) → (v51_2.toInt ≤ 1600) → ((0 : Int) ≤ v51_3.toInt) → (v51_3.toInt ≤ 5) → ((0 : Int) ≤ v51_4.toInt) → (v51_4.toInt ≤ 2046) → ((0 : Int) ≤ v51_5.toInt) → (v51_5.toInt ≤ 1599) → ((0 : Int) ≤ v51_6.toInt) → (v51_6.toInt ≤ 255) → ((2 : Int) ≤ v51_7.toInt) → (v51_7.toInt ≤ 4) → I51 n (zi M) v51_2.toInt v51_3.toInt v51_4.toInt v51_5.toInt v51_6.toInt v51_7.toInt → ZW X (d + 5) 5 false none cX5_scan (zRV N [(4, 7, 1000), (2, 3, 6)] M0 (fun M' => Q (zi M'))) (51, [some (.ref 2), some (.ref 1), some (.int v51_2), some (.int v51_3), some (.int v51_4), some (.int v51_5), some (.int v51_6), some (.int v51_7), o51_8], [], M)) ∧
      (∀ (M : zM) (v86_2 : Int32) (v86_3 : Int32) (v86_4 : Int32) (v86_5 : Int32) (v86_6 : Int32) (v86_7 : Int32) (v86_8 : Int32), zJ N [(4, 7, 1000), (2, 3, 6)] M0 M → ((1 : Int) ≤ v86_2.toInt) → (v86_2.toInt ≤ 1600) → ((0 : Int) ≤ v86_3.toInt) → (v86_3.toInt ≤ 5) → ((0 : Int) ≤ v86_4.toInt) → (v86_4.toInt ≤ 2046) → ((0 : Int) ≤ v86_5.toInt) → (v86_5.toInt ≤ 1599) → ((0 : Int) ≤ v86_6.toInt) → (v86_6.toInt ≤ 255) → ((0 : Int) ≤ v86_7.toInt) → (v86_7.toInt ≤ 5) → ((0 : Int) ≤ v86_8.toInt) → (v86_8.toInt ≤ 1) → I86 n (zi M) v86_2.toInt v86_3.toInt v86_4.toInt v86_5.toInt v86_6.toInt v86_7.toInt v86_8.toInt → ZW X (d + 5) 5 false none cX5_scan (zRV N [(4, 7, 1000), (2, 3, 6)] M0 (fun M' => Q (zi M'))) (86, [some (.ref 2), some (.ref 1), some (.int v86_2), some (.int v86_3), some (.int v86_4), some (.int v86_5), some (.int v86_6), some (.int v86_7), some (.int v86_8)], [], M)) ∧
      (∀ (M : zM) (v111_2 : Int32) (u111_3 : Int32) (v111_4 : Int32) (v111_5 : Int32) (v111_6 : Int32) (v111_7 : Int32) (v111_8 : Int32), zJ N [(4, 7, 1000), (2, 3, 6)] M0 M → ((1 : Int) ≤ v111_2.toInt) → (v111_2.toInt ≤ 1600) → ((0 : Int) ≤ v111_4.toInt) → (v111_4.toInt ≤ 2046) → ((0 : Int) ≤ v111_5.toInt) → (v111_5.toInt ≤ 1599) → ((0 : Int) ≤ v111_6.toInt) → (v111_6.toInt ≤ 255) → ((0 : Int) ≤ v111_7.toInt) → (v111_7.toInt ≤ 5) → ((0 : Int) ≤ v111_8.toInt) → (v111_8.toInt ≤ 1) → I111 n (zi M) v111_2.toInt v111_4.toInt v111_5.toInt v111_6.toInt v111_7.toInt v111_8.toInt → ZW X (d + 5) 5 false none cX5_scan (zRV N [(4, 7, 1000), (2, 3, 6)] M0 (fun M' => Q (zi M'))) (111, [some (.ref 2), some (.ref 1), some (.int v111_2), some (.int u111_3), some (.int v111_4), some (.int v111_5), some (.int v111_6), some (.int v111_7), some (.int v111_8)], [], M)) := by
    intro n
    induction n using Nat.strongRecOn with
    | _ n ih =>
      refine ⟨?_, ?_, ?_, ?_⟩
      · intro M v13_2 v13_3 v13_4 v13_5 o13_6 o13_7 o13_8 hJ v13_20 v13_21 v13_30 v13_31 v13_40 v13_41 v13_50 v13_51 hI
        have hb : zHd _ := hb13 n (zi M) v13_2.toInt v13_3.toInt v13_4.toInt v13_5.toInt (zi_fr hJ.2) v13_20 v13_21 v13_30 v13_31 v13_40 v13_41 v13_50 v13_51 hI
        refine w_lo dX5_scan_13 rfl rfl rfl rfl ?_
        refine w_lo dX5_scan_15 rfl rfl rfl rfl ?_
        rcases zcut v13_5.toInt v13_2.toInt with h1 | h1
        · skip
          replace hb : zHd _ := hb.1 h1
          refine w_cge_f dX5_scan_16 (t := 177) rfl (by omega) ?_
          refine w_lo dX5_scan_19 rfl rfl rfl rfl ?_
          refine w_lo dX5_scan_21 rfl rfl rfl rfl ?_
          refine w_al dX5_scan_22 hJ.1.1 zs_1 (c := 1600) rfl ⟨Nat.le_of_ble_eq_true rfl, Nat.le_of_ble_eq_true rfl⟩ ?_
          refine w_cge_f dX5_scan_23 (t := 177) rfl (by have := zt_1600; omega) ?_
          refine w_lo dX5_scan_26 rfl rfl rfl rfl ?_
          refine w_lo dX5_scan_27 rfl rfl rfl rfl ?_
          refine w_iai dX5_scan_29 hJ.1 zs_1 (by omega) (by omega) zu_1 ?_
          intro x5 f2 h3 h4
          replace hb : zHd _ := hb x5.toInt (ziEk f2 rfl) h3 h4
          refine w_lo (ml' := [some (.ref 2), some (.ref 1), some (.int v13_2), some (.int v13_3), some (.int v13_4), some (.int v13_5), some (.int x5), o13_7, o13_8]) dX5_scan_30 rfl rfl rfl rfl ?_
          refine w_lo dX5_scan_32 rfl rfl rfl rfl ?_
          refine w_ss dX5_scan_34 rfl rfl (As := [.int x5]) rfl rfl (Nat.le_of_ble_eq_true rfl) ?_
          obtain ⟨P8, hp9, hb⟩ := hb
          replace hb : zHd _ := hb
          refine ZV.imp (u_1283 x5 (by omega) (by omega) hN hJ.1 hp9) ?_
          rintro _ ⟨x11, M6, rfl, h12, h13, hJ7, hq10⟩
          replace hb : zHd _ := hb x11.toInt h12 h13 (zi M6) (zi_fr hJ7.2) hq10
          have hJ15 := zJ_trans hJ hJ7 zSub_nil
          show ZW _ _ _ _ _ _ _ (37, [some (.ref 2), some (.ref 1), some (.int v13_2), some (.int v13_3), some (.int v13_4), some (.int v13_5), some (.int x5), o13_7, o13_8], [.int x11], M6)
          refine w_lo (ml' := [some (.ref 2), some (.ref 1), some (.int v13_2), some (.int v13_3), some (.int v13_4), some (.int v13_5), some (.int x5), some (.int x11), o13_8]) dX5_scan_37 rfl rfl rfl rfl ?_
          refine w_lo dX5_scan_39 rfl rfl rfl rfl ?_
          refine w_ic dX5_scan_41 zi_2 ?_
          rcases Int.decEq x11.toInt (2 : Int) with h16 | h16
          · skip
            replace hb : zHd _ := hb.1 h16
            refine w_ceq_f dX5_scan_42 (t := 51) rfl (by have := zt_2; omega) ?_
            refine w_lo dX5_scan_45 rfl rfl rfl rfl ?_
            refine w_ic dX5_scan_47 zi_4 ?_
            rcases Int.decEq x11.toInt (4 : Int) with h17 | h17
            · skip
              replace hb : zHd _ := hb.1 h17
              refine w_cne_t dX5_scan_48 (t := 55) rfl (by have := zt_4; omega) ?_
              refine w_ic dX5_scan_55 zi_0 ?_
              refine w_lo (ml' := [some (.ref 2), some (.ref 1), some (.int v13_2), some (.int v13_3), some (.int v13_4), some (.int v13_5), some (.int x5), some (.int x11), some (.int 0)]) dX5_scan_56 rfl rfl rfl rfl ?_
              refine w_lo dX5_scan_58 rfl rfl rfl rfl ?_
              refine w_ieq_t dX5_scan_60 (t := 86) rfl (by have := zt_0; omega) ?_
              obtain ⟨m, hm, hI⟩ := hb
              exact (ih m hm).2.2.1 M6 v13_2 v13_3 v13_4 v13_5 x5 x11 0 hJ15 (by omega) (by omega) (by omega) (by omega) (by omega) (by omega) (by omega) (by omega) (by omega) (by omega) (by omega) (by omega) (by have := zt_0; omega) (by have := zt_0; omega) hI
            · skip
              replace hb : zHd _ := hb.2 h17
              refine w_cne_f dX5_scan_48 (t := 55) rfl (by have := zt_4; omega) ?_
              obtain ⟨m, hm, hI⟩ := hb
              exact (ih m hm).2.1 M6 v13_2 v13_3 v13_4 v13_5 x5 x11 o13_8 hJ15 (by omega) (by omega) (by omega) (by omega) (by omega) (by omega) (by omega) (by omega) (by omega) (by omega) (by omega) (by omega) hI
          · skip
            replace hb : zHd _ := hb.2 h16
            refine w_ceq_t dX5_scan_42 (t := 51) rfl (by have := zt_2; omega) ?_
            obtain ⟨m, hm, hI⟩ := hb
            exact (ih m hm).2.1 M6 v13_2 v13_3 v13_4 v13_5 x5 x11 o13_8 hJ15 (by omega) (by omega) (by omega) (by omega) (by omega) (by omega) (by omega) (by omega) (by omega) (by omega) (by omega) (by omega) hI
        · skip
          replace hb : zHd _ := hb.2 h1
          refine w_cge_t dX5_scan_16 (t := 177) rfl (by omega) ?_
          refine w_lo dX5_scan_177 rfl rfl rfl rfl ?_
          refine w_ic dX5_scan_178 zi_0 ?_
          refine w_lo dX5_scan_179 rfl rfl rfl rfl ?_
          refine w_lo dX5_scan_180 rfl rfl rfl rfl ?_
          refine w_iv dX5_scan_181 rfl rfl (As := [.int 0, .int v13_2, .int v13_2]) rfl rfl hJ.1.1 zs_2 (Nat.le_of_ble_eq_true rfl) ?_
          obtain ⟨P20, hp21, hb⟩ := hb
          replace hb : zHd _ := hb
          have hp21c : b_1285 (zi M) (0 : Int32).toInt v13_2.toInt v13_2.toInt P20 := by rw [zt_0]; exact hp21
          refine ZV.imp (u_1285 0 (by have := zt_0; omega) (by have := zt_0; omega) v13_2 (by omega) (by omega) v13_2 (by omega) (by omega) hN hJ.1 hp21c) ?_
          rintro _ ⟨M18, rfl, hJ19, hq22⟩
          replace hb : zHd _ := hb  (zi M18) (zi_fr hJ19.2) hq22
          have hJ24 := zJ_trans hJ hJ19 (zSub_cons (fun _ _ h h' hk => zIR_a (by omega) (by omega)) (zSub_cons (fun _ _ h h' hk => zIR_s (zIR_e (by omega) (by omega) hk)) zSub_nil))
          show ZW _ _ _ _ _ _ _ (184, [some (.ref 2), some (.ref 1), some (.int v13_2), some (.int v13_3), some (.int v13_4), some (.int v13_5), o13_6, o13_7, o13_8], [], M18)
          refine w_en dX5_scan_184 rfl ?_
          exact ⟨_, rfl, hJ24, hb⟩
      · intro M v51_2 v51_3 v51_4 v51_5 v51_6 v51_7 o51_8 hJ v51_20 v51_21 v51_30 v51_31 v51_40 v51_41 v51_50 v51_51 v51_60 v51_61 v51_70 v51_71 hI
        have hb : zHd _ := hb51 n (zi M) v51_2.toInt v51_3.toInt v51_4.toInt v51_5.toInt v51_6.toInt v51_7.toInt (zi_fr hJ.2) v51_20 v51_21 v51_30 v51_31 v51_40 v51_41 v51_50 v51_51 v51_60 v51_61 v51_70 v51_71 hI
        refine w_ic dX5_scan_51 zi_1 ?_
        refine w_gt dX5_scan_52 (t := 56) rfl ?_
        refine w_lo (ml' := [some (.ref 2), some (.ref 1), some (.int v51_2), some (.int v51_3), some (.int v51_4), some (.int v51_5), some (.int v51_6), some (.int v51_7), some (.int 1)]) dX5_scan_56 rfl rfl rfl rfl ?_
        refine w_lo dX5_scan_58 rfl rfl rfl rfl ?_
        refine w_ieq_f dX5_scan_60 (t := 86) rfl (by have := zt_1; omega) ?_
        refine w_lo dX5_scan_63 rfl rfl rfl rfl ?_
        refine w_lo dX5_scan_65 rfl rfl rfl rfl ?_
        rcases Int.decEq v51_7.toInt v51_3.toInt with h25 | h25
        · skip
          replace hb : zHd _ := hb.1 h25
          refine w_cne_t dX5_scan_66 (t := 86) rfl (by omega) ?_
          obtain ⟨m, hm, hI⟩ := hb
          exact (ih m hm).2.2.1 M v51_2 v51_3 v51_4 v51_5 v51_6 v51_7 1 hJ (by omega) (by omega) (by omega) (by omega) (by omega) (by omega) (by omega) (by omega) (by omega) (by omega) (by omega) (by omega) (by have := zt_1; omega) (by have := zt_1; omega) hI
        · skip
          replace hb : zHd _ := hb.2 h25
          refine w_cne_f dX5_scan_66 (t := 86) rfl (by omega) ?_
          refine w_inc (kk := 4) dX5_scan_69 rfl (m := 1) (by decide) (by omega) ?_
          intro x26 h27
          refine ⟨_, rfl, ?_⟩
          replace hb : zHd _ := hb x26.toInt h27
          show ZW _ _ _ _ _ _ _ (72, [some (.ref 2), some (.ref 1), some (.int v51_2), some (.int v51_3), some (.int x26), some (.int v51_5), some (.int v51_6), some (.int v51_7), some (.int 1)], [], M)
          refine w_lo dX5_scan_72 rfl rfl rfl rfl ?_
          refine w_lo dX5_scan_73 rfl rfl rfl rfl ?_
          refine w_lo dX5_scan_75 rfl rfl rfl rfl ?_
          refine w_lo dX5_scan_77 rfl rfl rfl rfl ?_
          have h28 := hb.1
          replace hb : zHd _ := hb.2
          refine w_iv dX5_scan_79 rfl rfl (As := [.int v51_6, .int x26, .int v51_5]) rfl rfl hJ.1.1 zs_2 (Nat.le_of_ble_eq_true rfl) ?_
          obtain ⟨P31, hp32, hb⟩ := hb
          replace hb : zHd _ := hb
          refine ZV.imp (u_1284 v51_6 (by omega) (by omega) x26 (by omega) (by omega) v51_5 (by omega) (by omega) hN hJ.1 hp32) ?_
          rintro _ ⟨x34, M29, rfl, h35, h36, hJ30, hq33⟩
          replace hb : zHd _ := hb x34.toInt h35 h36 (zi M29) (zi_fr hJ30.2) hq33
          have hJ38 := zJ_trans hJ hJ30 (zSub_cons (fun _ _ h h' hk => zIR_a (by omega) (by omega)) zSub_nil)
          show ZW _ _ _ _ _ _ _ (82, [some (.ref 2), some (.ref 1), some (.int v51_2), some (.int v51_3), some (.int x26), some (.int v51_5), some (.int v51_6), some (.int v51_7), some (.int 1)], [.int x34], M29)
          rcases Int.decEq x34.toInt (0 : Int) with h39 | h39
          · skip
            replace hb : zHd _ := hb.1 h39
            refine w_ine_t dX5_scan_82 (t := 159) rfl (by omega) ?_
            refine w_lo dX5_scan_159 rfl rfl rfl rfl ?_
            refine w_ieq_f dX5_scan_161 (t := 169) rfl (by have := zt_1; omega) ?_
            refine w_lo dX5_scan_164 rfl rfl rfl rfl ?_
            refine w_gt dX5_scan_166 (t := 170) rfl ?_
            refine w_lo (ml' := [some (.ref 2), some (.ref 1), some (.int v51_2), some (.int v51_7), some (.int x26), some (.int v51_5), some (.int v51_6), some (.int v51_7), some (.int 1)]) dX5_scan_170 rfl rfl rfl rfl ?_
            refine w_inc (kk := 5) dX5_scan_171 rfl (m := 1) (by decide) (by omega) ?_
            intro x40 h41
            refine ⟨_, rfl, ?_⟩
            replace hb : zHd _ := hb x40.toInt h41
            show ZW _ _ _ _ _ _ _ (174, [some (.ref 2), some (.ref 1), some (.int v51_2), some (.int v51_7), some (.int x26), some (.int x40), some (.int v51_6), some (.int v51_7), some (.int 1)], [], M29)
            refine w_gt dX5_scan_174 (t := 13) rfl ?_
            obtain ⟨m, hm, hI⟩ := hb
            exact (ih m hm).1 M29 v51_2 v51_7 x26 x40 (some (.int v51_6)) (some (.int v51_7)) (some (.int 1)) hJ38 (by omega) (by omega) (by omega) (by omega) (by omega) (by omega) (by omega) (by omega) hI
          · skip
            replace hb : zHd _ := hb.2 h39
            refine w_ine_f dX5_scan_82 (t := 159) rfl (by omega) ?_
            refine w_en dX5_scan_85 rfl ?_
            exact ⟨_, rfl, hJ38, hb⟩
      · intro M v86_2 v86_3 v86_4 v86_5 v86_6 v86_7 v86_8 hJ v86_20 v86_21 v86_30 v86_31 v86_40 v86_41 v86_50 v86_51 v86_60 v86_61 v86_70 v86_71 v86_80 v86_81 hI
        have hb : zHd _ := hb86 n (zi M) v86_2.toInt v86_3.toInt v86_4.toInt v86_5.toInt v86_6.toInt v86_7.toInt v86_8.toInt (zi_fr hJ.2) v86_20 v86_21 v86_30 v86_31 v86_40 v86_41 v86_50 v86_51 v86_60 v86_61 v86_70 v86_71 v86_80 v86_81 hI
        refine w_lo dX5_scan_86 rfl rfl rfl rfl ?_
        refine w_ic dX5_scan_88 zi_1 ?_
        rcases Int.decEq v86_7.toInt (1 : Int) with h42 | h42
        · skip
          replace hb : zHd _ := hb.1 h42
          refine w_ceq_f dX5_scan_89 (t := 101) rfl (by have := zt_1; omega) ?_
          refine w_lo dX5_scan_92 rfl rfl rfl rfl ?_
          rcases Int.decEq v86_8.toInt (0 : Int) with h43 | h43
          · skip
            replace hb : zHd _ := hb.1 h43
            refine w_ieq_f dX5_scan_94 (t := 111) rfl (by omega) ?_
            refine w_lo dX5_scan_97 rfl rfl rfl rfl ?_
            rcases Int.decEq v86_3.toInt (0 : Int) with h44 | h44
            · skip
              replace hb : zHd _ := hb.1 h44
              refine w_ieq_f dX5_scan_98 (t := 111) rfl (by omega) ?_
              refine w_lo dX5_scan_101 rfl rfl rfl rfl ?_
              refine w_ic dX5_scan_102 zi_1 ?_
              refine w_lo dX5_scan_103 rfl rfl rfl rfl ?_
              refine w_lo dX5_scan_105 rfl rfl rfl rfl ?_
              refine w_iv dX5_scan_107 rfl rfl (As := [.int 1, .int v86_5, .int v86_5]) rfl rfl hJ.1.1 zs_2 (Nat.le_of_ble_eq_true rfl) ?_
              obtain ⟨P47, hp48, hb⟩ := hb
              replace hb : zHd _ := hb
              have hp48c : b_1285 (zi M) (1 : Int32).toInt v86_5.toInt v86_5.toInt P47 := by rw [zt_1]; exact hp48
              refine ZV.imp (u_1285 1 (by have := zt_1; omega) (by have := zt_1; omega) v86_5 (by omega) (by omega) v86_5 (by omega) (by omega) hN hJ.1 hp48c) ?_
              rintro _ ⟨M45, rfl, hJ46, hq49⟩
              replace hb : zHd _ := hb  (zi M45) (zi_fr hJ46.2) hq49
              have hJ51 := zJ_trans hJ hJ46 (zSub_cons (fun _ _ h h' hk => zIR_a (by omega) (by omega)) (zSub_cons (fun _ _ h h' hk => zIR_s (zIR_e (by omega) (by omega) hk)) zSub_nil))
              show ZW _ _ _ _ _ _ _ (110, [some (.ref 2), some (.ref 1), some (.int v86_2), some (.int v86_3), some (.int v86_4), some (.int v86_5), some (.int v86_6), some (.int v86_7), some (.int v86_8)], [], M45)
              refine w_en dX5_scan_110 rfl ?_
              exact ⟨_, rfl, hJ51, hb⟩
            · skip
              replace hb : zHd _ := hb.2 h44
              refine w_ieq_t dX5_scan_98 (t := 111) rfl (by omega) ?_
              obtain ⟨m, hm, hI⟩ := hb
              exact (ih m hm).2.2.2 M v86_2 v86_3 v86_4 v86_5 v86_6 v86_7 v86_8 hJ (by omega) (by omega) (by omega) (by omega) (by omega) (by omega) (by omega) (by omega) (by omega) (by omega) (by omega) (by omega) hI
          · skip
            replace hb : zHd _ := hb.2 h43
            refine w_ieq_t dX5_scan_94 (t := 111) rfl (by omega) ?_
            obtain ⟨m, hm, hI⟩ := hb
            exact (ih m hm).2.2.2 M v86_2 v86_3 v86_4 v86_5 v86_6 v86_7 v86_8 hJ (by omega) (by omega) (by omega) (by omega) (by omega) (by omega) (by omega) (by omega) (by omega) (by omega) (by omega) (by omega) hI
        · skip
          replace hb : zHd _ := hb.2 h42
          refine w_ceq_t dX5_scan_89 (t := 101) rfl (by have := zt_1; omega) ?_
          refine w_lo dX5_scan_101 rfl rfl rfl rfl ?_
          refine w_ic dX5_scan_102 zi_1 ?_
          refine w_lo dX5_scan_103 rfl rfl rfl rfl ?_
          refine w_lo dX5_scan_105 rfl rfl rfl rfl ?_
          refine w_iv dX5_scan_107 rfl rfl (As := [.int 1, .int v86_5, .int v86_5]) rfl rfl hJ.1.1 zs_2 (Nat.le_of_ble_eq_true rfl) ?_
          obtain ⟨P54, hp55, hb⟩ := hb
          replace hb : zHd _ := hb
          have hp55c : b_1285 (zi M) (1 : Int32).toInt v86_5.toInt v86_5.toInt P54 := by rw [zt_1]; exact hp55
          refine ZV.imp (u_1285 1 (by have := zt_1; omega) (by have := zt_1; omega) v86_5 (by omega) (by omega) v86_5 (by omega) (by omega) hN hJ.1 hp55c) ?_
          rintro _ ⟨M52, rfl, hJ53, hq56⟩
          replace hb : zHd _ := hb  (zi M52) (zi_fr hJ53.2) hq56
          have hJ58 := zJ_trans hJ hJ53 (zSub_cons (fun _ _ h h' hk => zIR_a (by omega) (by omega)) (zSub_cons (fun _ _ h h' hk => zIR_s (zIR_e (by omega) (by omega) hk)) zSub_nil))
          show ZW _ _ _ _ _ _ _ (110, [some (.ref 2), some (.ref 1), some (.int v86_2), some (.int v86_3), some (.int v86_4), some (.int v86_5), some (.int v86_6), some (.int v86_7), some (.int v86_8)], [], M52)
          refine w_en dX5_scan_110 rfl ?_
          exact ⟨_, rfl, hJ58, hb⟩
      · intro M v111_2 u111_3 v111_4 v111_5 v111_6 v111_7 v111_8 hJ v111_20 v111_21 v111_40 v111_41 v111_50 v111_51 v111_60 v111_61 v111_70 v111_71 v111_80 v111_81 hI
        have hb : zHd _ := hb111 n (zi M) v111_2.toInt v111_4.toInt v111_5.toInt v111_6.toInt v111_7.toInt v111_8.toInt (zi_fr hJ.2) v111_20 v111_21 v111_40 v111_41 v111_50 v111_51 v111_60 v111_61 v111_70 v111_71 v111_80 v111_81 hI
        refine w_lo dX5_scan_111 rfl rfl rfl rfl ?_
        rcases Int.decEq v111_7.toInt (0 : Int) with h59 | h59
        · skip
          replace hb : zHd _ := hb.1 h59
          refine w_ieq_f dX5_scan_113 (t := 159) rfl (by omega) ?_
          refine w_lo dX5_scan_116 rfl rfl rfl rfl ?_
          refine w_lo dX5_scan_117 rfl rfl rfl rfl ?_
          refine w_lo dX5_scan_119 rfl rfl rfl rfl ?_
          refine w_ic dX5_scan_121 zi_2 ?_
          rcases Int.decEq v111_7.toInt (2 : Int) with h60 | h60
          · skip
            replace hb : zHd _ := hb.1 h60
            refine w_cne_t dX5_scan_122 (t := 135) rfl (by have := zt_2; omega) ?_
            refine w_lo dX5_scan_135 rfl rfl rfl rfl ?_
            refine w_ic dX5_scan_137 zi_4 ?_
            rcases Int.decEq v111_7.toInt (4 : Int) with h61 | h61
            · skip
              replace hb : zHd _ := hb.1 h61
              refine w_cne_t dX5_scan_138 (t := 149) rfl (by have := zt_4; omega) ?_
              refine w_lo dX5_scan_149 rfl rfl rfl rfl ?_
              refine w_lo dX5_scan_151 rfl rfl rfl rfl ?_
              refine w_iv dX5_scan_153 rfl rfl (As := [.int v111_7, .int v111_6, .int v111_5]) rfl rfl hJ.1.1 zs_2 (Nat.le_of_ble_eq_true rfl) ?_
              obtain ⟨P64, hp65, hb⟩ := hb
              replace hb : zHd _ := hb
              refine ZV.imp (u_1285 v111_7 (by omega) (by omega) v111_6 (by omega) (by omega) v111_5 (by omega) (by omega) hN hJ.1 hp65) ?_
              rintro _ ⟨M62, rfl, hJ63, hq66⟩
              replace hb : zHd _ := hb  (zi M62) (zi_fr hJ63.2) hq66
              have hJ68 := zJ_trans hJ hJ63 (zSub_cons (fun _ _ h h' hk => zIR_a (by omega) (by omega)) (zSub_cons (fun _ _ h h' hk => zIR_s (zIR_e (by omega) (by omega) hk)) zSub_nil))
              show ZW _ _ _ _ _ _ _ (156, [some (.ref 2), some (.ref 1), some (.int v111_2), some (.int u111_3), some (.int v111_4), some (.int v111_5), some (.int v111_6), some (.int v111_7), some (.int v111_8)], [], M62)
              refine w_ic dX5_scan_156 zi_1 ?_
              refine w_lo (ml' := [some (.ref 2), some (.ref 1), some (.int v111_2), some (.int u111_3), some (.int 1), some (.int v111_5), some (.int v111_6), some (.int v111_7), some (.int v111_8)]) dX5_scan_157 rfl rfl rfl rfl ?_
              refine w_lo dX5_scan_159 rfl rfl rfl rfl ?_
              rcases Int.decEq v111_8.toInt (0 : Int) with h69 | h69
              · skip
                replace hb : zHd _ := hb.1 h69
                refine w_ieq_f dX5_scan_161 (t := 169) rfl (by omega) ?_
                refine w_lo dX5_scan_164 rfl rfl rfl rfl ?_
                refine w_gt dX5_scan_166 (t := 170) rfl ?_
                refine w_lo (ml' := [some (.ref 2), some (.ref 1), some (.int v111_2), some (.int v111_7), some (.int 1), some (.int v111_5), some (.int v111_6), some (.int v111_7), some (.int v111_8)]) dX5_scan_170 rfl rfl rfl rfl ?_
                refine w_inc (kk := 5) dX5_scan_171 rfl (m := 1) (by decide) (by omega) ?_
                intro x70 h71
                refine ⟨_, rfl, ?_⟩
                replace hb : zHd _ := hb x70.toInt h71
                show ZW _ _ _ _ _ _ _ (174, [some (.ref 2), some (.ref 1), some (.int v111_2), some (.int v111_7), some (.int 1), some (.int x70), some (.int v111_6), some (.int v111_7), some (.int v111_8)], [], M62)
                refine w_gt dX5_scan_174 (t := 13) rfl ?_
                obtain ⟨m, hm, hI⟩ := hb
                exact (ih m hm).1 M62 v111_2 v111_7 1 x70 (some (.int v111_6)) (some (.int v111_7)) (some (.int v111_8)) hJ68 (by omega) (by omega) (by omega) (by omega) (by have := zt_1; omega) (by have := zt_1; omega) (by omega) (by omega) hI
              · skip
                replace hb : zHd _ := hb.2 h69
                refine w_ieq_t dX5_scan_161 (t := 169) rfl (by omega) ?_
                refine w_ic dX5_scan_169 zi_0 ?_
                refine w_lo (ml' := [some (.ref 2), some (.ref 1), some (.int v111_2), some (.int 0), some (.int 1), some (.int v111_5), some (.int v111_6), some (.int v111_7), some (.int v111_8)]) dX5_scan_170 rfl rfl rfl rfl ?_
                refine w_inc (kk := 5) dX5_scan_171 rfl (m := 1) (by decide) (by omega) ?_
                intro x72 h73
                refine ⟨_, rfl, ?_⟩
                replace hb : zHd _ := hb x72.toInt h73
                show ZW _ _ _ _ _ _ _ (174, [some (.ref 2), some (.ref 1), some (.int v111_2), some (.int 0), some (.int 1), some (.int x72), some (.int v111_6), some (.int v111_7), some (.int v111_8)], [], M62)
                refine w_gt dX5_scan_174 (t := 13) rfl ?_
                obtain ⟨m, hm, hI⟩ := hb
                exact (ih m hm).1 M62 v111_2 0 1 x72 (some (.int v111_6)) (some (.int v111_7)) (some (.int v111_8)) hJ68 (by omega) (by omega) (by have := zt_0; omega) (by have := zt_0; omega) (by have := zt_1; omega) (by have := zt_1; omega) (by omega) (by omega) hI
            · skip
              replace hb : zHd _ := hb.2 h61
              refine w_cne_f dX5_scan_138 (t := 149) rfl (by have := zt_4; omega) ?_
              refine w_lo dX5_scan_141 rfl rfl rfl rfl ?_
              refine w_bi dX5_scan_143 (c := 48) (by decide) ?_
              refine w_sub dX5_scan_145 (by have := zt_48; omega) ?_
              intro x74 h75
              have := zt_48
              replace hb : zHd _ := hb x74.toInt (by have := zt_48; omega)
              refine w_gt dX5_scan_146 (t := 151) rfl ?_
              refine w_lo dX5_scan_151 rfl rfl rfl rfl ?_
              refine w_iv dX5_scan_153 rfl rfl (As := [.int v111_7, .int x74, .int v111_5]) rfl rfl hJ.1.1 zs_2 (Nat.le_of_ble_eq_true rfl) ?_
              obtain ⟨P78, hp79, hb⟩ := hb
              replace hb : zHd _ := hb
              refine ZV.imp (u_1285 v111_7 (by omega) (by omega) x74 (by omega) (by omega) v111_5 (by omega) (by omega) hN hJ.1 hp79) ?_
              rintro _ ⟨M76, rfl, hJ77, hq80⟩
              replace hb : zHd _ := hb  (zi M76) (zi_fr hJ77.2) hq80
              have hJ82 := zJ_trans hJ hJ77 (zSub_cons (fun _ _ h h' hk => zIR_a (by omega) (by omega)) (zSub_cons (fun _ _ h h' hk => zIR_s (zIR_e (by omega) (by omega) hk)) zSub_nil))
              show ZW _ _ _ _ _ _ _ (156, [some (.ref 2), some (.ref 1), some (.int v111_2), some (.int u111_3), some (.int v111_4), some (.int v111_5), some (.int v111_6), some (.int v111_7), some (.int v111_8)], [], M76)
              refine w_ic dX5_scan_156 zi_1 ?_
              refine w_lo (ml' := [some (.ref 2), some (.ref 1), some (.int v111_2), some (.int u111_3), some (.int 1), some (.int v111_5), some (.int v111_6), some (.int v111_7), some (.int v111_8)]) dX5_scan_157 rfl rfl rfl rfl ?_
              refine w_lo dX5_scan_159 rfl rfl rfl rfl ?_
              rcases Int.decEq v111_8.toInt (0 : Int) with h83 | h83
              · skip
                replace hb : zHd _ := hb.1 h83
                refine w_ieq_f dX5_scan_161 (t := 169) rfl (by omega) ?_
                refine w_lo dX5_scan_164 rfl rfl rfl rfl ?_
                refine w_gt dX5_scan_166 (t := 170) rfl ?_
                refine w_lo (ml' := [some (.ref 2), some (.ref 1), some (.int v111_2), some (.int v111_7), some (.int 1), some (.int v111_5), some (.int v111_6), some (.int v111_7), some (.int v111_8)]) dX5_scan_170 rfl rfl rfl rfl ?_
                refine w_inc (kk := 5) dX5_scan_171 rfl (m := 1) (by decide) (by omega) ?_
                intro x84 h85
                refine ⟨_, rfl, ?_⟩
                replace hb : zHd _ := hb x84.toInt h85
                show ZW _ _ _ _ _ _ _ (174, [some (.ref 2), some (.ref 1), some (.int v111_2), some (.int v111_7), some (.int 1), some (.int x84), some (.int v111_6), some (.int v111_7), some (.int v111_8)], [], M76)
                refine w_gt dX5_scan_174 (t := 13) rfl ?_
                obtain ⟨m, hm, hI⟩ := hb
                exact (ih m hm).1 M76 v111_2 v111_7 1 x84 (some (.int v111_6)) (some (.int v111_7)) (some (.int v111_8)) hJ82 (by omega) (by omega) (by omega) (by omega) (by have := zt_1; omega) (by have := zt_1; omega) (by omega) (by omega) hI
              · skip
                replace hb : zHd _ := hb.2 h83
                refine w_ieq_t dX5_scan_161 (t := 169) rfl (by omega) ?_
                refine w_ic dX5_scan_169 zi_0 ?_
                refine w_lo (ml' := [some (.ref 2), some (.ref 1), some (.int v111_2), some (.int 0), some (.int 1), some (.int v111_5), some (.int v111_6), some (.int v111_7), some (.int v111_8)]) dX5_scan_170 rfl rfl rfl rfl ?_
                refine w_inc (kk := 5) dX5_scan_171 rfl (m := 1) (by decide) (by omega) ?_
                intro x86 h87
                refine ⟨_, rfl, ?_⟩
                replace hb : zHd _ := hb x86.toInt h87
                show ZW _ _ _ _ _ _ _ (174, [some (.ref 2), some (.ref 1), some (.int v111_2), some (.int 0), some (.int 1), some (.int x86), some (.int v111_6), some (.int v111_7), some (.int v111_8)], [], M76)
                refine w_gt dX5_scan_174 (t := 13) rfl ?_
                obtain ⟨m, hm, hI⟩ := hb
                exact (ih m hm).1 M76 v111_2 0 1 x86 (some (.int v111_6)) (some (.int v111_7)) (some (.int v111_8)) hJ82 (by omega) (by omega) (by have := zt_0; omega) (by have := zt_0; omega) (by have := zt_1; omega) (by have := zt_1; omega) (by omega) (by omega) hI
          · skip
            replace hb : zHd _ := hb.2 h60
            refine w_cne_f dX5_scan_122 (t := 135) rfl (by have := zt_2; omega) ?_
            refine w_lo dX5_scan_125 rfl rfl rfl rfl ?_
            refine w_bi dX5_scan_127 (c := 97) (by decide) ?_
            refine w_sub dX5_scan_129 (by have := zt_97; omega) ?_
            intro x88 h89
            have := zt_97
            replace hb : zHd _ := hb x88.toInt (by have := zt_97; omega)
            refine w_ic dX5_scan_130 zi_1 ?_
            refine w_add dX5_scan_131 (by have := zt_1; omega) ?_
            intro x90 h91
            have := zt_1
            replace hb : zHd _ := hb x90.toInt (by have := zt_1; omega)
            refine w_gt dX5_scan_132 (t := 151) rfl ?_
            refine w_lo dX5_scan_151 rfl rfl rfl rfl ?_
            refine w_iv dX5_scan_153 rfl rfl (As := [.int v111_7, .int x90, .int v111_5]) rfl rfl hJ.1.1 zs_2 (Nat.le_of_ble_eq_true rfl) ?_
            obtain ⟨P94, hp95, hb⟩ := hb
            replace hb : zHd _ := hb
            refine ZV.imp (u_1285 v111_7 (by omega) (by omega) x90 (by omega) (by omega) v111_5 (by omega) (by omega) hN hJ.1 hp95) ?_
            rintro _ ⟨M92, rfl, hJ93, hq96⟩
            replace hb : zHd _ := hb  (zi M92) (zi_fr hJ93.2) hq96
            have hJ98 := zJ_trans hJ hJ93 (zSub_cons (fun _ _ h h' hk => zIR_a (by omega) (by omega)) (zSub_cons (fun _ _ h h' hk => zIR_s (zIR_e (by omega) (by omega) hk)) zSub_nil))
            show ZW _ _ _ _ _ _ _ (156, [some (.ref 2), some (.ref 1), some (.int v111_2), some (.int u111_3), some (.int v111_4), some (.int v111_5), some (.int v111_6), some (.int v111_7), some (.int v111_8)], [], M92)
            refine w_ic dX5_scan_156 zi_1 ?_
            refine w_lo (ml' := [some (.ref 2), some (.ref 1), some (.int v111_2), some (.int u111_3), some (.int 1), some (.int v111_5), some (.int v111_6), some (.int v111_7), some (.int v111_8)]) dX5_scan_157 rfl rfl rfl rfl ?_
            refine w_lo dX5_scan_159 rfl rfl rfl rfl ?_
            rcases Int.decEq v111_8.toInt (0 : Int) with h99 | h99
            · skip
              replace hb : zHd _ := hb.1 h99
              refine w_ieq_f dX5_scan_161 (t := 169) rfl (by omega) ?_
              refine w_lo dX5_scan_164 rfl rfl rfl rfl ?_
              refine w_gt dX5_scan_166 (t := 170) rfl ?_
              refine w_lo (ml' := [some (.ref 2), some (.ref 1), some (.int v111_2), some (.int v111_7), some (.int 1), some (.int v111_5), some (.int v111_6), some (.int v111_7), some (.int v111_8)]) dX5_scan_170 rfl rfl rfl rfl ?_
              refine w_inc (kk := 5) dX5_scan_171 rfl (m := 1) (by decide) (by omega) ?_
              intro x100 h101
              refine ⟨_, rfl, ?_⟩
              replace hb : zHd _ := hb x100.toInt h101
              show ZW _ _ _ _ _ _ _ (174, [some (.ref 2), some (.ref 1), some (.int v111_2), some (.int v111_7), some (.int 1), some (.int x100), some (.int v111_6), some (.int v111_7), some (.int v111_8)], [], M92)
              refine w_gt dX5_scan_174 (t := 13) rfl ?_
              obtain ⟨m, hm, hI⟩ := hb
              exact (ih m hm).1 M92 v111_2 v111_7 1 x100 (some (.int v111_6)) (some (.int v111_7)) (some (.int v111_8)) hJ98 (by omega) (by omega) (by omega) (by omega) (by have := zt_1; omega) (by have := zt_1; omega) (by omega) (by omega) hI
            · skip
              replace hb : zHd _ := hb.2 h99
              refine w_ieq_t dX5_scan_161 (t := 169) rfl (by omega) ?_
              refine w_ic dX5_scan_169 zi_0 ?_
              refine w_lo (ml' := [some (.ref 2), some (.ref 1), some (.int v111_2), some (.int 0), some (.int 1), some (.int v111_5), some (.int v111_6), some (.int v111_7), some (.int v111_8)]) dX5_scan_170 rfl rfl rfl rfl ?_
              refine w_inc (kk := 5) dX5_scan_171 rfl (m := 1) (by decide) (by omega) ?_
              intro x102 h103
              refine ⟨_, rfl, ?_⟩
              replace hb : zHd _ := hb x102.toInt h103
              show ZW _ _ _ _ _ _ _ (174, [some (.ref 2), some (.ref 1), some (.int v111_2), some (.int 0), some (.int 1), some (.int x102), some (.int v111_6), some (.int v111_7), some (.int v111_8)], [], M92)
              refine w_gt dX5_scan_174 (t := 13) rfl ?_
              obtain ⟨m, hm, hI⟩ := hb
              exact (ih m hm).1 M92 v111_2 0 1 x102 (some (.int v111_6)) (some (.int v111_7)) (some (.int v111_8)) hJ98 (by omega) (by omega) (by have := zt_0; omega) (by have := zt_0; omega) (by have := zt_1; omega) (by have := zt_1; omega) (by omega) (by omega) hI
        · skip
          replace hb : zHd _ := hb.2 h59
          refine w_ieq_t dX5_scan_113 (t := 159) rfl (by omega) ?_
          refine w_lo dX5_scan_159 rfl rfl rfl rfl ?_
          rcases Int.decEq v111_8.toInt (0 : Int) with h104 | h104
          · skip
            replace hb : zHd _ := hb.1 h104
            refine w_ieq_f dX5_scan_161 (t := 169) rfl (by omega) ?_
            refine w_lo dX5_scan_164 rfl rfl rfl rfl ?_
            refine w_gt dX5_scan_166 (t := 170) rfl ?_
            refine w_lo (ml' := [some (.ref 2), some (.ref 1), some (.int v111_2), some (.int v111_7), some (.int v111_4), some (.int v111_5), some (.int v111_6), some (.int v111_7), some (.int v111_8)]) dX5_scan_170 rfl rfl rfl rfl ?_
            refine w_inc (kk := 5) dX5_scan_171 rfl (m := 1) (by decide) (by omega) ?_
            intro x105 h106
            refine ⟨_, rfl, ?_⟩
            replace hb : zHd _ := hb x105.toInt h106
            show ZW _ _ _ _ _ _ _ (174, [some (.ref 2), some (.ref 1), some (.int v111_2), some (.int v111_7), some (.int v111_4), some (.int x105), some (.int v111_6), some (.int v111_7), some (.int v111_8)], [], M)
            refine w_gt dX5_scan_174 (t := 13) rfl ?_
            obtain ⟨m, hm, hI⟩ := hb
            exact (ih m hm).1 M v111_2 v111_7 v111_4 x105 (some (.int v111_6)) (some (.int v111_7)) (some (.int v111_8)) hJ (by omega) (by omega) (by omega) (by omega) (by omega) (by omega) (by omega) (by omega) hI
          · skip
            replace hb : zHd _ := hb.2 h104
            refine w_ieq_t dX5_scan_161 (t := 169) rfl (by omega) ?_
            refine w_ic dX5_scan_169 zi_0 ?_
            refine w_lo (ml' := [some (.ref 2), some (.ref 1), some (.int v111_2), some (.int 0), some (.int v111_4), some (.int v111_5), some (.int v111_6), some (.int v111_7), some (.int v111_8)]) dX5_scan_170 rfl rfl rfl rfl ?_
            refine w_inc (kk := 5) dX5_scan_171 rfl (m := 1) (by decide) (by omega) ?_
            intro x107 h108
            refine ⟨_, rfl, ?_⟩
            replace hb : zHd _ := hb x107.toInt h108
            show ZW _ _ _ _ _ _ _ (174, [some (.ref 2), some (.ref 1), some (.int v111_2), some (.int 0), some (.int v111_4), some (.int x107), some (.int v111_6), some (.int v111_7), some (.int v111_8)], [], M)
            refine w_gt dX5_scan_174 (t := 13) rfl ?_
            obtain ⟨m, hm, hI⟩ := hb
            exact (ih m hm).1 M v111_2 0 v111_4 x107 (some (.int v111_6)) (some (.int v111_7)) (some (.int v111_8)) hJ (by omega) (by omega) (by have := zt_0; omega) (by have := zt_0; omega) (by omega) (by omega) (by omega) (by omega) hI
  have hb : zHd _ := hbE
  show ZW _ _ _ _ _ _ _ (0, [some (.ref 2), some (.ref 1), some (.int a1), none, none, none, none, none, none], [], M0)
  refine w_lo dX5_scan_0 rfl rfl rfl rfl ?_
  refine w_ic dX5_scan_1 zi_0 ?_
  refine w_pfi dX5_scan_2 rfl hJ0 zs_2 (Nat.le_of_ble_eq_true rfl) zo_2_6 (by have := zt_0; omega) (by have := zt_0; omega) (zIR_s (zIR_k (by omega) (by omega))) rfl rfl rfl ?_
  intro M109 hJ110 f111 hn112
  replace hb : zHd _ := hb (zi M109) (zi_zup hn112 f111 rfl zt_0)
  refine w_ic dX5_scan_5 zi_0 ?_
  refine w_lo (ml' := [some (.ref 2), some (.ref 1), some (.int a1), some (.int 0), none, none, none, none, none]) dX5_scan_6 rfl rfl rfl rfl ?_
  refine w_ic dX5_scan_7 zi_0 ?_
  refine w_lo (ml' := [some (.ref 2), some (.ref 1), some (.int a1), some (.int 0), some (.int 0), none, none, none, none]) dX5_scan_8 rfl rfl rfl rfl ?_
  refine w_ic dX5_scan_10 zi_0 ?_
  refine w_lo (ml' := [some (.ref 2), some (.ref 1), some (.int a1), some (.int 0), some (.int 0), some (.int 0), none, none, none]) dX5_scan_11 rfl rfl rfl rfl ?_
  obtain ⟨m, hI⟩ := hb
  exact (main m).1 M109 a1 0 0 0 none none none hJ110 (by omega) (by omega) (by have := zt_0; omega) (by have := zt_0; omega) (by have := zt_0; omega) (by have := zt_0; omega) (by have := zt_0; omega) (by have := zt_0; omega) hI
set_option maxRecDepth 100000 in
theorem u_1286 {X : List Int32} {d N : Nat} {M0 : zM} (a0 : Int32) (ha00 : (1 : Int) ≤ a0.toInt) (ha01 : a0.toInt ≤ 5) (hN : N ≤ 600) (hB0 : zB N M0) {Q : Int → zF → Prop} (hb : b_1286 (zi M0) a0.toInt Q) : ZV X (d + 1) 1286 [.ref 2, .int a0] M0 (zRI N [(2, 3, 0), (2, 3, 1)] M0 (0) (0) (fun v M' => Q v.toInt (zi M'))) := by
  have hJ0 : zJ N [(2, 3, 0), (2, 3, 1)] M0 M0 := zJ_refl hB0
  refine ZV.of (ini := false) rfl (Nat.le_of_ble_eq_true rfl) (by decide +kernel) ?_
  unfold b_1286 at hb
  replace hb : zHd _ := hb
  show ZW _ _ _ _ _ _ _ (0, [some (.ref 2), some (.int a0), none], [], M0)
  refine w_lo dX5_fails_0 rfl rfl rfl rfl ?_
  refine w_lo dX5_fails_1 rfl rfl rfl rfl ?_
  refine w_pfi dX5_fails_2 rfl hJ0 zs_2 (Nat.le_of_ble_eq_true rfl) zo_2_0 (by omega) (by omega) (zIR_k (by omega) (by omega)) rfl rfl rfl ?_
  intro M1 hJ2 f3 hn4
  replace hb : zHd _ := hb (zi M1) (zi_zup hn4 f3 rfl rfl)
  refine w_lo dX5_fails_5 rfl rfl rfl rfl ?_
  refine w_ic dX5_fails_6 zi_1 ?_
  rcases Int.decEq a0.toInt (1 : Int) with h6 | h6
  · skip
    replace hb : zHd _ := hb.1 h6
    refine w_cne_t dX5_fails_7 (t := 27) rfl (by have := zt_1; omega) ?_
    refine w_ic dX5_fails_27 zi_0 ?_
    refine w_lo (ml' := [some (.ref 2), some (.int a0), some (.int 0)]) dX5_fails_28 rfl rfl rfl rfl ?_
    refine w_lo dX5_fails_29 rfl rfl rfl rfl ?_
    refine w_lo dX5_fails_30 rfl rfl rfl rfl ?_
    refine w_ieq_t dX5_fails_31 (t := 46) rfl (by have := zt_0; omega) ?_
    refine w_lo dX5_fails_46 rfl rfl rfl rfl ?_
    refine w_gf dX5_fails_47 rfl hJ2.1.1 zs_2 (zr_2_5 hJ2.1) ?_
    refine w_lo dX5_fails_50 rfl rfl rfl rfl ?_
    refine w_gfi dX5_fails_51 rfl hJ2.1 zs_2 (Nat.le_of_ble_eq_true rfl) zo_2_7 ?_
    intro x7 f8 h9 h10
    replace hb : zHd _ := hb x7.toInt (ziE f8) h9 h10
    refine w_iai dX5_fails_54 hJ2.1 zs_6 (by omega) (by omega) zu_6 ?_
    intro x14 f11 h12 h13
    replace hb : zHd _ := hb x14.toInt (ziEk f11 rfl) h12 h13
    refine w_pfi dX5_fails_55 rfl hJ2 zs_2 (Nat.le_of_ble_eq_true rfl) zo_2_1 (zbot _) (ztop _) (zIR_s (zIR_k (by omega) (by omega))) rfl rfl rfl ?_
    intro M15 hJ16 f17 hn18
    replace hb : zHd _ := hb (zi M15) (zi_zup hn18 f17 rfl rfl)
    refine w_ic dX5_fails_58 zi_0 ?_
    refine w_en dX5_fails_59 rfl ?_
    exact ⟨_, _, rfl, (by have := zt_0; omega), (by have := zt_0; omega), hJ16, hb⟩
  · skip
    replace hb : zHd _ := hb.2 h6
    refine w_cne_f dX5_fails_7 (t := 27) rfl (by have := zt_1; omega) ?_
    refine w_lo dX5_fails_10 rfl rfl rfl rfl ?_
    refine w_gf dX5_fails_11 rfl hJ2.1.1 zs_2 (zr_2_3 hJ2.1) ?_
    refine w_lo dX5_fails_14 rfl rfl rfl rfl ?_
    refine w_gfi dX5_fails_15 rfl hJ2.1 zs_2 (Nat.le_of_ble_eq_true rfl) zo_2_7 ?_
    intro x20 f21 h22 h23
    replace hb : zHd _ := hb x20.toInt (ziE f21) h22 h23
    refine w_iai dX5_fails_18 hJ2.1 zs_4 (by omega) (by omega) zu_4 ?_
    intro x27 f24 h25 h26
    replace hb : zHd _ := hb x27.toInt (ziEk f24 rfl) h25 h26
    refine w_ic dX5_fails_19 zi_1 ?_
    rcases Int.decEq x27.toInt (1 : Int) with h28 | h28
    · skip
      replace hb : zHd _ := hb.1 h28
      refine w_cne_t dX5_fails_20 (t := 27) rfl (by have := zt_1; omega) ?_
      refine w_ic dX5_fails_27 zi_0 ?_
      refine w_lo (ml' := [some (.ref 2), some (.int a0), some (.int 0)]) dX5_fails_28 rfl rfl rfl rfl ?_
      refine w_lo dX5_fails_29 rfl rfl rfl rfl ?_
      refine w_lo dX5_fails_30 rfl rfl rfl rfl ?_
      refine w_ieq_t dX5_fails_31 (t := 46) rfl (by have := zt_0; omega) ?_
      refine w_lo dX5_fails_46 rfl rfl rfl rfl ?_
      refine w_gf dX5_fails_47 rfl hJ2.1.1 zs_2 (zr_2_5 hJ2.1) ?_
      refine w_lo dX5_fails_50 rfl rfl rfl rfl ?_
      refine w_gf dX5_fails_51 rfl hJ2.1.1 zs_2 f21 ?_
      refine w_iai dX5_fails_54 hJ2.1 zs_6 (by omega) (by omega) zu_6 ?_
      intro x32 f29 h30 h31
      replace hb : zHd _ := hb x32.toInt (ziEk f29 rfl) h30 h31
      refine w_pfi dX5_fails_55 rfl hJ2 zs_2 (Nat.le_of_ble_eq_true rfl) zo_2_1 (zbot _) (ztop _) (zIR_s (zIR_k (by omega) (by omega))) rfl rfl rfl ?_
      intro M33 hJ34 f35 hn36
      replace hb : zHd _ := hb (zi M33) (zi_zup hn36 f35 rfl rfl)
      refine w_ic dX5_fails_58 zi_0 ?_
      refine w_en dX5_fails_59 rfl ?_
      exact ⟨_, _, rfl, (by have := zt_0; omega), (by have := zt_0; omega), hJ34, hb⟩
    · skip
      replace hb : zHd _ := hb.2 h28
      refine w_cne_f dX5_fails_20 (t := 27) rfl (by have := zt_1; omega) ?_
      refine w_ic dX5_fails_23 zi_1 ?_
      refine w_gt dX5_fails_24 (t := 28) rfl ?_
      refine w_lo (ml' := [some (.ref 2), some (.int a0), some (.int 1)]) dX5_fails_28 rfl rfl rfl rfl ?_
      refine w_lo dX5_fails_29 rfl rfl rfl rfl ?_
      refine w_lo dX5_fails_30 rfl rfl rfl rfl ?_
      refine w_ieq_f dX5_fails_31 (t := 46) rfl (by have := zt_1; omega) ?_
      refine w_lo dX5_fails_34 rfl rfl rfl rfl ?_
      refine w_gf dX5_fails_35 rfl hJ2.1.1 zs_2 (zr_2_4 hJ2.1) ?_
      refine w_lo dX5_fails_38 rfl rfl rfl rfl ?_
      refine w_gf dX5_fails_39 rfl hJ2.1.1 zs_2 f21 ?_
      refine w_iai dX5_fails_42 hJ2.1 zs_5 (by omega) (by omega) zu_5 ?_
      intro x41 f38 h39 h40
      replace hb : zHd _ := hb x41.toInt (ziEk f38 rfl)
      refine w_gt dX5_fails_43 (t := 55) rfl ?_
      refine w_pfi dX5_fails_55 rfl hJ2 zs_2 (Nat.le_of_ble_eq_true rfl) zo_2_1 (zbot _) (ztop _) (zIR_s (zIR_k (by omega) (by omega))) rfl rfl rfl ?_
      intro M42 hJ43 f44 hn45
      replace hb : zHd _ := hb (zi M42) (zi_zup hn45 f44 rfl rfl)
      refine w_ic dX5_fails_58 zi_0 ?_
      refine w_en dX5_fails_59 rfl ?_
      exact ⟨_, _, rfl, (by have := zt_0; omega), (by have := zt_0; omega), hJ43, hb⟩
set_option maxRecDepth 100000 in
theorem u_1287 {X : List Int32} {d N : Nat} {M0 : zM}  (hN : N ≤ 600) (hB0 : zB N M0) {Q : Int → zF → Prop} (hb : b_1287 (zi M0) Q) : ZV X (d + 1) 1287 [.ref 2] M0 (zRI N [] M0 (-1) (26) (fun v M' => Q v.toInt (zi M'))) := by
  have hJ0 : zJ N [] M0 M0 := zJ_refl hB0
  refine ZV.of (ini := false) rfl (Nat.le_of_ble_eq_true rfl) (by decide +kernel) ?_
  obtain ⟨I15, hbE, hb15⟩ := hb
  replace hbE : zHd _ := hbE
  replace hb15 : zHd _ := hb15
  have main : ∀ n : Nat,
      (∀ (M : zM) (v15_1 : Int32), zJ N [] M0 M → ((0 : Int) ≤ v15_1.toInt) → (v15_1.toInt ≤ 27) → I15 n (zi M) v15_1.toInt → ZW X (d + 0) 5 false (some .int) cX5_own (zRI N [] M0 (-1) (26) (fun v M' => Q v.toInt (zi M'))) (15, [some (.ref 2), some (.int v15_1)], [], M)) := by
    intro n
    induction n using Nat.strongRecOn with
    | _ n ih =>
      · intro M v15_1 hJ v15_10 v15_11 hI
        have hb : zHd _ := hb15 n (zi M) v15_1.toInt (zi_fr hJ.2) v15_10 v15_11 hI
        refine w_lo dX5_own_15 rfl rfl rfl rfl ?_
        refine w_bi dX5_own_16 (c := 27) (by decide) ?_
        rcases zcut v15_1.toInt (27 : Int) with h1 | h1
        · skip
          replace hb : zHd _ := hb.1 h1
          refine w_cge_f dX5_own_18 (t := 47) rfl (by have := zt_27; omega) ?_
          refine w_lo dX5_own_21 rfl rfl rfl rfl ?_
          refine w_gf dX5_own_22 rfl hJ.1.1 zs_2 (zr_2_2 hJ.1) ?_
          refine w_lo dX5_own_25 rfl rfl rfl rfl ?_
          refine w_iai dX5_own_26 hJ.1 zs_3 (by omega) (by omega) zu_3 ?_
          intro x5 f2 h3 h4
          replace hb : zHd _ := hb x5.toInt (ziEk f2 rfl) h3 h4
          refine w_lo dX5_own_27 rfl rfl rfl rfl ?_
          refine w_gf dX5_own_28 rfl hJ.1.1 zs_2 (zr_2_4 hJ.1) ?_
          refine w_lo dX5_own_31 rfl rfl rfl rfl ?_
          refine w_gfi dX5_own_32 rfl hJ.1 zs_2 (Nat.le_of_ble_eq_true rfl) zo_2_7 ?_
          intro x6 f7 h8 h9
          replace hb : zHd _ := hb x6.toInt (ziE f7) h8 h9
          refine w_iai dX5_own_35 hJ.1 zs_5 (by omega) (by omega) zu_5 ?_
          intro x13 f10 h11 h12
          replace hb : zHd _ := hb x13.toInt (ziEk f10 rfl)
          rcases Int.decEq x5.toInt x13.toInt with h14 | h14
          · skip
            replace hb : zHd _ := hb.1 h14
            refine w_cne_t dX5_own_36 (t := 41) rfl (by omega) ?_
            refine w_inc (kk := 1) dX5_own_41 rfl (m := 1) (by decide) (by omega) ?_
            intro x15 h16
            refine ⟨_, rfl, ?_⟩
            replace hb : zHd _ := hb x15.toInt h16
            show ZW _ _ _ _ _ _ _ (44, [some (.ref 2), some (.int x15)], [], M)
            refine w_gt dX5_own_44 (t := 15) rfl ?_
            obtain ⟨m, hm, hI⟩ := hb
            exact (ih m hm) M x15 hJ (by omega) (by omega) hI
          · skip
            replace hb : zHd _ := hb.2 h14
            refine w_cne_f dX5_own_36 (t := 41) rfl (by omega) ?_
            refine w_lo dX5_own_39 rfl rfl rfl rfl ?_
            refine w_eni dX5_own_40 rfl rfl ?_
            exact ⟨_, _, rfl, (by omega), (by omega), hJ, hb⟩
        · skip
          replace hb : zHd _ := hb.2 h1
          refine w_cge_t dX5_own_18 (t := 47) rfl (by have := zt_27; omega) ?_
          refine w_ic dX5_own_47 zi_m1 ?_
          refine w_en dX5_own_48 rfl ?_
          exact ⟨_, _, rfl, (by have := zt_m1; omega), (by have := zt_m1; omega), hJ, hb⟩
  have hb : zHd _ := hbE
  show ZW _ _ _ _ _ _ _ (0, [some (.ref 2), none], [], M0)
  refine w_lo dX5_own_0 rfl rfl rfl rfl ?_
  refine w_gf dX5_own_1 rfl hJ0.1.1 zs_2 (zr_2_3 hJ0.1) ?_
  refine w_lo dX5_own_4 rfl rfl rfl rfl ?_
  refine w_gfi dX5_own_5 rfl hJ0.1 zs_2 (Nat.le_of_ble_eq_true rfl) zo_2_7 ?_
  intro x17 f18 h19 h20
  replace hb : zHd _ := hb x17.toInt (ziE f18) h19 h20
  refine w_iai dX5_own_8 hJ0.1 zs_4 (by omega) (by omega) zu_4 ?_
  intro x24 f21 h22 h23
  replace hb : zHd _ := hb x24.toInt (ziEk f21 rfl) h22 h23
  refine w_ic dX5_own_9 zi_2 ?_
  rcases Int.decEq x24.toInt (2 : Int) with h25 | h25
  · skip
    replace hb : zHd _ := hb.1 h25
    refine w_cne_t dX5_own_10 (t := 47) rfl (by have := zt_2; omega) ?_
    refine w_ic dX5_own_47 zi_m1 ?_
    refine w_en dX5_own_48 rfl ?_
    exact ⟨_, _, rfl, (by have := zt_m1; omega), (by have := zt_m1; omega), hJ0, hb⟩
  · skip
    replace hb : zHd _ := hb.2 h25
    refine w_cne_f dX5_own_10 (t := 47) rfl (by have := zt_2; omega) ?_
    refine w_ic dX5_own_13 zi_0 ?_
    refine w_lo (ml' := [some (.ref 2), some (.int 0)]) dX5_own_14 rfl rfl rfl rfl ?_
    obtain ⟨m, hI⟩ := hb
    exact (main m) M0 0 hJ0 (by have := zt_0; omega) (by have := zt_0; omega) hI
set_option maxRecDepth 100000 in
theorem u_1289 {X : List Int32} {d N : Nat} {M0 : zM}  (hN : N ≤ 600) (hB0 : zB N M0) {Q : zF → Prop} (hb : b_1289 (zi M0) Q) : ZV X (d + 1) 1289 [.ref 2] M0 (zRV N [(2, 3, 7)] M0 (fun M' => Q (zi M'))) := by
  have hJ0 : zJ N [(2, 3, 7)] M0 M0 := zJ_refl hB0
  refine ZV.of (ini := false) rfl (Nat.le_of_ble_eq_true rfl) (by decide +kernel) ?_
  unfold b_1289 at hb
  replace hb : zHd _ := hb
  show ZW _ _ _ _ _ _ _ (0, [some (.ref 2)], [], M0)
  refine w_lo dX5_step_0 rfl rfl rfl rfl ?_
  refine w_gfi dX5_step_1 rfl hJ0.1 zs_2 (Nat.le_of_ble_eq_true rfl) zo_2_7 ?_
  intro x1 f2 h3 h4
  replace hb : zHd _ := hb x1.toInt (ziE f2) h3 h4
  refine w_lo dX5_step_4 rfl rfl rfl rfl ?_
  refine w_gfi dX5_step_5 rfl hJ0.1 zs_2 (Nat.le_of_ble_eq_true rfl) zo_2_6 ?_
  intro x5 f6 h7 h8
  replace hb : zHd _ := hb x5.toInt (ziE f6) h7 h8
  refine w_ic dX5_step_8 zi_1 ?_
  refine w_sub dX5_step_9 (by have := zt_1; omega) ?_
  intro x9 h10
  have := zt_1
  replace hb : zHd _ := hb x9.toInt (by have := zt_1; omega)
  rcases zcut x1.toInt x9.toInt with h11 | h11
  · skip
    replace hb : zHd _ := hb.1 h11
    refine w_cge_f dX5_step_10 (t := 23) rfl (by omega) ?_
    refine w_lo dX5_step_13 rfl rfl rfl rfl ?_
    refine w_pu dX5_step_14 rfl rfl ?_
    refine w_gf dX5_step_15 rfl hJ0.1.1 zs_2 f2 ?_
    refine w_ic dX5_step_18 zi_1 ?_
    refine w_add dX5_step_19 (by have := zt_1; omega) ?_
    intro x12 h13
    have := zt_1
    replace hb : zHd _ := hb x12.toInt (by have := zt_1; omega)
    refine w_pfi dX5_step_20 rfl hJ0 zs_2 (Nat.le_of_ble_eq_true rfl) zo_2_7 (by omega) (by omega) (zIR_k (by omega) (by omega)) rfl rfl rfl ?_
    intro M14 hJ15 f16 hn17
    replace hb : zHd _ := hb (zi M14) (zi_zup hn17 f16 rfl rfl)
    refine w_en dX5_step_23 rfl ?_
    exact ⟨_, rfl, hJ15, hb⟩
  · skip
    replace hb : zHd _ := hb.2 h11
    refine w_cge_t dX5_step_10 (t := 23) rfl (by omega) ?_
    refine w_en dX5_step_23 rfl ?_
    exact ⟨_, rfl, hJ0, hb⟩
set_option maxRecDepth 100000 in
theorem u_1290 {X : List Int32} {d N : Nat} {M0 : zM}  (hN : N ≤ 600) (hB0 : zB N M0) {Q : Int → zF → Prop} (hb : b_1290 (zi M0) Q) : ZV X (d + 2) 1290 [.ref 2] M0 (zRI N [(2, 3, 0), (2, 3, 1), (2, 3, 7), (2, 3, 9)] M0 (0) (1) (fun v M' => Q v.toInt (zi M'))) := by
  have hJ0 : zJ N [(2, 3, 0), (2, 3, 1), (2, 3, 7), (2, 3, 9)] M0 M0 := zJ_refl hB0
  refine ZV.of (ini := false) rfl (Nat.le_of_ble_eq_true rfl) (by decide +kernel) ?_
  unfold b_1290 at hb
  replace hb : zHd _ := hb
  show ZW _ _ _ _ _ _ _ (0, [some (.ref 2)], [], M0)
  refine w_lo dX5_needsName_0 rfl rfl rfl rfl ?_
  refine w_gf dX5_needsName_1 rfl hJ0.1.1 zs_2 (zr_2_3 hJ0.1) ?_
  refine w_lo dX5_needsName_4 rfl rfl rfl rfl ?_
  refine w_gfi dX5_needsName_5 rfl hJ0.1 zs_2 (Nat.le_of_ble_eq_true rfl) zo_2_7 ?_
  intro x1 f2 h3 h4
  replace hb : zHd _ := hb x1.toInt (ziE f2) h3 h4
  refine w_iai dX5_needsName_8 hJ0.1 zs_4 (by omega) (by omega) zu_4 ?_
  intro x8 f5 h6 h7
  replace hb : zHd _ := hb x8.toInt (ziEk f5 rfl) h6 h7
  refine w_ic dX5_needsName_9 zi_2 ?_
  rcases Int.decEq x8.toInt (2 : Int) with h9 | h9
  · skip
    replace hb : zHd _ := hb.1 h9
    refine w_cne_t dX5_needsName_10 (t := 21) rfl (by have := zt_2; omega) ?_
    refine w_lo dX5_needsName_21 rfl rfl rfl rfl ?_
    refine w_ic dX5_needsName_22 zi_1 ?_
    refine w_iv dX5_needsName_23 rfl rfl (As := [.int 1]) rfl rfl hJ0.1.1 zs_2 (Nat.le_of_ble_eq_true rfl) ?_
    obtain ⟨P12, hp13, hb⟩ := hb
    replace hb : zHd _ := hb
    have hp13c : b_1286 (zi M0) (1 : Int32).toInt P12 := by rw [zt_1]; exact hp13
    refine ZV.imp (u_1286 1 (by have := zt_1; omega) (by have := zt_1; omega) hN hJ0.1 hp13c) ?_
    rintro _ ⟨x15, M10, rfl, h16, h17, hJ11, hq14⟩
    replace hb : zHd _ := hb x15.toInt h16 h17 (zi M10) (zi_fr hJ11.2) hq14
    have hJ19 := zJ_trans hJ0 hJ11 (zSub_cons (fun _ _ h h' hk => zIR_e (by omega) (by omega) hk) (zSub_cons (fun _ _ h h' hk => zIR_s (zIR_e (by omega) (by omega) hk)) zSub_nil))
    show ZW _ _ _ _ _ _ _ (26, [some (.ref 2)], [.int x15], M10)
    refine w_eni dX5_needsName_26 rfl (znb (by omega) (by omega)) ?_
    exact ⟨_, _, rfl, (by omega), (by omega), hJ19, hb⟩
  · skip
    replace hb : zHd _ := hb.2 h9
    refine w_cne_f dX5_needsName_10 (t := 21) rfl (by have := zt_2; omega) ?_
    refine w_lo dX5_needsName_13 rfl rfl rfl rfl ?_
    refine w_iv dX5_needsName_14 rfl rfl (As := []) rfl rfl hJ0.1.1 zs_2 (Nat.le_of_ble_eq_true rfl) ?_
    obtain ⟨P22, hp23, hb⟩ := hb
    replace hb : zHd _ := hb
    refine ZV.imp (u_1287 hN hJ0.1 hp23) ?_
    rintro _ ⟨x25, M20, rfl, h26, h27, hJ21, hq24⟩
    replace hb : zHd _ := hb x25.toInt h26 h27 (zi M20) (zi_fr hJ21.2) hq24
    have hJ29 := zJ_trans hJ0 hJ21 zSub_nil
    show ZW _ _ _ _ _ _ _ (17, [some (.ref 2)], [.int x25], M20)
    refine w_ic dX5_needsName_17 zi_m1 ?_
    rcases Int.decEq x25.toInt (-1 : Int) with h30 | h30
    · skip
      replace hb : zHd _ := hb.1 h30
      refine w_ceq_f dX5_needsName_18 (t := 27) rfl (by have := zt_m1; omega) ?_
      refine w_lo dX5_needsName_21 rfl rfl rfl rfl ?_
      refine w_ic dX5_needsName_22 zi_1 ?_
      refine w_iv dX5_needsName_23 rfl rfl (As := [.int 1]) rfl rfl hJ29.1.1 zs_2 (Nat.le_of_ble_eq_true rfl) ?_
      obtain ⟨P33, hp34, hb⟩ := hb
      replace hb : zHd _ := hb
      have hp34c : b_1286 (zi M20) (1 : Int32).toInt P33 := by rw [zt_1]; exact hp34
      refine ZV.imp (u_1286 1 (by have := zt_1; omega) (by have := zt_1; omega) hN hJ29.1 hp34c) ?_
      rintro _ ⟨x36, M31, rfl, h37, h38, hJ32, hq35⟩
      replace hb : zHd _ := hb x36.toInt h37 h38 (zi M31) (zi_fr hJ32.2) hq35
      have hJ40 := zJ_trans hJ29 hJ32 (zSub_cons (fun _ _ h h' hk => zIR_e (by omega) (by omega) hk) (zSub_cons (fun _ _ h h' hk => zIR_s (zIR_e (by omega) (by omega) hk)) zSub_nil))
      show ZW _ _ _ _ _ _ _ (26, [some (.ref 2)], [.int x36], M31)
      refine w_eni dX5_needsName_26 rfl (znb (by omega) (by omega)) ?_
      exact ⟨_, _, rfl, (by omega), (by omega), hJ40, hb⟩
    · skip
      replace hb : zHd _ := hb.2 h30
      refine w_ceq_t dX5_needsName_18 (t := 27) rfl (by have := zt_m1; omega) ?_
      refine w_lo dX5_needsName_27 rfl rfl rfl rfl ?_
      refine w_lo dX5_needsName_28 rfl rfl rfl rfl ?_
      refine w_gf dX5_needsName_29 rfl hJ29.1.1 zs_2 (zr_2_4 hJ29.1) ?_
      refine w_lo dX5_needsName_32 rfl rfl rfl rfl ?_
      have f41 := (hJ21.2 (2) 7 zNI_nil).trans (f2)
      refine w_gf dX5_needsName_33 rfl hJ29.1.1 zs_2 f41 ?_
      refine w_iai dX5_needsName_36 hJ29.1 zs_5 (by omega) (by omega) zu_5 ?_
      intro x45 f42 h43 h44
      replace hb : zHd _ := hb x45.toInt (ziEk f42 rfl)
      refine w_pfi dX5_needsName_37 rfl hJ29 zs_2 (Nat.le_of_ble_eq_true rfl) zo_2_9 (zbot _) (ztop _) (zIR_s (zIR_s (zIR_s (zIR_k (by omega) (by omega))))) rfl rfl rfl ?_
      intro M46 hJ47 f48 hn49
      replace hb : zHd _ := hb (zi M46) (zi_zup hn49 f48 rfl rfl)
      refine w_lo dX5_needsName_40 rfl rfl rfl rfl ?_
      obtain ⟨b51, f52, h53⟩ := zd_2_8 hJ47.1
      have h54 := zDm_b h53
      refine w_gf dX5_needsName_41 rfl hJ47.1.1 zs_2 f52 ?_
      replace hb : zHd _ := hb b51 (ziR f52) (zDm_or h53)
      refine w_lo dX5_needsName_44 rfl rfl rfl rfl ?_
      refine w_gf dX5_needsName_45 rfl hJ47.1.1 zs_2 f48 ?_
      refine w_iv dX5_needsName_48 rfl rfl (As := [.int x45]) rfl rfl hJ47.1.1 (zs_1_0 h53) (Nat.le_of_ble_eq_true rfl) ?_
      obtain ⟨P57, hp58, hb⟩ := hb
      replace hb : zHd _ := hb
      refine ZV.imp (u_258 b51 h53 x45 hN hJ47.1 hp58) ?_
      rintro _ ⟨x60, M55, rfl, h61, h62, hJ56, hq59⟩
      replace hb : zHd _ := hb x60.toInt h61 h62 (zi M55) (zi_fr hJ56.2) hq59
      have hJ64 := zJ_trans hJ47 hJ56 zSub_nil
      show ZW _ _ _ _ _ _ _ (51, [some (.ref 2)], [.int x60], M55)
      rcases Int.decEq x60.toInt (0 : Int) with h65 | h65
      · skip
        replace hb : zHd _ := hb.1 h65
        refine w_ieq_f dX5_needsName_51 (t := 60) rfl (by omega) ?_
        refine w_lo dX5_needsName_54 rfl rfl rfl rfl ?_
        refine w_ic dX5_needsName_55 zi_2 ?_
        refine w_iv dX5_needsName_56 rfl rfl (As := [.int 2]) rfl rfl hJ64.1.1 zs_2 (Nat.le_of_ble_eq_true rfl) ?_
        obtain ⟨P68, hp69, hb⟩ := hb
        replace hb : zHd _ := hb
        have hp69c : b_1286 (zi M55) (2 : Int32).toInt P68 := by rw [zt_2]; exact hp69
        refine ZV.imp (u_1286 2 (by have := zt_2; omega) (by have := zt_2; omega) hN hJ64.1 hp69c) ?_
        rintro _ ⟨x71, M66, rfl, h72, h73, hJ67, hq70⟩
        replace hb : zHd _ := hb x71.toInt h72 h73 (zi M66) (zi_fr hJ67.2) hq70
        have hJ75 := zJ_trans hJ64 hJ67 (zSub_cons (fun _ _ h h' hk => zIR_e (by omega) (by omega) hk) (zSub_cons (fun _ _ h h' hk => zIR_s (zIR_e (by omega) (by omega) hk)) zSub_nil))
        show ZW _ _ _ _ _ _ _ (59, [some (.ref 2)], [.int x71], M66)
        refine w_eni dX5_needsName_59 rfl (znb (by omega) (by omega)) ?_
        exact ⟨_, _, rfl, (by omega), (by omega), hJ75, hb⟩
      · skip
        replace hb : zHd _ := hb.2 h65
        refine w_ieq_t dX5_needsName_51 (t := 60) rfl (by omega) ?_
        refine w_lo dX5_needsName_60 rfl rfl rfl rfl ?_
        refine w_iv dX5_needsName_61 rfl rfl (As := []) rfl rfl hJ64.1.1 zs_2 (Nat.le_of_ble_eq_true rfl) ?_
        obtain ⟨P78, hp79, hb⟩ := hb
        replace hb : zHd _ := hb
        refine ZV.imp (u_1289 hN hJ64.1 hp79) ?_
        rintro _ ⟨M76, rfl, hJ77, hq80⟩
        replace hb : zHd _ := hb  (zi M76) (zi_fr hJ77.2) hq80
        have hJ82 := zJ_trans hJ64 hJ77 (zSub_cons (fun _ _ h h' hk => zIR_s (zIR_s (zIR_e (by omega) (by omega) hk))) zSub_nil)
        show ZW _ _ _ _ _ _ _ (64, [some (.ref 2)], [], M76)
        refine w_ic dX5_needsName_64 zi_1 ?_
        refine w_en dX5_needsName_65 rfl ?_
        exact ⟨_, _, rfl, (by have := zt_1; omega), (by have := zt_1; omega), hJ82, hb⟩
set_option maxRecDepth 100000 in
theorem u_1291 {X : List Int32} {d N : Nat} {M0 : zM} (a0 : Int32) (ha00 : (1 : Int) ≤ a0.toInt) (ha01 : a0.toInt ≤ 20) (hN : N ≤ 600) (hB0 : zB N M0) {Q : Int → zF → Prop} (hb : b_1291 (zi M0) a0.toInt Q) : ZV X (d + 2) 1291 [.ref 2, .int a0] M0 (zRI N [(2, 3, 0), (2, 3, 1), (2, 3, 7)] M0 (0) (1) (fun v M' => Q v.toInt (zi M'))) := by
  have hJ0 : zJ N [(2, 3, 0), (2, 3, 1), (2, 3, 7)] M0 M0 := zJ_refl hB0
  refine ZV.of (ini := false) rfl (Nat.le_of_ble_eq_true rfl) (by decide +kernel) ?_
  unfold b_1291 at hb
  replace hb : zHd _ := hb
  show ZW _ _ _ _ _ _ _ (0, [some (.ref 2), some (.int a0)], [], M0)
  refine w_lo dX5_needsOwn_0 rfl rfl rfl rfl ?_
  refine w_iv dX5_needsOwn_1 rfl rfl (As := []) rfl rfl hJ0.1.1 zs_2 (Nat.le_of_ble_eq_true rfl) ?_
  obtain ⟨P3, hp4, hb⟩ := hb
  replace hb : zHd _ := hb
  refine ZV.imp (u_1287 hN hJ0.1 hp4) ?_
  rintro _ ⟨x6, M1, rfl, h7, h8, hJ2, hq5⟩
  replace hb : zHd _ := hb x6.toInt h7 h8 (zi M1) (zi_fr hJ2.2) hq5
  have hJ10 := zJ_trans hJ0 hJ2 zSub_nil
  show ZW _ _ _ _ _ _ _ (4, [some (.ref 2), some (.int a0)], [.int x6], M1)
  refine w_lo dX5_needsOwn_4 rfl rfl rfl rfl ?_
  rcases Int.decEq x6.toInt a0.toInt with h11 | h11
  · skip
    replace hb : zHd _ := hb.1 h11
    refine w_ceq_f dX5_needsOwn_5 (t := 14) rfl (by omega) ?_
    refine w_lo dX5_needsOwn_8 rfl rfl rfl rfl ?_
    refine w_ic dX5_needsOwn_9 zi_1 ?_
    refine w_iv dX5_needsOwn_10 rfl rfl (As := [.int 1]) rfl rfl hJ10.1.1 zs_2 (Nat.le_of_ble_eq_true rfl) ?_
    obtain ⟨P14, hp15, hb⟩ := hb
    replace hb : zHd _ := hb
    have hp15c : b_1286 (zi M1) (1 : Int32).toInt P14 := by rw [zt_1]; exact hp15
    refine ZV.imp (u_1286 1 (by have := zt_1; omega) (by have := zt_1; omega) hN hJ10.1 hp15c) ?_
    rintro _ ⟨x17, M12, rfl, h18, h19, hJ13, hq16⟩
    replace hb : zHd _ := hb x17.toInt h18 h19 (zi M12) (zi_fr hJ13.2) hq16
    have hJ21 := zJ_trans hJ10 hJ13 (zSub_cons (fun _ _ h h' hk => zIR_e (by omega) (by omega) hk) (zSub_cons (fun _ _ h h' hk => zIR_s (zIR_e (by omega) (by omega) hk)) zSub_nil))
    show ZW _ _ _ _ _ _ _ (13, [some (.ref 2), some (.int a0)], [.int x17], M12)
    refine w_eni dX5_needsOwn_13 rfl (znb (by omega) (by omega)) ?_
    exact ⟨_, _, rfl, (by omega), (by omega), hJ21, hb⟩
  · skip
    replace hb : zHd _ := hb.2 h11
    refine w_ceq_t dX5_needsOwn_5 (t := 14) rfl (by omega) ?_
    refine w_lo dX5_needsOwn_14 rfl rfl rfl rfl ?_
    refine w_iv dX5_needsOwn_15 rfl rfl (As := []) rfl rfl hJ10.1.1 zs_2 (Nat.le_of_ble_eq_true rfl) ?_
    obtain ⟨P24, hp25, hb⟩ := hb
    replace hb : zHd _ := hb
    refine ZV.imp (u_1289 hN hJ10.1 hp25) ?_
    rintro _ ⟨M22, rfl, hJ23, hq26⟩
    replace hb : zHd _ := hb  (zi M22) (zi_fr hJ23.2) hq26
    have hJ28 := zJ_trans hJ10 hJ23 (zSub_cons (fun _ _ h h' hk => zIR_s (zIR_s (zIR_e (by omega) (by omega) hk))) zSub_nil)
    show ZW _ _ _ _ _ _ _ (18, [some (.ref 2), some (.int a0)], [], M22)
    refine w_ic dX5_needsOwn_18 zi_1 ?_
    refine w_en dX5_needsOwn_19 rfl ?_
    exact ⟨_, _, rfl, (by have := zt_1; omega), (by have := zt_1; omega), hJ28, hb⟩
set_option maxRecDepth 100000 in
theorem u_1292 {X : List Int32} {d N : Nat} {M0 : zM} (a0 : Int32) (ha00 : (0 : Int) ≤ a0.toInt) (ha01 : a0.toInt ≤ 1) (a1 : Int32) (ha10 : (60 : Int) ≤ a1.toInt) (ha11 : a1.toInt ≤ 999) (hN : N ≤ 600) (hB0 : zB N M0) {Q : Int → zF → Prop} (hb : b_1292 (zi M0) a0.toInt a1.toInt Q) : ZV X (d + 2) 1292 [.ref 2, .int a0, .int a1] M0 (zRI N [(2, 3, 0), (2, 3, 1), (2, 3, 10), (2, 3, 7)] M0 (0) (1) (fun v M' => Q v.toInt (zi M'))) := by
  have hJ0 : zJ N [(2, 3, 0), (2, 3, 1), (2, 3, 10), (2, 3, 7)] M0 M0 := zJ_refl hB0
  refine ZV.of (ini := false) rfl (Nat.le_of_ble_eq_true rfl) (by decide +kernel) ?_
  unfold b_1292 at hb
  replace hb : zHd _ := hb
  show ZW _ _ _ _ _ _ _ (0, [some (.ref 2), some (.int a0), some (.int a1)], [], M0)
  refine w_lo dX5_needsNumber_0 rfl rfl rfl rfl ?_
  refine w_gf dX5_needsNumber_1 rfl hJ0.1.1 zs_2 (zr_2_3 hJ0.1) ?_
  refine w_lo dX5_needsNumber_4 rfl rfl rfl rfl ?_
  refine w_gfi dX5_needsNumber_5 rfl hJ0.1 zs_2 (Nat.le_of_ble_eq_true rfl) zo_2_7 ?_
  intro x1 f2 h3 h4
  replace hb : zHd _ := hb x1.toInt (ziE f2) h3 h4
  refine w_iai dX5_needsNumber_8 hJ0.1 zs_4 (by omega) (by omega) zu_4 ?_
  intro x8 f5 h6 h7
  replace hb : zHd _ := hb x8.toInt (ziEk f5 rfl) h6 h7
  refine w_ic dX5_needsNumber_9 zi_4 ?_
  rcases Int.decEq x8.toInt (4 : Int) with h9 | h9
  · skip
    replace hb : zHd _ := hb.1 h9
    refine w_ceq_f dX5_needsNumber_10 (t := 19) rfl (by have := zt_4; omega) ?_
    refine w_lo dX5_needsNumber_13 rfl rfl rfl rfl ?_
    refine w_ic dX5_needsNumber_14 zi_1 ?_
    refine w_iv dX5_needsNumber_15 rfl rfl (As := [.int 1]) rfl rfl hJ0.1.1 zs_2 (Nat.le_of_ble_eq_true rfl) ?_
    obtain ⟨P12, hp13, hb⟩ := hb
    replace hb : zHd _ := hb
    have hp13c : b_1286 (zi M0) (1 : Int32).toInt P12 := by rw [zt_1]; exact hp13
    refine ZV.imp (u_1286 1 (by have := zt_1; omega) (by have := zt_1; omega) hN hJ0.1 hp13c) ?_
    rintro _ ⟨x15, M10, rfl, h16, h17, hJ11, hq14⟩
    replace hb : zHd _ := hb x15.toInt h16 h17 (zi M10) (zi_fr hJ11.2) hq14
    have hJ19 := zJ_trans hJ0 hJ11 (zSub_cons (fun _ _ h h' hk => zIR_e (by omega) (by omega) hk) (zSub_cons (fun _ _ h h' hk => zIR_s (zIR_e (by omega) (by omega) hk)) zSub_nil))
    show ZW _ _ _ _ _ _ _ (18, [some (.ref 2), some (.int a0), some (.int a1)], [.int x15], M10)
    refine w_eni dX5_needsNumber_18 rfl (znb (by omega) (by omega)) ?_
    exact ⟨_, _, rfl, (by omega), (by omega), hJ19, hb⟩
  · skip
    replace hb : zHd _ := hb.2 h9
    refine w_ceq_t dX5_needsNumber_10 (t := 19) rfl (by have := zt_4; omega) ?_
    refine w_lo dX5_needsNumber_19 rfl rfl rfl rfl ?_
    refine w_lo dX5_needsNumber_20 rfl rfl rfl rfl ?_
    refine w_gf dX5_needsNumber_21 rfl hJ0.1.1 zs_2 (zr_2_4 hJ0.1) ?_
    refine w_lo dX5_needsNumber_24 rfl rfl rfl rfl ?_
    refine w_gf dX5_needsNumber_25 rfl hJ0.1.1 zs_2 f2 ?_
    refine w_iai dX5_needsNumber_28 hJ0.1 zs_5 (by omega) (by omega) zu_5 ?_
    intro x23 f20 h21 h22
    replace hb : zHd _ := hb x23.toInt (ziEk f20 rfl)
    refine w_pfi dX5_needsNumber_29 rfl hJ0 zs_2 (Nat.le_of_ble_eq_true rfl) zo_2_10 (zbot _) (ztop _) (zIR_s (zIR_s (zIR_k (by omega) (by omega)))) rfl rfl rfl ?_
    intro M24 hJ25 f26 hn27
    replace hb : zHd _ := hb (zi M24) (zi_zup hn27 f26 rfl rfl)
    refine w_lo dX5_needsNumber_32 rfl rfl rfl rfl ?_
    refine w_gf dX5_needsNumber_33 rfl hJ25.1.1 zs_2 f26 ?_
    refine w_lo dX5_needsNumber_36 rfl rfl rfl rfl ?_
    rcases zcut x23.toInt a0.toInt with h29 | h29
    · skip
      replace hb : zHd _ := hb.1 h29
      refine w_clt_t dX5_needsNumber_37 (t := 48) rfl (by omega) ?_
      refine w_lo dX5_needsNumber_48 rfl rfl rfl rfl ?_
      refine w_ic dX5_needsNumber_49 zi_4 ?_
      refine w_iv dX5_needsNumber_50 rfl rfl (As := [.int 4]) rfl rfl hJ25.1.1 zs_2 (Nat.le_of_ble_eq_true rfl) ?_
      obtain ⟨P32, hp33, hb⟩ := hb
      replace hb : zHd _ := hb
      have hp33c : b_1286 (zi M24) (4 : Int32).toInt P32 := by rw [zt_4]; exact hp33
      refine ZV.imp (u_1286 4 (by have := zt_4; omega) (by have := zt_4; omega) hN hJ25.1 hp33c) ?_
      rintro _ ⟨x35, M30, rfl, h36, h37, hJ31, hq34⟩
      replace hb : zHd _ := hb x35.toInt h36 h37 (zi M30) (zi_fr hJ31.2) hq34
      have hJ39 := zJ_trans hJ25 hJ31 (zSub_cons (fun _ _ h h' hk => zIR_e (by omega) (by omega) hk) (zSub_cons (fun _ _ h h' hk => zIR_s (zIR_e (by omega) (by omega) hk)) zSub_nil))
      show ZW _ _ _ _ _ _ _ (53, [some (.ref 2), some (.int a0), some (.int a1)], [.int x35], M30)
      refine w_eni dX5_needsNumber_53 rfl (znb (by omega) (by omega)) ?_
      exact ⟨_, _, rfl, (by omega), (by omega), hJ39, hb⟩
    · skip
      replace hb : zHd _ := hb.2 h29
      refine w_clt_f dX5_needsNumber_37 (t := 48) rfl (by omega) ?_
      refine w_lo dX5_needsNumber_40 rfl rfl rfl rfl ?_
      refine w_gf dX5_needsNumber_41 rfl hJ25.1.1 zs_2 f26 ?_
      refine w_lo dX5_needsNumber_44 rfl rfl rfl rfl ?_
      rcases zcut a1.toInt x23.toInt with h40 | h40
      · skip
        replace hb : zHd _ := hb.1 h40
        refine w_cle_f dX5_needsNumber_45 (t := 54) rfl (by omega) ?_
        refine w_lo dX5_needsNumber_48 rfl rfl rfl rfl ?_
        refine w_ic dX5_needsNumber_49 zi_4 ?_
        refine w_iv dX5_needsNumber_50 rfl rfl (As := [.int 4]) rfl rfl hJ25.1.1 zs_2 (Nat.le_of_ble_eq_true rfl) ?_
        obtain ⟨P43, hp44, hb⟩ := hb
        replace hb : zHd _ := hb
        have hp44c : b_1286 (zi M24) (4 : Int32).toInt P43 := by rw [zt_4]; exact hp44
        refine ZV.imp (u_1286 4 (by have := zt_4; omega) (by have := zt_4; omega) hN hJ25.1 hp44c) ?_
        rintro _ ⟨x46, M41, rfl, h47, h48, hJ42, hq45⟩
        replace hb : zHd _ := hb x46.toInt h47 h48 (zi M41) (zi_fr hJ42.2) hq45
        have hJ50 := zJ_trans hJ25 hJ42 (zSub_cons (fun _ _ h h' hk => zIR_e (by omega) (by omega) hk) (zSub_cons (fun _ _ h h' hk => zIR_s (zIR_e (by omega) (by omega) hk)) zSub_nil))
        show ZW _ _ _ _ _ _ _ (53, [some (.ref 2), some (.int a0), some (.int a1)], [.int x46], M41)
        refine w_eni dX5_needsNumber_53 rfl (znb (by omega) (by omega)) ?_
        exact ⟨_, _, rfl, (by omega), (by omega), hJ50, hb⟩
      · skip
        replace hb : zHd _ := hb.2 h40
        refine w_cle_t dX5_needsNumber_45 (t := 54) rfl (by omega) ?_
        refine w_lo dX5_needsNumber_54 rfl rfl rfl rfl ?_
        refine w_iv dX5_needsNumber_55 rfl rfl (As := []) rfl rfl hJ25.1.1 zs_2 (Nat.le_of_ble_eq_true rfl) ?_
        obtain ⟨P53, hp54, hb⟩ := hb
        replace hb : zHd _ := hb
        refine ZV.imp (u_1289 hN hJ25.1 hp54) ?_
        rintro _ ⟨M51, rfl, hJ52, hq55⟩
        replace hb : zHd _ := hb  (zi M51) (zi_fr hJ52.2) hq55
        have hJ57 := zJ_trans hJ25 hJ52 (zSub_cons (fun _ _ h h' hk => zIR_s (zIR_s (zIR_s (zIR_e (by omega) (by omega) hk)))) zSub_nil)
        show ZW _ _ _ _ _ _ _ (58, [some (.ref 2), some (.int a0), some (.int a1)], [], M51)
        refine w_ic dX5_needsNumber_58 zi_1 ?_
        refine w_en dX5_needsNumber_59 rfl ?_
        exact ⟨_, _, rfl, (by have := zt_1; omega), (by have := zt_1; omega), hJ57, hb⟩
set_option maxRecDepth 100000 in
theorem u_1293 {X : List Int32} {d N : Nat} {M0 : zM} (a0 : Int32) (ha00 : (0 : Int) ≤ a0.toInt) (ha01 : a0.toInt ≤ 11) (hN : N ≤ 600) (hB0 : zB N M0) {Q : Int → zF → Prop} (hb : b_1293 (zi M0) a0.toInt Q) : ZV X (d + 2) 1293 [.ref 2, .int a0] M0 (zRI N [(2, 3, 0), (2, 3, 1), (13, 14, 1000), (34, 35, 1000), (2, 3, 7)] M0 (0) (1) (fun v M' => Q v.toInt (zi M'))) := by
  have hJ0 : zJ N [(2, 3, 0), (2, 3, 1), (13, 14, 1000), (34, 35, 1000), (2, 3, 7)] M0 M0 := zJ_refl hB0
  refine ZV.of (ini := false) rfl (Nat.le_of_ble_eq_true rfl) (by decide +kernel) ?_
  obtain ⟨I12, hbE, hb12⟩ := hb
  replace hbE : zHd _ := hbE
  replace hb12 : zHd _ := hb12
  have main : ∀ n : Nat,
      (∀ (M : zM) (v12_1 : Int32) (v12_2 : Int32) (o12_3 : Option Value) (o12_4 : Option Value), zJ N [(2, 3, 0), (2, 3, 1), (13, 14, 1000), (34, 35, 1000), (2, 3, 7)] M0 M → ((0 : Int) ≤ v12_1.toInt) → (v12_1.toInt ≤ 11) → ((0 : Int) ≤ v12_2.toInt) → (v12_2.toInt ≤ 3) → I12 n (zi M) v12_1.toInt v12_2.toInt → ZW X (d + 1) 5 false (some .boolean) cX5_readMarks (zRI N [(2, 3, 0), (2, 3, 1), (13, 14, 1000), (34, 35, 1000), (2, 3, 7)] M0 (0) (1) (fun v M' => Q v.toInt (zi M'))) (12, [some (.ref 2), some (.int v12_1), some (.int v12_2), o12_3, o12_4], [], M)) := by
    intro n
    induction n using Nat.strongRecOn with
    | _ n ih =>
      · intro M v12_1 v12_2 o12_3 o12_4 hJ v12_10 v12_11 v12_20 v12_21 hI
        have hb : zHd _ := hb12 n (zi M) v12_1.toInt v12_2.toInt (zi_fr hJ.2) v12_10 v12_11 v12_20 v12_21 hI
        refine w_lo dX5_readMarks_12 rfl rfl rfl rfl ?_
        refine w_ic dX5_readMarks_13 zi_2 ?_
        rcases zcut (2 : Int) v12_2.toInt with h1 | h1
        · skip
          replace hb : zHd _ := hb.1 h1
          refine w_cgt_t dX5_readMarks_14 (t := 97) rfl (by have := zt_2; omega) ?_
          refine w_ic dX5_readMarks_97 zi_1 ?_
          refine w_en dX5_readMarks_98 rfl ?_
          exact ⟨_, _, rfl, (by have := zt_1; omega), (by have := zt_1; omega), hJ, hb⟩
        · skip
          replace hb : zHd _ := hb.2 h1
          refine w_cgt_f dX5_readMarks_14 (t := 97) rfl (by have := zt_2; omega) ?_
          refine w_lo dX5_readMarks_17 rfl rfl rfl rfl ?_
          refine w_iv dX5_readMarks_18 rfl rfl (As := []) rfl rfl hJ.1.1 zs_2 (Nat.le_of_ble_eq_true rfl) ?_
          obtain ⟨P4, hp5, hb⟩ := hb
          replace hb : zHd _ := hb
          refine ZV.imp (u_1287 hN hJ.1 hp5) ?_
          rintro _ ⟨x7, M2, rfl, h8, h9, hJ3, hq6⟩
          replace hb : zHd _ := hb x7.toInt h8 h9 (zi M2) (zi_fr hJ3.2) hq6
          have hJ11 := zJ_trans hJ hJ3 zSub_nil
          show ZW _ _ _ _ _ _ _ (21, [some (.ref 2), some (.int v12_1), some (.int v12_2), o12_3, o12_4], [.int x7], M2)
          refine w_lo (ml' := [some (.ref 2), some (.int v12_1), some (.int v12_2), some (.int x7), o12_4]) dX5_readMarks_21 rfl rfl rfl rfl ?_
          refine w_lo dX5_readMarks_22 rfl rfl rfl rfl ?_
          refine w_bi dX5_readMarks_23 (c := 10) (by decide) ?_
          rcases Int.decEq x7.toInt (10 : Int) with h12 | h12
          · skip
            replace hb : zHd _ := hb.1 h12
            refine w_cne_t dX5_readMarks_25 (t := 32) rfl (by have := zt_10; omega) ?_
            refine w_lo dX5_readMarks_32 rfl rfl rfl rfl ?_
            refine w_bi dX5_readMarks_33 (c := 11) (by decide) ?_
            rcases Int.decEq x7.toInt (11 : Int) with h13 | h13
            · skip
              replace hb : zHd _ := hb.1 h13
              refine w_cne_t dX5_readMarks_35 (t := 42) rfl (by have := zt_11; omega) ?_
              refine w_ic dX5_readMarks_42 zi_0 ?_
              refine w_lo (ml' := [some (.ref 2), some (.int v12_1), some (.int v12_2), some (.int x7), some (.int 0)]) dX5_readMarks_43 rfl rfl rfl rfl ?_
              refine w_lo dX5_readMarks_45 rfl rfl rfl rfl ?_
              refine w_ine_f dX5_readMarks_47 (t := 52) rfl (by have := zt_0; omega) ?_
              refine w_ic dX5_readMarks_50 zi_1 ?_
              refine w_en dX5_readMarks_51 rfl ?_
              exact ⟨_, _, rfl, (by have := zt_1; omega), (by have := zt_1; omega), hJ11, hb⟩
            · skip
              replace hb : zHd _ := hb.2 h13
              refine w_cne_f dX5_readMarks_35 (t := 42) rfl (by have := zt_11; omega) ?_
              refine w_ic dX5_readMarks_38 zi_2 ?_
              refine w_gt dX5_readMarks_39 (t := 43) rfl ?_
              refine w_lo (ml' := [some (.ref 2), some (.int v12_1), some (.int v12_2), some (.int x7), some (.int 2)]) dX5_readMarks_43 rfl rfl rfl rfl ?_
              refine w_lo dX5_readMarks_45 rfl rfl rfl rfl ?_
              refine w_ine_t dX5_readMarks_47 (t := 52) rfl (by have := zt_2; omega) ?_
              refine w_lo dX5_readMarks_52 rfl rfl rfl rfl ?_
              obtain ⟨b14, f15, h16⟩ := zd_2_8 hJ11.1
              have h17 := zDm_b h16
              refine w_gf dX5_readMarks_53 rfl hJ11.1.1 zs_2 f15 ?_
              replace hb : zHd _ := hb b14 (ziR f15) (zDm_or h16)
              refine w_gf dX5_readMarks_56 rfl hJ11.1.1 (zs_1_0 h16) (zr_1_0_8 h16 hJ11.1) ?_
              refine w_lo dX5_readMarks_59 rfl rfl rfl rfl ?_
              refine w_iai dX5_readMarks_60 hJ11.1 (zs_1_6 h16) (by omega) (by omega) (zu_1_6 h16) ?_
              intro x21 f18 h19 h20
              replace hb : zHd _ := hb x21.toInt (ziEk f18 rfl) h19 h20
              refine w_lo dX5_readMarks_61 rfl rfl rfl rfl ?_
              refine w_andE dX5_readMarks_63 (m := 2) zt_2 (by omega) ?_
              intro x23 h24 h25 h22
              replace hb : zHd _ := hb x23.toInt (by rw [h22, zxand_i, zt_2]) h24 h25
              rcases Int.decEq x23.toInt (0 : Int) with h26 | h26
              · skip
                replace hb : zHd _ := hb.1 h26
                refine w_ieq_f dX5_readMarks_64 (t := 73) rfl (by omega) ?_
                refine w_lo dX5_readMarks_67 rfl rfl rfl rfl ?_
                refine w_ic dX5_readMarks_68 zi_1 ?_
                refine w_iv dX5_readMarks_69 rfl rfl (As := [.int 1]) rfl rfl hJ11.1.1 zs_2 (Nat.le_of_ble_eq_true rfl) ?_
                obtain ⟨P29, hp30, hb⟩ := hb
                replace hb : zHd _ := hb
                have hp30c : b_1286 (zi M2) (1 : Int32).toInt P29 := by rw [zt_1]; exact hp30
                refine ZV.imp (u_1286 1 (by have := zt_1; omega) (by have := zt_1; omega) hN hJ11.1 hp30c) ?_
                rintro _ ⟨x32, M27, rfl, h33, h34, hJ28, hq31⟩
                replace hb : zHd _ := hb x32.toInt h33 h34 (zi M27) (zi_fr hJ28.2) hq31
                have hJ36 := zJ_trans hJ11 hJ28 (zSub_cons (fun _ _ h h' hk => zIR_e (by omega) (by omega) hk) (zSub_cons (fun _ _ h h' hk => zIR_s (zIR_e (by omega) (by omega) hk)) zSub_nil))
                show ZW _ _ _ _ _ _ _ (72, [some (.ref 2), some (.int v12_1), some (.int v12_2), some (.int x7), some (.int 2)], [.int x32], M27)
                refine w_eni dX5_readMarks_72 rfl (znb (by omega) (by omega)) ?_
                exact ⟨_, _, rfl, (by omega), (by omega), hJ36, hb⟩
              · skip
                replace hb : zHd _ := hb.2 h26
                refine w_ieq_t dX5_readMarks_64 (t := 73) rfl (by omega) ?_
                refine w_lo dX5_readMarks_73 rfl rfl rfl rfl ?_
                refine w_gf dX5_readMarks_74 rfl hJ11.1.1 zs_2 f15 ?_
                refine w_gf dX5_readMarks_77 rfl hJ11.1.1 (zs_1_0 h16) (zr_1_0_8 h16 hJ11.1) ?_
                refine w_lo dX5_readMarks_80 rfl rfl rfl rfl ?_
                refine w_pu dX5_readMarks_81 rfl rfl ?_
                refine w_ia dX5_readMarks_82 hJ11.1.1 (zs_1_6 h16) (znat (by omega)) f18 ?_
                refine w_lo dX5_readMarks_83 rfl rfl rfl rfl ?_
                refine w_exE dX5_readMarks_85 rfl rfl ?_
                intro x41 h40
                replace hb : zHd _ := hb x41.toInt (by rw [h40, zxor_i, zt_2])
                have h42 := hb.1
                replace hb : zHd _ := hb.2
                refine w_isi dX5_readMarks_86 hJ11 (zs_1_6 h16) (by omega) (by omega) (zu_1_6 h16) (by omega) (by omega) ((zDm_or h16).elim (fun e => zIR_s (zIR_s (zIR_a (by omega) (by omega)))) (fun e => zIR_s (zIR_s (zIR_s (zIR_a (by omega) (by omega)))))) ?_
                intro M43 hJ44 f45 hn46
                replace hb : zHd _ := hb (zi M43) (zi_zup hn46 f45 rfl rfl)
                refine w_lo dX5_readMarks_87 rfl rfl rfl rfl ?_
                refine w_iv dX5_readMarks_88 rfl rfl (As := []) rfl rfl hJ44.1.1 zs_2 (Nat.le_of_ble_eq_true rfl) ?_
                obtain ⟨P50, hp51, hb⟩ := hb
                replace hb : zHd _ := hb
                refine ZV.imp (u_1289 hN hJ44.1 hp51) ?_
                rintro _ ⟨M48, rfl, hJ49, hq52⟩
                replace hb : zHd _ := hb  (zi M48) (zi_fr hJ49.2) hq52
                have hJ54 := zJ_trans hJ44 hJ49 (zSub_cons (fun _ _ h h' hk => zIR_s (zIR_s (zIR_s (zIR_s (zIR_e (by omega) (by omega) hk))))) zSub_nil)
                show ZW _ _ _ _ _ _ _ (91, [some (.ref 2), some (.int v12_1), some (.int v12_2), some (.int x7), some (.int 2)], [], M48)
                refine w_inc (kk := 2) dX5_readMarks_91 rfl (m := 1) (by decide) (by omega) ?_
                intro x55 h56
                refine ⟨_, rfl, ?_⟩
                replace hb : zHd _ := hb x55.toInt h56
                show ZW _ _ _ _ _ _ _ (94, [some (.ref 2), some (.int v12_1), some (.int x55), some (.int x7), some (.int 2)], [], M48)
                refine w_gt dX5_readMarks_94 (t := 12) rfl ?_
                obtain ⟨m, hm, hI⟩ := hb
                exact (ih m hm) M48 v12_1 x55 (some (.int x7)) (some (.int 2)) hJ54 (by omega) (by omega) (by omega) (by omega) hI
          · skip
            replace hb : zHd _ := hb.2 h12
            refine w_cne_f dX5_readMarks_25 (t := 32) rfl (by have := zt_10; omega) ?_
            refine w_ic dX5_readMarks_28 zi_1 ?_
            refine w_gt dX5_readMarks_29 (t := 43) rfl ?_
            refine w_lo (ml' := [some (.ref 2), some (.int v12_1), some (.int v12_2), some (.int x7), some (.int 1)]) dX5_readMarks_43 rfl rfl rfl rfl ?_
            refine w_lo dX5_readMarks_45 rfl rfl rfl rfl ?_
            refine w_ine_t dX5_readMarks_47 (t := 52) rfl (by have := zt_1; omega) ?_
            refine w_lo dX5_readMarks_52 rfl rfl rfl rfl ?_
            obtain ⟨b57, f58, h59⟩ := zd_2_8 hJ11.1
            have h60 := zDm_b h59
            refine w_gf dX5_readMarks_53 rfl hJ11.1.1 zs_2 f58 ?_
            replace hb : zHd _ := hb b57 (ziR f58) (zDm_or h59)
            refine w_gf dX5_readMarks_56 rfl hJ11.1.1 (zs_1_0 h59) (zr_1_0_8 h59 hJ11.1) ?_
            refine w_lo dX5_readMarks_59 rfl rfl rfl rfl ?_
            refine w_iai dX5_readMarks_60 hJ11.1 (zs_1_6 h59) (by omega) (by omega) (zu_1_6 h59) ?_
            intro x64 f61 h62 h63
            replace hb : zHd _ := hb x64.toInt (ziEk f61 rfl) h62 h63
            refine w_lo dX5_readMarks_61 rfl rfl rfl rfl ?_
            refine w_andE dX5_readMarks_63 (m := 1) zt_1 (by omega) ?_
            intro x66 h67 h68 h65
            replace hb : zHd _ := hb x66.toInt (by rw [h65, zxand_i, zt_1]) h67 h68
            rcases Int.decEq x66.toInt (0 : Int) with h69 | h69
            · skip
              replace hb : zHd _ := hb.1 h69
              refine w_ieq_f dX5_readMarks_64 (t := 73) rfl (by omega) ?_
              refine w_lo dX5_readMarks_67 rfl rfl rfl rfl ?_
              refine w_ic dX5_readMarks_68 zi_1 ?_
              refine w_iv dX5_readMarks_69 rfl rfl (As := [.int 1]) rfl rfl hJ11.1.1 zs_2 (Nat.le_of_ble_eq_true rfl) ?_
              obtain ⟨P72, hp73, hb⟩ := hb
              replace hb : zHd _ := hb
              have hp73c : b_1286 (zi M2) (1 : Int32).toInt P72 := by rw [zt_1]; exact hp73
              refine ZV.imp (u_1286 1 (by have := zt_1; omega) (by have := zt_1; omega) hN hJ11.1 hp73c) ?_
              rintro _ ⟨x75, M70, rfl, h76, h77, hJ71, hq74⟩
              replace hb : zHd _ := hb x75.toInt h76 h77 (zi M70) (zi_fr hJ71.2) hq74
              have hJ79 := zJ_trans hJ11 hJ71 (zSub_cons (fun _ _ h h' hk => zIR_e (by omega) (by omega) hk) (zSub_cons (fun _ _ h h' hk => zIR_s (zIR_e (by omega) (by omega) hk)) zSub_nil))
              show ZW _ _ _ _ _ _ _ (72, [some (.ref 2), some (.int v12_1), some (.int v12_2), some (.int x7), some (.int 1)], [.int x75], M70)
              refine w_eni dX5_readMarks_72 rfl (znb (by omega) (by omega)) ?_
              exact ⟨_, _, rfl, (by omega), (by omega), hJ79, hb⟩
            · skip
              replace hb : zHd _ := hb.2 h69
              refine w_ieq_t dX5_readMarks_64 (t := 73) rfl (by omega) ?_
              refine w_lo dX5_readMarks_73 rfl rfl rfl rfl ?_
              refine w_gf dX5_readMarks_74 rfl hJ11.1.1 zs_2 f58 ?_
              refine w_gf dX5_readMarks_77 rfl hJ11.1.1 (zs_1_0 h59) (zr_1_0_8 h59 hJ11.1) ?_
              refine w_lo dX5_readMarks_80 rfl rfl rfl rfl ?_
              refine w_pu dX5_readMarks_81 rfl rfl ?_
              refine w_ia dX5_readMarks_82 hJ11.1.1 (zs_1_6 h59) (znat (by omega)) f61 ?_
              refine w_lo dX5_readMarks_83 rfl rfl rfl rfl ?_
              refine w_exE dX5_readMarks_85 rfl rfl ?_
              intro x84 h83
              replace hb : zHd _ := hb x84.toInt (by rw [h83, zxor_i, zt_1])
              have h85 := hb.1
              replace hb : zHd _ := hb.2
              refine w_isi dX5_readMarks_86 hJ11 (zs_1_6 h59) (by omega) (by omega) (zu_1_6 h59) (by omega) (by omega) ((zDm_or h59).elim (fun e => zIR_s (zIR_s (zIR_a (by omega) (by omega)))) (fun e => zIR_s (zIR_s (zIR_s (zIR_a (by omega) (by omega)))))) ?_
              intro M86 hJ87 f88 hn89
              replace hb : zHd _ := hb (zi M86) (zi_zup hn89 f88 rfl rfl)
              refine w_lo dX5_readMarks_87 rfl rfl rfl rfl ?_
              refine w_iv dX5_readMarks_88 rfl rfl (As := []) rfl rfl hJ87.1.1 zs_2 (Nat.le_of_ble_eq_true rfl) ?_
              obtain ⟨P93, hp94, hb⟩ := hb
              replace hb : zHd _ := hb
              refine ZV.imp (u_1289 hN hJ87.1 hp94) ?_
              rintro _ ⟨M91, rfl, hJ92, hq95⟩
              replace hb : zHd _ := hb  (zi M91) (zi_fr hJ92.2) hq95
              have hJ97 := zJ_trans hJ87 hJ92 (zSub_cons (fun _ _ h h' hk => zIR_s (zIR_s (zIR_s (zIR_s (zIR_e (by omega) (by omega) hk))))) zSub_nil)
              show ZW _ _ _ _ _ _ _ (91, [some (.ref 2), some (.int v12_1), some (.int v12_2), some (.int x7), some (.int 1)], [], M91)
              refine w_inc (kk := 2) dX5_readMarks_91 rfl (m := 1) (by decide) (by omega) ?_
              intro x98 h99
              refine ⟨_, rfl, ?_⟩
              replace hb : zHd _ := hb x98.toInt h99
              show ZW _ _ _ _ _ _ _ (94, [some (.ref 2), some (.int v12_1), some (.int x98), some (.int x7), some (.int 1)], [], M91)
              refine w_gt dX5_readMarks_94 (t := 12) rfl ?_
              obtain ⟨m, hm, hI⟩ := hb
              exact (ih m hm) M91 v12_1 x98 (some (.int x7)) (some (.int 1)) hJ97 (by omega) (by omega) (by omega) (by omega) hI
  have hb : zHd _ := hbE
  show ZW _ _ _ _ _ _ _ (0, [some (.ref 2), some (.int a0), none, none, none], [], M0)
  refine w_lo dX5_readMarks_0 rfl rfl rfl rfl ?_
  obtain ⟨b100, f101, h102⟩ := zd_2_8 hJ0.1
  have h103 := zDm_b h102
  refine w_gf dX5_readMarks_1 rfl hJ0.1.1 zs_2 f101 ?_
  replace hb : zHd _ := hb b100 (ziR f101) (zDm_or h102)
  refine w_gf dX5_readMarks_4 rfl hJ0.1.1 (zs_1_0 h102) (zr_1_0_8 h102 hJ0.1) ?_
  refine w_lo dX5_readMarks_7 rfl rfl rfl rfl ?_
  refine w_ic dX5_readMarks_8 zi_0 ?_
  refine w_isi dX5_readMarks_9 hJ0 (zs_1_6 h102) (by omega) (by omega) (zu_1_6 h102) (by have := zt_0; omega) (by have := zt_0; omega) ((zDm_or h102).elim (fun e => zIR_s (zIR_s (zIR_a (by omega) (by omega)))) (fun e => zIR_s (zIR_s (zIR_s (zIR_a (by omega) (by omega)))))) ?_
  intro M104 hJ105 f106 hn107
  replace hb : zHd _ := hb (zi M104) (zi_zup hn107 f106 rfl zt_0)
  refine w_ic dX5_readMarks_10 zi_0 ?_
  refine w_lo (ml' := [some (.ref 2), some (.int a0), some (.int 0), none, none]) dX5_readMarks_11 rfl rfl rfl rfl ?_
  obtain ⟨m, hI⟩ := hb
  exact (main m) M104 a0 0 none none hJ105 (by omega) (by omega) (by have := zt_0; omega) (by have := zt_0; omega) hI
set_option maxRecDepth 100000 in
theorem u_1288 {X : List Int32} {d N : Nat} {M0 : zM}  (hN : N ≤ 600) (hB0 : zB N M0) {Q : Int → zF → Prop} (hb : b_1288 (zi M0) Q) : ZV X (d + 3) 1288 [.ref 2] M0 (zRI N [(2, 3, 0), (2, 3, 1), (7, 8, 1), (28, 29, 1), (2, 3, 10), (8, 14, 1000), (29, 35, 1000), (2, 3, 7), (2, 3, 9)] M0 (0) (1) (fun v M' => Q v.toInt (zi M'))) := by
  have hJ0 : zJ N [(2, 3, 0), (2, 3, 1), (7, 8, 1), (28, 29, 1), (2, 3, 10), (8, 14, 1000), (29, 35, 1000), (2, 3, 7), (2, 3, 9)] M0 M0 := zJ_refl hB0
  refine ZV.of (ini := false) rfl (Nat.le_of_ble_eq_true rfl) (by decide +kernel) ?_
  unfold b_1288 at hb
  replace hb : zHd _ := hb
  show ZW _ _ _ _ _ _ _ (0, [some (.ref 2), none], [], M0)
  refine w_lo dX5_readBoy_0 rfl rfl rfl rfl ?_
  obtain ⟨b1, f2, h3⟩ := zd_2_8 hJ0.1
  have h4 := zDm_b h3
  refine w_gf dX5_readBoy_1 rfl hJ0.1.1 zs_2 f2 ?_
  replace hb : zHd _ := hb b1 (ziR f2) (zDm_or h3)
  refine w_gfi dX5_readBoy_4 rfl hJ0.1 (zs_1_0 h3) (Nat.le_of_ble_eq_true rfl) (zo_1_0_1 h3) ?_
  intro x5 f6 h7 h8
  replace hb : zHd _ := hb x5.toInt (ziE f6) h7 h8
  refine w_lo (ml' := [some (.ref 2), some (.int x5)]) dX5_readBoy_7 rfl rfl rfl rfl ?_
  refine w_lo dX5_readBoy_8 rfl rfl rfl rfl ?_
  refine w_bi dX5_readBoy_9 (c := 12) (by decide) ?_
  rcases zcut x5.toInt (12 : Int) with h9 | h9
  · skip
    replace hb : zHd _ := hb.1 h9
    refine w_clt_t dX5_readBoy_11 (t := 20) rfl (by have := zt_12; omega) ?_
    refine w_lo dX5_readBoy_20 rfl rfl rfl rfl ?_
    refine w_iv dX5_readBoy_21 rfl rfl (As := []) rfl rfl hJ0.1.1 zs_2 (Nat.le_of_ble_eq_true rfl) ?_
    obtain ⟨P12, hp13, hb⟩ := hb
    replace hb : zHd _ := hb
    refine ZV.imp (u_1289 hN hJ0.1 hp13) ?_
    rintro _ ⟨M10, rfl, hJ11, hq14⟩
    replace hb : zHd _ := hb  (zi M10) (zi_fr hJ11.2) hq14
    have hJ16 := zJ_trans hJ0 hJ11 (zSub_cons (fun _ _ h h' hk => zIR_s (zIR_s (zIR_s (zIR_s (zIR_s (zIR_s (zIR_s (zIR_e (by omega) (by omega) hk)))))))) zSub_nil)
    show ZW _ _ _ _ _ _ _ (24, [some (.ref 2), some (.int x5)], [], M10)
    refine w_lo dX5_readBoy_24 rfl rfl rfl rfl ?_
    refine w_iv dX5_readBoy_25 rfl rfl (As := []) rfl rfl hJ16.1.1 zs_2 (Nat.le_of_ble_eq_true rfl) ?_
    obtain ⟨P19, hp20, hb⟩ := hb
    replace hb : zHd _ := hb
    refine ZV.imp (u_1290 hN hJ16.1 hp20) ?_
    rintro _ ⟨x22, M17, rfl, h23, h24, hJ18, hq21⟩
    replace hb : zHd _ := hb x22.toInt h23 h24 (zi M17) (zi_fr hJ18.2) hq21
    have hJ26 := zJ_trans hJ16 hJ18 (zSub_cons (fun _ _ h h' hk => zIR_e (by omega) (by omega) hk) (zSub_cons (fun _ _ h h' hk => zIR_s (zIR_e (by omega) (by omega) hk)) (zSub_cons (fun _ _ h h' hk => zIR_s (zIR_s (zIR_s (zIR_s (zIR_s (zIR_s (zIR_s (zIR_e (by omega) (by omega) hk)))))))) (zSub_cons (fun _ _ h h' hk => zIR_s (zIR_s (zIR_s (zIR_s (zIR_s (zIR_s (zIR_s (zIR_s (zIR_e (by omega) (by omega) hk))))))))) zSub_nil))))
    show ZW _ _ _ _ _ _ _ (28, [some (.ref 2), some (.int x5)], [.int x22], M17)
    rcases Int.decEq x22.toInt (0 : Int) with h27 | h27
    · skip
      replace hb : zHd _ := hb.1 h27
      refine w_ine_t dX5_readBoy_28 (t := 33) rfl (by omega) ?_
      refine w_lo dX5_readBoy_33 rfl rfl rfl rfl ?_
      have f28 := (hJ18.2 (2) 8 (zNI_k (by decide) (by decide) (zNI_k (by decide) (by decide) (zNI_k (by decide) (by decide) (zNI_k (by decide) (by decide) zNI_nil))))).trans ((hJ11.2 (2) 8 (zNI_k (by decide) (by decide) zNI_nil)).trans (f2))
      refine w_gf dX5_readBoy_34 rfl hJ26.1.1 zs_2 f28 ?_
      refine w_gf dX5_readBoy_37 rfl hJ26.1.1 (zs_1_0 h3) (zr_1_0_3 h3 hJ26.1) ?_
      refine w_lo dX5_readBoy_40 rfl rfl rfl rfl ?_
      refine w_lo dX5_readBoy_41 rfl rfl rfl rfl ?_
      refine w_gfi dX5_readBoy_42 rfl hJ26.1 zs_2 (Nat.le_of_ble_eq_true rfl) zo_2_9 ?_
      intro x29 f30 h31 h32
      replace hb : zHd _ := hb x29.toInt (ziE f30)
      refine w_isi dX5_readBoy_45 hJ26 (zs_1_1 h3) (by omega) (by omega) (zu_1_1 h3) (zbot _) (ztop _) ((zDm_or h3).elim (fun e => zIR_s (zIR_s (zIR_s (zIR_s (zIR_s (zIR_a (by omega) (by omega))))))) (fun e => zIR_s (zIR_s (zIR_s (zIR_s (zIR_s (zIR_s (zIR_a (by omega) (by omega))))))))) ?_
      intro M33 hJ34 f35 hn36
      replace hb : zHd _ := hb (zi M33) (zi_zup hn36 f35 rfl rfl)
      refine w_lo dX5_readBoy_46 rfl rfl rfl rfl ?_
      refine w_ic dX5_readBoy_47 zi_1 ?_
      refine w_iv dX5_readBoy_48 rfl rfl (As := [.int 1]) rfl rfl hJ34.1.1 zs_2 (Nat.le_of_ble_eq_true rfl) ?_
      obtain ⟨P40, hp41, hb⟩ := hb
      replace hb : zHd _ := hb
      have hp41c : b_1291 (zi M33) (1 : Int32).toInt P40 := by rw [zt_1]; exact hp41
      refine ZV.imp (u_1291 1 (by have := zt_1; omega) (by have := zt_1; omega) hN hJ34.1 hp41c) ?_
      rintro _ ⟨x43, M38, rfl, h44, h45, hJ39, hq42⟩
      replace hb : zHd _ := hb x43.toInt h44 h45 (zi M38) (zi_fr hJ39.2) hq42
      have hJ47 := zJ_trans hJ34 hJ39 (zSub_cons (fun _ _ h h' hk => zIR_e (by omega) (by omega) hk) (zSub_cons (fun _ _ h h' hk => zIR_s (zIR_e (by omega) (by omega) hk)) (zSub_cons (fun _ _ h h' hk => zIR_s (zIR_s (zIR_s (zIR_s (zIR_s (zIR_s (zIR_s (zIR_e (by omega) (by omega) hk)))))))) zSub_nil)))
      show ZW _ _ _ _ _ _ _ (51, [some (.ref 2), some (.int x5)], [.int x43], M38)
      rcases Int.decEq x43.toInt (0 : Int) with h48 | h48
      · skip
        replace hb : zHd _ := hb.1 h48
        refine w_ieq_f dX5_readBoy_51 (t := 64) rfl (by omega) ?_
        refine w_lo dX5_readBoy_54 rfl rfl rfl rfl ?_
        refine w_ic dX5_readBoy_55 zi_1 ?_
        refine w_bi dX5_readBoy_56 (c := 99) (by decide) ?_
        refine w_iv dX5_readBoy_58 rfl rfl (As := [.int 1, .int 99]) rfl rfl hJ47.1.1 zs_2 (Nat.le_of_ble_eq_true rfl) ?_
        obtain ⟨P51, hp52, hb⟩ := hb
        replace hb : zHd _ := hb
        have hp52c : b_1292 (zi M38) (1 : Int32).toInt (99 : Int32).toInt P51 := by rw [zt_1, zt_99]; exact hp52
        refine ZV.imp (u_1292 1 (by have := zt_1; omega) (by have := zt_1; omega) 99 (by have := zt_99; omega) (by have := zt_99; omega) hN hJ47.1 hp52c) ?_
        rintro _ ⟨x54, M49, rfl, h55, h56, hJ50, hq53⟩
        replace hb : zHd _ := hb x54.toInt h55 h56 (zi M49) (zi_fr hJ50.2) hq53
        have hJ58 := zJ_trans hJ47 hJ50 (zSub_cons (fun _ _ h h' hk => zIR_e (by omega) (by omega) hk) (zSub_cons (fun _ _ h h' hk => zIR_s (zIR_e (by omega) (by omega) hk)) (zSub_cons (fun _ _ h h' hk => zIR_s (zIR_s (zIR_s (zIR_s (zIR_e (by omega) (by omega) hk))))) (zSub_cons (fun _ _ h h' hk => zIR_s (zIR_s (zIR_s (zIR_s (zIR_s (zIR_s (zIR_s (zIR_e (by omega) (by omega) hk)))))))) zSub_nil))))
        show ZW _ _ _ _ _ _ _ (61, [some (.ref 2), some (.int x5)], [.int x54], M49)
        rcases Int.decEq x54.toInt (0 : Int) with h59 | h59
        · skip
          replace hb : zHd _ := hb.1 h59
          refine w_ine_t dX5_readBoy_61 (t := 66) rfl (by omega) ?_
          refine w_lo dX5_readBoy_66 rfl rfl rfl rfl ?_
          have f60 := (hJ50.2 (2) 8 (zNI_k (by decide) (by decide) (zNI_k (by decide) (by decide) (zNI_k (by decide) (by decide) (zNI_k (by decide) (by decide) zNI_nil))))).trans ((hJ39.2 (2) 8 (zNI_k (by decide) (by decide) (zNI_k (by decide) (by decide) (zNI_k (by decide) (by decide) zNI_nil)))).trans ((hn36 (2) 8 (Or.inl (by omega))).trans (f28)))
          refine w_gf dX5_readBoy_67 rfl hJ58.1.1 zs_2 f60 ?_
          refine w_gf dX5_readBoy_70 rfl hJ58.1.1 (zs_1_0 h3) (zr_1_0_4 h3 hJ58.1) ?_
          refine w_lo dX5_readBoy_73 rfl rfl rfl rfl ?_
          refine w_lo dX5_readBoy_74 rfl rfl rfl rfl ?_
          refine w_gfi dX5_readBoy_75 rfl hJ58.1 zs_2 (Nat.le_of_ble_eq_true rfl) zo_2_10 ?_
          intro x61 f62 h63 h64
          replace hb : zHd _ := hb x61.toInt (ziE f62)
          refine w_isi dX5_readBoy_78 hJ58 (zs_1_2 h3) (by omega) (by omega) (zu_1_2 h3) (zbot _) (ztop _) ((zDm_or h3).elim (fun e => zIR_s (zIR_s (zIR_s (zIR_s (zIR_s (zIR_a (by omega) (by omega))))))) (fun e => zIR_s (zIR_s (zIR_s (zIR_s (zIR_s (zIR_s (zIR_a (by omega) (by omega))))))))) ?_
          intro M65 hJ66 f67 hn68
          replace hb : zHd _ := hb (zi M65) (zi_zup hn68 f67 rfl rfl)
          refine w_lo dX5_readBoy_79 rfl rfl rfl rfl ?_
          refine w_ic dX5_readBoy_80 zi_2 ?_
          refine w_iv dX5_readBoy_81 rfl rfl (As := [.int 2]) rfl rfl hJ66.1.1 zs_2 (Nat.le_of_ble_eq_true rfl) ?_
          obtain ⟨P72, hp73, hb⟩ := hb
          replace hb : zHd _ := hb
          have hp73c : b_1291 (zi M65) (2 : Int32).toInt P72 := by rw [zt_2]; exact hp73
          refine ZV.imp (u_1291 2 (by have := zt_2; omega) (by have := zt_2; omega) hN hJ66.1 hp73c) ?_
          rintro _ ⟨x75, M70, rfl, h76, h77, hJ71, hq74⟩
          replace hb : zHd _ := hb x75.toInt h76 h77 (zi M70) (zi_fr hJ71.2) hq74
          have hJ79 := zJ_trans hJ66 hJ71 (zSub_cons (fun _ _ h h' hk => zIR_e (by omega) (by omega) hk) (zSub_cons (fun _ _ h h' hk => zIR_s (zIR_e (by omega) (by omega) hk)) (zSub_cons (fun _ _ h h' hk => zIR_s (zIR_s (zIR_s (zIR_s (zIR_s (zIR_s (zIR_s (zIR_e (by omega) (by omega) hk)))))))) zSub_nil)))
          show ZW _ _ _ _ _ _ _ (84, [some (.ref 2), some (.int x5)], [.int x75], M70)
          rcases Int.decEq x75.toInt (0 : Int) with h80 | h80
          · skip
            replace hb : zHd _ := hb.1 h80
            refine w_ieq_f dX5_readBoy_84 (t := 98) rfl (by omega) ?_
            refine w_lo dX5_readBoy_87 rfl rfl rfl rfl ?_
            refine w_ic dX5_readBoy_88 zi_1 ?_
            refine w_si dX5_readBoy_89 (c := 999) (by decide) ?_
            refine w_iv dX5_readBoy_92 rfl rfl (As := [.int 1, .int 999]) rfl rfl hJ79.1.1 zs_2 (Nat.le_of_ble_eq_true rfl) ?_
            obtain ⟨P83, hp84, hb⟩ := hb
            replace hb : zHd _ := hb
            have hp84c : b_1292 (zi M70) (1 : Int32).toInt (999 : Int32).toInt P83 := by rw [zt_1, zt_999]; exact hp84
            refine ZV.imp (u_1292 1 (by have := zt_1; omega) (by have := zt_1; omega) 999 (by have := zt_999; omega) (by have := zt_999; omega) hN hJ79.1 hp84c) ?_
            rintro _ ⟨x86, M81, rfl, h87, h88, hJ82, hq85⟩
            replace hb : zHd _ := hb x86.toInt h87 h88 (zi M81) (zi_fr hJ82.2) hq85
            have hJ90 := zJ_trans hJ79 hJ82 (zSub_cons (fun _ _ h h' hk => zIR_e (by omega) (by omega) hk) (zSub_cons (fun _ _ h h' hk => zIR_s (zIR_e (by omega) (by omega) hk)) (zSub_cons (fun _ _ h h' hk => zIR_s (zIR_s (zIR_s (zIR_s (zIR_e (by omega) (by omega) hk))))) (zSub_cons (fun _ _ h h' hk => zIR_s (zIR_s (zIR_s (zIR_s (zIR_s (zIR_s (zIR_s (zIR_e (by omega) (by omega) hk)))))))) zSub_nil))))
            show ZW _ _ _ _ _ _ _ (95, [some (.ref 2), some (.int x5)], [.int x86], M81)
            rcases Int.decEq x86.toInt (0 : Int) with h91 | h91
            · skip
              replace hb : zHd _ := hb.1 h91
              refine w_ine_t dX5_readBoy_95 (t := 100) rfl (by omega) ?_
              refine w_lo dX5_readBoy_100 rfl rfl rfl rfl ?_
              have f92 := (hJ82.2 (2) 8 (zNI_k (by decide) (by decide) (zNI_k (by decide) (by decide) (zNI_k (by decide) (by decide) (zNI_k (by decide) (by decide) zNI_nil))))).trans ((hJ71.2 (2) 8 (zNI_k (by decide) (by decide) (zNI_k (by decide) (by decide) (zNI_k (by decide) (by decide) zNI_nil)))).trans ((hn68 (2) 8 (Or.inl (by omega))).trans (f60)))
              refine w_gf dX5_readBoy_101 rfl hJ90.1.1 zs_2 f92 ?_
              refine w_gf dX5_readBoy_104 rfl hJ90.1.1 (zs_1_0 h3) (zr_1_0_5 h3 hJ90.1) ?_
              refine w_lo dX5_readBoy_107 rfl rfl rfl rfl ?_
              refine w_lo dX5_readBoy_108 rfl rfl rfl rfl ?_
              refine w_gfi dX5_readBoy_109 rfl hJ90.1 zs_2 (Nat.le_of_ble_eq_true rfl) zo_2_10 ?_
              intro x93 f94 h95 h96
              replace hb : zHd _ := hb x93.toInt (ziE f94)
              refine w_isi dX5_readBoy_112 hJ90 (zs_1_3 h3) (by omega) (by omega) (zu_1_3 h3) (zbot _) (ztop _) ((zDm_or h3).elim (fun e => zIR_s (zIR_s (zIR_s (zIR_s (zIR_s (zIR_a (by omega) (by omega))))))) (fun e => zIR_s (zIR_s (zIR_s (zIR_s (zIR_s (zIR_s (zIR_a (by omega) (by omega))))))))) ?_
              intro M97 hJ98 f99 hn100
              replace hb : zHd _ := hb (zi M97) (zi_zup hn100 f99 rfl rfl)
              refine w_lo dX5_readBoy_113 rfl rfl rfl rfl ?_
              refine w_bi dX5_readBoy_114 (c := 8) (by decide) ?_
              refine w_iv dX5_readBoy_116 rfl rfl (As := [.int 8]) rfl rfl hJ98.1.1 zs_2 (Nat.le_of_ble_eq_true rfl) ?_
              obtain ⟨P104, hp105, hb⟩ := hb
              replace hb : zHd _ := hb
              have hp105c : b_1291 (zi M97) (8 : Int32).toInt P104 := by rw [zt_8]; exact hp105
              refine ZV.imp (u_1291 8 (by have := zt_8; omega) (by have := zt_8; omega) hN hJ98.1 hp105c) ?_
              rintro _ ⟨x107, M102, rfl, h108, h109, hJ103, hq106⟩
              replace hb : zHd _ := hb x107.toInt h108 h109 (zi M102) (zi_fr hJ103.2) hq106
              have hJ111 := zJ_trans hJ98 hJ103 (zSub_cons (fun _ _ h h' hk => zIR_e (by omega) (by omega) hk) (zSub_cons (fun _ _ h h' hk => zIR_s (zIR_e (by omega) (by omega) hk)) (zSub_cons (fun _ _ h h' hk => zIR_s (zIR_s (zIR_s (zIR_s (zIR_s (zIR_s (zIR_s (zIR_e (by omega) (by omega) hk)))))))) zSub_nil)))
              show ZW _ _ _ _ _ _ _ (119, [some (.ref 2), some (.int x5)], [.int x107], M102)
              rcases Int.decEq x107.toInt (0 : Int) with h112 | h112
              · skip
                replace hb : zHd _ := hb.1 h112
                refine w_ieq_f dX5_readBoy_119 (t := 132) rfl (by omega) ?_
                refine w_lo dX5_readBoy_122 rfl rfl rfl rfl ?_
                refine w_ic dX5_readBoy_123 zi_0 ?_
                refine w_bi dX5_readBoy_124 (c := 100) (by decide) ?_
                refine w_iv dX5_readBoy_126 rfl rfl (As := [.int 0, .int 100]) rfl rfl hJ111.1.1 zs_2 (Nat.le_of_ble_eq_true rfl) ?_
                obtain ⟨P115, hp116, hb⟩ := hb
                replace hb : zHd _ := hb
                have hp116c : b_1292 (zi M102) (0 : Int32).toInt (100 : Int32).toInt P115 := by rw [zt_0, zt_100]; exact hp116
                refine ZV.imp (u_1292 0 (by have := zt_0; omega) (by have := zt_0; omega) 100 (by have := zt_100; omega) (by have := zt_100; omega) hN hJ111.1 hp116c) ?_
                rintro _ ⟨x118, M113, rfl, h119, h120, hJ114, hq117⟩
                replace hb : zHd _ := hb x118.toInt h119 h120 (zi M113) (zi_fr hJ114.2) hq117
                have hJ122 := zJ_trans hJ111 hJ114 (zSub_cons (fun _ _ h h' hk => zIR_e (by omega) (by omega) hk) (zSub_cons (fun _ _ h h' hk => zIR_s (zIR_e (by omega) (by omega) hk)) (zSub_cons (fun _ _ h h' hk => zIR_s (zIR_s (zIR_s (zIR_s (zIR_e (by omega) (by omega) hk))))) (zSub_cons (fun _ _ h h' hk => zIR_s (zIR_s (zIR_s (zIR_s (zIR_s (zIR_s (zIR_s (zIR_e (by omega) (by omega) hk)))))))) zSub_nil))))
                show ZW _ _ _ _ _ _ _ (129, [some (.ref 2), some (.int x5)], [.int x118], M113)
                rcases Int.decEq x118.toInt (0 : Int) with h123 | h123
                · skip
                  replace hb : zHd _ := hb.1 h123
                  refine w_ine_t dX5_readBoy_129 (t := 134) rfl (by omega) ?_
                  refine w_lo dX5_readBoy_134 rfl rfl rfl rfl ?_
                  have f124 := (hJ114.2 (2) 8 (zNI_k (by decide) (by decide) (zNI_k (by decide) (by decide) (zNI_k (by decide) (by decide) (zNI_k (by decide) (by decide) zNI_nil))))).trans ((hJ103.2 (2) 8 (zNI_k (by decide) (by decide) (zNI_k (by decide) (by decide) (zNI_k (by decide) (by decide) zNI_nil)))).trans ((hn100 (2) 8 (Or.inl (by omega))).trans (f92)))
                  refine w_gf dX5_readBoy_135 rfl hJ122.1.1 zs_2 f124 ?_
                  refine w_gf dX5_readBoy_138 rfl hJ122.1.1 (zs_1_0 h3) (zr_1_0_6 h3 hJ122.1) ?_
                  refine w_lo dX5_readBoy_141 rfl rfl rfl rfl ?_
                  refine w_lo dX5_readBoy_142 rfl rfl rfl rfl ?_
                  refine w_gfi dX5_readBoy_143 rfl hJ122.1 zs_2 (Nat.le_of_ble_eq_true rfl) zo_2_10 ?_
                  intro x125 f126 h127 h128
                  replace hb : zHd _ := hb x125.toInt (ziE f126)
                  refine w_isi dX5_readBoy_146 hJ122 (zs_1_4 h3) (by omega) (by omega) (zu_1_4 h3) (zbot _) (ztop _) ((zDm_or h3).elim (fun e => zIR_s (zIR_s (zIR_s (zIR_s (zIR_s (zIR_a (by omega) (by omega))))))) (fun e => zIR_s (zIR_s (zIR_s (zIR_s (zIR_s (zIR_s (zIR_a (by omega) (by omega))))))))) ?_
                  intro M129 hJ130 f131 hn132
                  replace hb : zHd _ := hb (zi M129) (zi_zup hn132 f131 rfl rfl)
                  refine w_lo dX5_readBoy_147 rfl rfl rfl rfl ?_
                  refine w_bi dX5_readBoy_148 (c := 9) (by decide) ?_
                  refine w_iv dX5_readBoy_150 rfl rfl (As := [.int 9]) rfl rfl hJ130.1.1 zs_2 (Nat.le_of_ble_eq_true rfl) ?_
                  obtain ⟨P136, hp137, hb⟩ := hb
                  replace hb : zHd _ := hb
                  have hp137c : b_1291 (zi M129) (9 : Int32).toInt P136 := by rw [zt_9]; exact hp137
                  refine ZV.imp (u_1291 9 (by have := zt_9; omega) (by have := zt_9; omega) hN hJ130.1 hp137c) ?_
                  rintro _ ⟨x139, M134, rfl, h140, h141, hJ135, hq138⟩
                  replace hb : zHd _ := hb x139.toInt h140 h141 (zi M134) (zi_fr hJ135.2) hq138
                  have hJ143 := zJ_trans hJ130 hJ135 (zSub_cons (fun _ _ h h' hk => zIR_e (by omega) (by omega) hk) (zSub_cons (fun _ _ h h' hk => zIR_s (zIR_e (by omega) (by omega) hk)) (zSub_cons (fun _ _ h h' hk => zIR_s (zIR_s (zIR_s (zIR_s (zIR_s (zIR_s (zIR_s (zIR_e (by omega) (by omega) hk)))))))) zSub_nil)))
                  show ZW _ _ _ _ _ _ _ (153, [some (.ref 2), some (.int x5)], [.int x139], M134)
                  rcases Int.decEq x139.toInt (0 : Int) with h144 | h144
                  · skip
                    replace hb : zHd _ := hb.1 h144
                    refine w_ieq_f dX5_readBoy_153 (t := 166) rfl (by omega) ?_
                    refine w_lo dX5_readBoy_156 rfl rfl rfl rfl ?_
                    refine w_ic dX5_readBoy_157 zi_0 ?_
                    refine w_bi dX5_readBoy_158 (c := 99) (by decide) ?_
                    refine w_iv dX5_readBoy_160 rfl rfl (As := [.int 0, .int 99]) rfl rfl hJ143.1.1 zs_2 (Nat.le_of_ble_eq_true rfl) ?_
                    obtain ⟨P147, hp148, hb⟩ := hb
                    replace hb : zHd _ := hb
                    have hp148c : b_1292 (zi M134) (0 : Int32).toInt (99 : Int32).toInt P147 := by rw [zt_0, zt_99]; exact hp148
                    refine ZV.imp (u_1292 0 (by have := zt_0; omega) (by have := zt_0; omega) 99 (by have := zt_99; omega) (by have := zt_99; omega) hN hJ143.1 hp148c) ?_
                    rintro _ ⟨x150, M145, rfl, h151, h152, hJ146, hq149⟩
                    replace hb : zHd _ := hb x150.toInt h151 h152 (zi M145) (zi_fr hJ146.2) hq149
                    have hJ154 := zJ_trans hJ143 hJ146 (zSub_cons (fun _ _ h h' hk => zIR_e (by omega) (by omega) hk) (zSub_cons (fun _ _ h h' hk => zIR_s (zIR_e (by omega) (by omega) hk)) (zSub_cons (fun _ _ h h' hk => zIR_s (zIR_s (zIR_s (zIR_s (zIR_e (by omega) (by omega) hk))))) (zSub_cons (fun _ _ h h' hk => zIR_s (zIR_s (zIR_s (zIR_s (zIR_s (zIR_s (zIR_s (zIR_e (by omega) (by omega) hk)))))))) zSub_nil))))
                    show ZW _ _ _ _ _ _ _ (163, [some (.ref 2), some (.int x5)], [.int x150], M145)
                    rcases Int.decEq x150.toInt (0 : Int) with h155 | h155
                    · skip
                      replace hb : zHd _ := hb.1 h155
                      refine w_ine_t dX5_readBoy_163 (t := 168) rfl (by omega) ?_
                      refine w_lo dX5_readBoy_168 rfl rfl rfl rfl ?_
                      have f156 := (hJ146.2 (2) 8 (zNI_k (by decide) (by decide) (zNI_k (by decide) (by decide) (zNI_k (by decide) (by decide) (zNI_k (by decide) (by decide) zNI_nil))))).trans ((hJ135.2 (2) 8 (zNI_k (by decide) (by decide) (zNI_k (by decide) (by decide) (zNI_k (by decide) (by decide) zNI_nil)))).trans ((hn132 (2) 8 (Or.inl (by omega))).trans (f124)))
                      refine w_gf dX5_readBoy_169 rfl hJ154.1.1 zs_2 f156 ?_
                      refine w_gf dX5_readBoy_172 rfl hJ154.1.1 (zs_1_0 h3) (zr_1_0_7 h3 hJ154.1) ?_
                      refine w_lo dX5_readBoy_175 rfl rfl rfl rfl ?_
                      refine w_lo dX5_readBoy_176 rfl rfl rfl rfl ?_
                      refine w_gfi dX5_readBoy_177 rfl hJ154.1 zs_2 (Nat.le_of_ble_eq_true rfl) zo_2_10 ?_
                      intro x157 f158 h159 h160
                      replace hb : zHd _ := hb x157.toInt (ziE f158)
                      refine w_isi dX5_readBoy_180 hJ154 (zs_1_5 h3) (by omega) (by omega) (zu_1_5 h3) (zbot _) (ztop _) ((zDm_or h3).elim (fun e => zIR_s (zIR_s (zIR_s (zIR_s (zIR_s (zIR_a (by omega) (by omega))))))) (fun e => zIR_s (zIR_s (zIR_s (zIR_s (zIR_s (zIR_s (zIR_a (by omega) (by omega))))))))) ?_
                      intro M161 hJ162 f163 hn164
                      replace hb : zHd _ := hb (zi M161) (zi_zup hn164 f163 rfl rfl)
                      refine w_lo dX5_readBoy_181 rfl rfl rfl rfl ?_
                      have f166 := (hn164 (2) 8 (Or.inl (by omega))).trans (f156)
                      refine w_gf dX5_readBoy_182 rfl hJ162.1.1 zs_2 f166 ?_
                      refine w_pu dX5_readBoy_185 rfl rfl ?_
                      have f167 := (hn164 (b1) 1 (Or.inl (by omega))).trans ((hJ146.2 (b1) 1 (zNI_k (by decide) (by decide) (zNI (by omega) (zNI_k (by decide) (by decide) (zNI_k (by decide) (by decide) zNI_nil))))).trans ((hJ135.2 (b1) 1 (zNI_k (by decide) (by decide) (zNI (by omega) (zNI_k (by decide) (by decide) zNI_nil)))).trans ((hn132 (b1) 1 (Or.inl (by omega))).trans ((hJ114.2 (b1) 1 (zNI_k (by decide) (by decide) (zNI (by omega) (zNI_k (by decide) (by decide) (zNI_k (by decide) (by decide) zNI_nil))))).trans ((hJ103.2 (b1) 1 (zNI_k (by decide) (by decide) (zNI (by omega) (zNI_k (by decide) (by decide) zNI_nil)))).trans ((hn100 (b1) 1 (Or.inl (by omega))).trans ((hJ82.2 (b1) 1 (zNI_k (by decide) (by decide) (zNI (by omega) (zNI_k (by decide) (by decide) (zNI_k (by decide) (by decide) zNI_nil))))).trans ((hJ71.2 (b1) 1 (zNI_k (by decide) (by decide) (zNI (by omega) (zNI_k (by decide) (by decide) zNI_nil)))).trans ((hn68 (b1) 1 (Or.inl (by omega))).trans ((hJ50.2 (b1) 1 (zNI_k (by decide) (by decide) (zNI (by omega) (zNI_k (by decide) (by decide) (zNI_k (by decide) (by decide) zNI_nil))))).trans ((hJ39.2 (b1) 1 (zNI_k (by decide) (by decide) (zNI (by omega) (zNI_k (by decide) (by decide) zNI_nil)))).trans ((hn36 (b1) 1 (Or.inl (by omega))).trans ((hJ18.2 (b1) 1 (zNI_k (by decide) (by decide) (zNI (by omega) (zNI_k (by decide) (by decide) (zNI_k (by decide) (by decide) zNI_nil))))).trans ((hJ11.2 (b1) 1 (zNI_k (by decide) (by decide) zNI_nil)).trans (f6)))))))))))))))
                      refine w_gf dX5_readBoy_186 rfl hJ162.1.1 (zs_1_0 h3) f167 ?_
                      refine w_ic dX5_readBoy_189 zi_1 ?_
                      refine w_add dX5_readBoy_190 (by have := zt_1; omega) ?_
                      intro x168 h169
                      have := zt_1
                      replace hb : zHd _ := hb x168.toInt (by have := zt_1; omega)
                      refine w_pfi dX5_readBoy_191 rfl hJ162 (zs_1_0 h3) (Nat.le_of_ble_eq_true rfl) (zo_1_0_1 h3) (by omega) (by omega) ((zDm_or h3).elim (fun e => zIR_s (zIR_s (zIR_k (by omega) (by omega)))) (fun e => zIR_s (zIR_s (zIR_s (zIR_k (by omega) (by omega)))))) rfl rfl rfl ?_
                      intro M170 hJ171 f172 hn173
                      replace hb : zHd _ := hb (zi M170) (zi_zup hn173 f172 rfl rfl)
                      refine w_lo dX5_readBoy_194 rfl rfl rfl rfl ?_
                      refine w_lo dX5_readBoy_195 rfl rfl rfl rfl ?_
                      refine w_iv dX5_readBoy_196 rfl rfl (As := [.int x5]) rfl rfl hJ171.1.1 zs_2 (Nat.le_of_ble_eq_true rfl) ?_
                      obtain ⟨P177, hp178, hb⟩ := hb
                      replace hb : zHd _ := hb
                      refine ZV.imp (u_1293 x5 (by omega) (by omega) hN hJ171.1 hp178) ?_
                      rintro _ ⟨x180, M175, rfl, h181, h182, hJ176, hq179⟩
                      replace hb : zHd _ := hb x180.toInt h181 h182 (zi M175) (zi_fr hJ176.2) hq179
                      have hJ184 := zJ_trans hJ171 hJ176 (zSub_cons (fun _ _ h h' hk => zIR_e (by omega) (by omega) hk) (zSub_cons (fun _ _ h h' hk => zIR_s (zIR_e (by omega) (by omega) hk)) (zSub_cons (fun _ _ h h' hk => zIR_s (zIR_s (zIR_s (zIR_s (zIR_s (zIR_a (by omega) (by omega))))))) (zSub_cons (fun _ _ h h' hk => zIR_s (zIR_s (zIR_s (zIR_s (zIR_s (zIR_s (zIR_a (by omega) (by omega)))))))) (zSub_cons (fun _ _ h h' hk => zIR_s (zIR_s (zIR_s (zIR_s (zIR_s (zIR_s (zIR_s (zIR_e (by omega) (by omega) hk)))))))) zSub_nil)))))
                      show ZW _ _ _ _ _ _ _ (199, [some (.ref 2), some (.int x5)], [.int x180], M175)
                      refine w_eni dX5_readBoy_199 rfl (znb (by omega) (by omega)) ?_
                      exact ⟨_, _, rfl, (by omega), (by omega), hJ184, hb⟩
                    · skip
                      replace hb : zHd _ := hb.2 h155
                      refine w_ine_f dX5_readBoy_163 (t := 168) rfl (by omega) ?_
                      refine w_ic dX5_readBoy_166 zi_0 ?_
                      refine w_en dX5_readBoy_167 rfl ?_
                      exact ⟨_, _, rfl, (by have := zt_0; omega), (by have := zt_0; omega), hJ154, hb⟩
                  · skip
                    replace hb : zHd _ := hb.2 h144
                    refine w_ieq_t dX5_readBoy_153 (t := 166) rfl (by omega) ?_
                    refine w_ic dX5_readBoy_166 zi_0 ?_
                    refine w_en dX5_readBoy_167 rfl ?_
                    exact ⟨_, _, rfl, (by have := zt_0; omega), (by have := zt_0; omega), hJ143, hb⟩
                · skip
                  replace hb : zHd _ := hb.2 h123
                  refine w_ine_f dX5_readBoy_129 (t := 134) rfl (by omega) ?_
                  refine w_ic dX5_readBoy_132 zi_0 ?_
                  refine w_en dX5_readBoy_133 rfl ?_
                  exact ⟨_, _, rfl, (by have := zt_0; omega), (by have := zt_0; omega), hJ122, hb⟩
              · skip
                replace hb : zHd _ := hb.2 h112
                refine w_ieq_t dX5_readBoy_119 (t := 132) rfl (by omega) ?_
                refine w_ic dX5_readBoy_132 zi_0 ?_
                refine w_en dX5_readBoy_133 rfl ?_
                exact ⟨_, _, rfl, (by have := zt_0; omega), (by have := zt_0; omega), hJ111, hb⟩
            · skip
              replace hb : zHd _ := hb.2 h91
              refine w_ine_f dX5_readBoy_95 (t := 100) rfl (by omega) ?_
              refine w_ic dX5_readBoy_98 zi_0 ?_
              refine w_en dX5_readBoy_99 rfl ?_
              exact ⟨_, _, rfl, (by have := zt_0; omega), (by have := zt_0; omega), hJ90, hb⟩
          · skip
            replace hb : zHd _ := hb.2 h80
            refine w_ieq_t dX5_readBoy_84 (t := 98) rfl (by omega) ?_
            refine w_ic dX5_readBoy_98 zi_0 ?_
            refine w_en dX5_readBoy_99 rfl ?_
            exact ⟨_, _, rfl, (by have := zt_0; omega), (by have := zt_0; omega), hJ79, hb⟩
        · skip
          replace hb : zHd _ := hb.2 h59
          refine w_ine_f dX5_readBoy_61 (t := 66) rfl (by omega) ?_
          refine w_ic dX5_readBoy_64 zi_0 ?_
          refine w_en dX5_readBoy_65 rfl ?_
          exact ⟨_, _, rfl, (by have := zt_0; omega), (by have := zt_0; omega), hJ58, hb⟩
      · skip
        replace hb : zHd _ := hb.2 h48
        refine w_ieq_t dX5_readBoy_51 (t := 64) rfl (by omega) ?_
        refine w_ic dX5_readBoy_64 zi_0 ?_
        refine w_en dX5_readBoy_65 rfl ?_
        exact ⟨_, _, rfl, (by have := zt_0; omega), (by have := zt_0; omega), hJ47, hb⟩
    · skip
      replace hb : zHd _ := hb.2 h27
      refine w_ine_f dX5_readBoy_28 (t := 33) rfl (by omega) ?_
      refine w_ic dX5_readBoy_31 zi_0 ?_
      refine w_en dX5_readBoy_32 rfl ?_
      exact ⟨_, _, rfl, (by have := zt_0; omega), (by have := zt_0; omega), hJ26, hb⟩
  · skip
    replace hb : zHd _ := hb.2 h9
    refine w_clt_f dX5_readBoy_11 (t := 20) rfl (by have := zt_12; omega) ?_
    refine w_lo dX5_readBoy_14 rfl rfl rfl rfl ?_
    refine w_ic dX5_readBoy_15 zi_5 ?_
    refine w_iv dX5_readBoy_16 rfl rfl (As := [.int 5]) rfl rfl hJ0.1.1 zs_2 (Nat.le_of_ble_eq_true rfl) ?_
    obtain ⟨P187, hp188, hb⟩ := hb
    replace hb : zHd _ := hb
    have hp188c : b_1286 (zi M0) (5 : Int32).toInt P187 := by rw [zt_5]; exact hp188
    refine ZV.imp (u_1286 5 (by have := zt_5; omega) (by have := zt_5; omega) hN hJ0.1 hp188c) ?_
    rintro _ ⟨x190, M185, rfl, h191, h192, hJ186, hq189⟩
    replace hb : zHd _ := hb x190.toInt h191 h192 (zi M185) (zi_fr hJ186.2) hq189
    have hJ194 := zJ_trans hJ0 hJ186 (zSub_cons (fun _ _ h h' hk => zIR_e (by omega) (by omega) hk) (zSub_cons (fun _ _ h h' hk => zIR_s (zIR_e (by omega) (by omega) hk)) zSub_nil))
    show ZW _ _ _ _ _ _ _ (19, [some (.ref 2), some (.int x5)], [.int x190], M185)
    refine w_eni dX5_readBoy_19 rfl (znb (by omega) (by omega)) ?_
    exact ⟨_, _, rfl, (by omega), (by omega), hJ194, hb⟩
set_option maxRecDepth 100000 in
theorem u_1294 {X : List Int32} {d N : Nat} {M0 : zM}  (hN : N ≤ 600) (hB0 : zB N M0) {Q : Int → zF → Prop} (hb : b_1294 (zi M0) Q) : ZV X (d + 3) 1294 [.ref 2] M0 (zRI N [(2, 3, 0), (2, 3, 1), (2, 3, 10), (19, 20, 1000), (40, 41, 1000), (2, 3, 7)] M0 (0) (1) (fun v M' => Q v.toInt (zi M'))) := by
  have hJ0 : zJ N [(2, 3, 0), (2, 3, 1), (2, 3, 10), (19, 20, 1000), (40, 41, 1000), (2, 3, 7)] M0 M0 := zJ_refl hB0
  refine ZV.of (ini := false) rfl (Nat.le_of_ble_eq_true rfl) (by decide +kernel) ?_
  unfold b_1294 at hb
  replace hb : zHd _ := hb
  show ZW _ _ _ _ _ _ _ (0, [some (.ref 2), none], [], M0)
  refine w_lo dX5_readSlack_0 rfl rfl rfl rfl ?_
  refine w_iv dX5_readSlack_1 rfl rfl (As := []) rfl rfl hJ0.1.1 zs_2 (Nat.le_of_ble_eq_true rfl) ?_
  obtain ⟨P3, hp4, hb⟩ := hb
  replace hb : zHd _ := hb
  refine ZV.imp (u_1289 hN hJ0.1 hp4) ?_
  rintro _ ⟨M1, rfl, hJ2, hq5⟩
  replace hb : zHd _ := hb  (zi M1) (zi_fr hJ2.2) hq5
  have hJ7 := zJ_trans hJ0 hJ2 (zSub_cons (fun _ _ h h' hk => zIR_s (zIR_s (zIR_s (zIR_s (zIR_s (zIR_e (by omega) (by omega) hk)))))) zSub_nil)
  show ZW _ _ _ _ _ _ _ (4, [some (.ref 2), none], [], M1)
  refine w_lo dX5_readSlack_4 rfl rfl rfl rfl ?_
  refine w_ic dX5_readSlack_5 zi_0 ?_
  refine w_bi dX5_readSlack_6 (c := 99) (by decide) ?_
  refine w_iv dX5_readSlack_8 rfl rfl (As := [.int 0, .int 99]) rfl rfl hJ7.1.1 zs_2 (Nat.le_of_ble_eq_true rfl) ?_
  refine ZV.of (ini := false) rfl (Nat.le_of_ble_eq_true rfl) (by decide +kernel) ?_
  show ZW _ _ _ _ _ _ _ (0, [some (.ref 2), some (.int 0), some (.int 99)], [], M1)
  refine w_lo dX5_needsNumber_0 rfl rfl rfl rfl ?_
  refine w_gf dX5_needsNumber_1 rfl hJ7.1.1 zs_2 (zr_2_3 hJ7.1) ?_
  refine w_lo dX5_needsNumber_4 rfl rfl rfl rfl ?_
  refine w_gfi dX5_needsNumber_5 rfl hJ7.1 zs_2 (Nat.le_of_ble_eq_true rfl) zo_2_7 ?_
  intro x8 f9 h10 h11
  replace hb : zHd _ := hb x8.toInt (ziE f9) h10 h11
  refine w_iai dX5_needsNumber_8 hJ7.1 zs_4 (by omega) (by omega) zu_4 ?_
  intro x15 f12 h13 h14
  replace hb : zHd _ := hb x15.toInt (ziEk f12 rfl) h13 h14
  refine w_ic dX5_needsNumber_9 zi_4 ?_
  rcases Int.decEq x15.toInt (4 : Int) with h16 | h16
  · skip
    replace hb : zHd _ := hb.1 h16
    refine w_ceq_f dX5_needsNumber_10 (t := 19) rfl (by have := zt_4; omega) ?_
    refine w_lo dX5_needsNumber_13 rfl rfl rfl rfl ?_
    refine w_ic dX5_needsNumber_14 zi_1 ?_
    refine w_iv dX5_needsNumber_15 rfl rfl (As := [.int 1]) rfl rfl hJ7.1.1 zs_2 (Nat.le_of_ble_eq_true rfl) ?_
    obtain ⟨P19, hp20, hb⟩ := hb
    replace hb : zHd _ := hb
    have hp20c : b_1286 (zi M1) (1 : Int32).toInt P19 := by rw [zt_1]; exact hp20
    refine ZV.imp (u_1286 1 (by have := zt_1; omega) (by have := zt_1; omega) hN hJ7.1 hp20c) ?_
    rintro _ ⟨x22, M17, rfl, h23, h24, hJ18, hq21⟩
    replace hb : zHd _ := hb x22.toInt h23 h24 (zi M17) (zi_fr hJ18.2) hq21
    have hJ26 := zJ_trans hJ7 hJ18 (zSub_cons (fun _ _ h h' hk => zIR_e (by omega) (by omega) hk) (zSub_cons (fun _ _ h h' hk => zIR_s (zIR_e (by omega) (by omega) hk)) zSub_nil))
    show ZW _ _ _ _ _ _ _ (18, [some (.ref 2), some (.int 0), some (.int 99)], [.int x22], M17)
    refine w_eni dX5_needsNumber_18 rfl (znb (by omega) (by omega)) ?_
    show ZW _ _ _ _ _ _ _ (11, [some (.ref 2), none], [.int x22], M17)
    refine w_ine_f dX5_readSlack_11 (t := 16) rfl (by omega) ?_
    refine w_ic dX5_readSlack_14 zi_0 ?_
    refine w_en dX5_readSlack_15 rfl ?_
    exact ⟨_, _, rfl, (by have := zt_0; omega), (by have := zt_0; omega), hJ26, hb⟩
  · skip
    replace hb : zHd _ := hb.2 h16
    refine w_ceq_t dX5_needsNumber_10 (t := 19) rfl (by have := zt_4; omega) ?_
    refine w_lo dX5_needsNumber_19 rfl rfl rfl rfl ?_
    refine w_lo dX5_needsNumber_20 rfl rfl rfl rfl ?_
    refine w_gf dX5_needsNumber_21 rfl hJ7.1.1 zs_2 (zr_2_4 hJ7.1) ?_
    refine w_lo dX5_needsNumber_24 rfl rfl rfl rfl ?_
    refine w_gf dX5_needsNumber_25 rfl hJ7.1.1 zs_2 f9 ?_
    refine w_iai dX5_needsNumber_28 hJ7.1 zs_5 (by omega) (by omega) zu_5 ?_
    intro x30 f27 h28 h29
    replace hb : zHd _ := hb x30.toInt (ziEk f27 rfl)
    refine w_pfi dX5_needsNumber_29 rfl hJ7 zs_2 (Nat.le_of_ble_eq_true rfl) zo_2_10 (zbot _) (ztop _) (zIR_s (zIR_s (zIR_k (by omega) (by omega)))) rfl rfl rfl ?_
    intro M31 hJ32 f33 hn34
    replace hb : zHd _ := hb (zi M31) (zi_zup hn34 f33 rfl rfl)
    refine w_lo dX5_needsNumber_32 rfl rfl rfl rfl ?_
    refine w_gf dX5_needsNumber_33 rfl hJ32.1.1 zs_2 f33 ?_
    refine w_lo dX5_needsNumber_36 rfl rfl rfl rfl ?_
    rcases zcut x30.toInt (0 : Int) with h36 | h36
    · skip
      replace hb : zHd _ := hb.1 h36
      refine w_clt_t dX5_needsNumber_37 (t := 48) rfl (by have := zt_0; omega) ?_
      refine w_lo dX5_needsNumber_48 rfl rfl rfl rfl ?_
      refine w_ic dX5_needsNumber_49 zi_4 ?_
      refine w_iv dX5_needsNumber_50 rfl rfl (As := [.int 4]) rfl rfl hJ32.1.1 zs_2 (Nat.le_of_ble_eq_true rfl) ?_
      obtain ⟨P39, hp40, hb⟩ := hb
      replace hb : zHd _ := hb
      have hp40c : b_1286 (zi M31) (4 : Int32).toInt P39 := by rw [zt_4]; exact hp40
      refine ZV.imp (u_1286 4 (by have := zt_4; omega) (by have := zt_4; omega) hN hJ32.1 hp40c) ?_
      rintro _ ⟨x42, M37, rfl, h43, h44, hJ38, hq41⟩
      replace hb : zHd _ := hb x42.toInt h43 h44 (zi M37) (zi_fr hJ38.2) hq41
      have hJ46 := zJ_trans hJ32 hJ38 (zSub_cons (fun _ _ h h' hk => zIR_e (by omega) (by omega) hk) (zSub_cons (fun _ _ h h' hk => zIR_s (zIR_e (by omega) (by omega) hk)) zSub_nil))
      show ZW _ _ _ _ _ _ _ (53, [some (.ref 2), some (.int 0), some (.int 99)], [.int x42], M37)
      refine w_eni dX5_needsNumber_53 rfl (znb (by omega) (by omega)) ?_
      show ZW _ _ _ _ _ _ _ (11, [some (.ref 2), none], [.int x42], M37)
      refine w_ine_f dX5_readSlack_11 (t := 16) rfl (by omega) ?_
      refine w_ic dX5_readSlack_14 zi_0 ?_
      refine w_en dX5_readSlack_15 rfl ?_
      exact ⟨_, _, rfl, (by have := zt_0; omega), (by have := zt_0; omega), hJ46, hb⟩
    · skip
      replace hb : zHd _ := hb.2 h36
      refine w_clt_f dX5_needsNumber_37 (t := 48) rfl (by have := zt_0; omega) ?_
      refine w_lo dX5_needsNumber_40 rfl rfl rfl rfl ?_
      refine w_gf dX5_needsNumber_41 rfl hJ32.1.1 zs_2 f33 ?_
      refine w_lo dX5_needsNumber_44 rfl rfl rfl rfl ?_
      rcases zcut (99 : Int) x30.toInt with h47 | h47
      · skip
        replace hb : zHd _ := hb.1 h47
        refine w_cle_f dX5_needsNumber_45 (t := 54) rfl (by have := zt_99; omega) ?_
        refine w_lo dX5_needsNumber_48 rfl rfl rfl rfl ?_
        refine w_ic dX5_needsNumber_49 zi_4 ?_
        refine w_iv dX5_needsNumber_50 rfl rfl (As := [.int 4]) rfl rfl hJ32.1.1 zs_2 (Nat.le_of_ble_eq_true rfl) ?_
        obtain ⟨P50, hp51, hb⟩ := hb
        replace hb : zHd _ := hb
        have hp51c : b_1286 (zi M31) (4 : Int32).toInt P50 := by rw [zt_4]; exact hp51
        refine ZV.imp (u_1286 4 (by have := zt_4; omega) (by have := zt_4; omega) hN hJ32.1 hp51c) ?_
        rintro _ ⟨x53, M48, rfl, h54, h55, hJ49, hq52⟩
        replace hb : zHd _ := hb x53.toInt h54 h55 (zi M48) (zi_fr hJ49.2) hq52
        have hJ57 := zJ_trans hJ32 hJ49 (zSub_cons (fun _ _ h h' hk => zIR_e (by omega) (by omega) hk) (zSub_cons (fun _ _ h h' hk => zIR_s (zIR_e (by omega) (by omega) hk)) zSub_nil))
        show ZW _ _ _ _ _ _ _ (53, [some (.ref 2), some (.int 0), some (.int 99)], [.int x53], M48)
        refine w_eni dX5_needsNumber_53 rfl (znb (by omega) (by omega)) ?_
        show ZW _ _ _ _ _ _ _ (11, [some (.ref 2), none], [.int x53], M48)
        refine w_ine_f dX5_readSlack_11 (t := 16) rfl (by omega) ?_
        refine w_ic dX5_readSlack_14 zi_0 ?_
        refine w_en dX5_readSlack_15 rfl ?_
        exact ⟨_, _, rfl, (by have := zt_0; omega), (by have := zt_0; omega), hJ57, hb⟩
      · skip
        replace hb : zHd _ := hb.2 h47
        refine w_cle_t dX5_needsNumber_45 (t := 54) rfl (by have := zt_99; omega) ?_
        refine w_lo dX5_needsNumber_54 rfl rfl rfl rfl ?_
        refine w_iv dX5_needsNumber_55 rfl rfl (As := []) rfl rfl hJ32.1.1 zs_2 (Nat.le_of_ble_eq_true rfl) ?_
        obtain ⟨P60, hp61, hb⟩ := hb
        replace hb : zHd _ := hb
        refine ZV.imp (u_1289 hN hJ32.1 hp61) ?_
        rintro _ ⟨M58, rfl, hJ59, hq62⟩
        replace hb : zHd _ := hb  (zi M58) (zi_fr hJ59.2) hq62
        have hJ64 := zJ_trans hJ32 hJ59 (zSub_cons (fun _ _ h h' hk => zIR_s (zIR_s (zIR_s (zIR_s (zIR_s (zIR_e (by omega) (by omega) hk)))))) zSub_nil)
        show ZW _ _ _ _ _ _ _ (58, [some (.ref 2), some (.int 0), some (.int 99)], [], M58)
        refine w_ic dX5_needsNumber_58 zi_1 ?_
        refine w_en dX5_needsNumber_59 rfl ?_
        show ZW _ _ _ _ _ _ _ (11, [some (.ref 2), none], [.int 1], M58)
        refine w_ine_t dX5_readSlack_11 (t := 16) rfl (by have := zt_1; omega) ?_
        refine w_lo dX5_readSlack_16 rfl rfl rfl rfl ?_
        have f65 := (hJ59.2 (2) 10 (zNI_k (by decide) (by decide) zNI_nil)).trans (f33)
        refine w_gf dX5_readSlack_17 rfl hJ64.1.1 zs_2 f65 ?_
        refine w_lo (ml' := [some (.ref 2), some (.int x30)]) dX5_readSlack_20 rfl rfl rfl rfl ?_
        refine w_lo dX5_readSlack_21 rfl rfl rfl rfl ?_
        refine w_bi dX5_readSlack_22 (c := 13) (by decide) ?_
        refine w_iv dX5_readSlack_24 rfl rfl (As := [.int 13]) rfl rfl hJ64.1.1 zs_2 (Nat.le_of_ble_eq_true rfl) ?_
        obtain ⟨P68, hp69, hb⟩ := hb
        replace hb : zHd _ := hb
        have hp69c : b_1291 (zi M58) (13 : Int32).toInt P68 := by rw [zt_13]; exact hp69
        refine ZV.imp (u_1291 13 (by have := zt_13; omega) (by have := zt_13; omega) hN hJ64.1 hp69c) ?_
        rintro _ ⟨x71, M66, rfl, h72, h73, hJ67, hq70⟩
        replace hb : zHd _ := hb x71.toInt h72 h73 (zi M66) (zi_fr hJ67.2) hq70
        have hJ75 := zJ_trans hJ64 hJ67 (zSub_cons (fun _ _ h h' hk => zIR_e (by omega) (by omega) hk) (zSub_cons (fun _ _ h h' hk => zIR_s (zIR_e (by omega) (by omega) hk)) (zSub_cons (fun _ _ h h' hk => zIR_s (zIR_s (zIR_s (zIR_s (zIR_s (zIR_e (by omega) (by omega) hk)))))) zSub_nil)))
        show ZW _ _ _ _ _ _ _ (27, [some (.ref 2), some (.int x30)], [.int x71], M66)
        rcases Int.decEq x71.toInt (0 : Int) with h76 | h76
        · skip
          replace hb : zHd _ := hb.1 h76
          refine w_ieq_f dX5_readSlack_27 (t := 40) rfl (by omega) ?_
          refine w_lo dX5_readSlack_30 rfl rfl rfl rfl ?_
          refine w_ic dX5_readSlack_31 zi_0 ?_
          refine w_bi dX5_readSlack_32 (c := 10) (by decide) ?_
          refine w_iv dX5_readSlack_34 rfl rfl (As := [.int 0, .int 10]) rfl rfl hJ75.1.1 zs_2 (Nat.le_of_ble_eq_true rfl) ?_
          refine ZV.of (ini := false) rfl (Nat.le_of_ble_eq_true rfl) (by decide +kernel) ?_
          show ZW _ _ _ _ _ _ _ (0, [some (.ref 2), some (.int 0), some (.int 10)], [], M66)
          refine w_lo dX5_needsNumber_0 rfl rfl rfl rfl ?_
          refine w_gf dX5_needsNumber_1 rfl hJ75.1.1 zs_2 (zr_2_3 hJ75.1) ?_
          refine w_lo dX5_needsNumber_4 rfl rfl rfl rfl ?_
          refine w_gfi dX5_needsNumber_5 rfl hJ75.1 zs_2 (Nat.le_of_ble_eq_true rfl) zo_2_7 ?_
          intro x77 f78 h79 h80
          replace hb : zHd _ := hb x77.toInt (ziE f78) h79 h80
          refine w_iai dX5_needsNumber_8 hJ75.1 zs_4 (by omega) (by omega) zu_4 ?_
          intro x84 f81 h82 h83
          replace hb : zHd _ := hb x84.toInt (ziEk f81 rfl) h82 h83
          refine w_ic dX5_needsNumber_9 zi_4 ?_
          rcases Int.decEq x84.toInt (4 : Int) with h85 | h85
          · skip
            replace hb : zHd _ := hb.1 h85
            refine w_ceq_f dX5_needsNumber_10 (t := 19) rfl (by have := zt_4; omega) ?_
            refine w_lo dX5_needsNumber_13 rfl rfl rfl rfl ?_
            refine w_ic dX5_needsNumber_14 zi_1 ?_
            refine w_iv dX5_needsNumber_15 rfl rfl (As := [.int 1]) rfl rfl hJ75.1.1 zs_2 (Nat.le_of_ble_eq_true rfl) ?_
            obtain ⟨P88, hp89, hb⟩ := hb
            replace hb : zHd _ := hb
            have hp89c : b_1286 (zi M66) (1 : Int32).toInt P88 := by rw [zt_1]; exact hp89
            refine ZV.imp (u_1286 1 (by have := zt_1; omega) (by have := zt_1; omega) hN hJ75.1 hp89c) ?_
            rintro _ ⟨x91, M86, rfl, h92, h93, hJ87, hq90⟩
            replace hb : zHd _ := hb x91.toInt h92 h93 (zi M86) (zi_fr hJ87.2) hq90
            have hJ95 := zJ_trans hJ75 hJ87 (zSub_cons (fun _ _ h h' hk => zIR_e (by omega) (by omega) hk) (zSub_cons (fun _ _ h h' hk => zIR_s (zIR_e (by omega) (by omega) hk)) zSub_nil))
            show ZW _ _ _ _ _ _ _ (18, [some (.ref 2), some (.int 0), some (.int 10)], [.int x91], M86)
            refine w_eni dX5_needsNumber_18 rfl (znb (by omega) (by omega)) ?_
            show ZW _ _ _ _ _ _ _ (37, [some (.ref 2), some (.int x30)], [.int x91], M86)
            refine w_ine_f dX5_readSlack_37 (t := 42) rfl (by omega) ?_
            refine w_ic dX5_readSlack_40 zi_0 ?_
            refine w_en dX5_readSlack_41 rfl ?_
            exact ⟨_, _, rfl, (by have := zt_0; omega), (by have := zt_0; omega), hJ95, hb⟩
          · skip
            replace hb : zHd _ := hb.2 h85
            refine w_ceq_t dX5_needsNumber_10 (t := 19) rfl (by have := zt_4; omega) ?_
            refine w_lo dX5_needsNumber_19 rfl rfl rfl rfl ?_
            refine w_lo dX5_needsNumber_20 rfl rfl rfl rfl ?_
            refine w_gf dX5_needsNumber_21 rfl hJ75.1.1 zs_2 (zr_2_4 hJ75.1) ?_
            refine w_lo dX5_needsNumber_24 rfl rfl rfl rfl ?_
            refine w_gf dX5_needsNumber_25 rfl hJ75.1.1 zs_2 f78 ?_
            refine w_iai dX5_needsNumber_28 hJ75.1 zs_5 (by omega) (by omega) zu_5 ?_
            intro x99 f96 h97 h98
            replace hb : zHd _ := hb x99.toInt (ziEk f96 rfl)
            refine w_pfi dX5_needsNumber_29 rfl hJ75 zs_2 (Nat.le_of_ble_eq_true rfl) zo_2_10 (zbot _) (ztop _) (zIR_s (zIR_s (zIR_k (by omega) (by omega)))) rfl rfl rfl ?_
            intro M100 hJ101 f102 hn103
            replace hb : zHd _ := hb (zi M100) (zi_zup hn103 f102 rfl rfl)
            refine w_lo dX5_needsNumber_32 rfl rfl rfl rfl ?_
            refine w_gf dX5_needsNumber_33 rfl hJ101.1.1 zs_2 f102 ?_
            refine w_lo dX5_needsNumber_36 rfl rfl rfl rfl ?_
            rcases zcut x99.toInt (0 : Int) with h105 | h105
            · skip
              replace hb : zHd _ := hb.1 h105
              refine w_clt_t dX5_needsNumber_37 (t := 48) rfl (by have := zt_0; omega) ?_
              refine w_lo dX5_needsNumber_48 rfl rfl rfl rfl ?_
              refine w_ic dX5_needsNumber_49 zi_4 ?_
              refine w_iv dX5_needsNumber_50 rfl rfl (As := [.int 4]) rfl rfl hJ101.1.1 zs_2 (Nat.le_of_ble_eq_true rfl) ?_
              obtain ⟨P108, hp109, hb⟩ := hb
              replace hb : zHd _ := hb
              have hp109c : b_1286 (zi M100) (4 : Int32).toInt P108 := by rw [zt_4]; exact hp109
              refine ZV.imp (u_1286 4 (by have := zt_4; omega) (by have := zt_4; omega) hN hJ101.1 hp109c) ?_
              rintro _ ⟨x111, M106, rfl, h112, h113, hJ107, hq110⟩
              replace hb : zHd _ := hb x111.toInt h112 h113 (zi M106) (zi_fr hJ107.2) hq110
              have hJ115 := zJ_trans hJ101 hJ107 (zSub_cons (fun _ _ h h' hk => zIR_e (by omega) (by omega) hk) (zSub_cons (fun _ _ h h' hk => zIR_s (zIR_e (by omega) (by omega) hk)) zSub_nil))
              show ZW _ _ _ _ _ _ _ (53, [some (.ref 2), some (.int 0), some (.int 10)], [.int x111], M106)
              refine w_eni dX5_needsNumber_53 rfl (znb (by omega) (by omega)) ?_
              show ZW _ _ _ _ _ _ _ (37, [some (.ref 2), some (.int x30)], [.int x111], M106)
              refine w_ine_f dX5_readSlack_37 (t := 42) rfl (by omega) ?_
              refine w_ic dX5_readSlack_40 zi_0 ?_
              refine w_en dX5_readSlack_41 rfl ?_
              exact ⟨_, _, rfl, (by have := zt_0; omega), (by have := zt_0; omega), hJ115, hb⟩
            · skip
              replace hb : zHd _ := hb.2 h105
              refine w_clt_f dX5_needsNumber_37 (t := 48) rfl (by have := zt_0; omega) ?_
              refine w_lo dX5_needsNumber_40 rfl rfl rfl rfl ?_
              refine w_gf dX5_needsNumber_41 rfl hJ101.1.1 zs_2 f102 ?_
              refine w_lo dX5_needsNumber_44 rfl rfl rfl rfl ?_
              rcases zcut (10 : Int) x99.toInt with h116 | h116
              · skip
                replace hb : zHd _ := hb.1 h116
                refine w_cle_f dX5_needsNumber_45 (t := 54) rfl (by have := zt_10; omega) ?_
                refine w_lo dX5_needsNumber_48 rfl rfl rfl rfl ?_
                refine w_ic dX5_needsNumber_49 zi_4 ?_
                refine w_iv dX5_needsNumber_50 rfl rfl (As := [.int 4]) rfl rfl hJ101.1.1 zs_2 (Nat.le_of_ble_eq_true rfl) ?_
                obtain ⟨P119, hp120, hb⟩ := hb
                replace hb : zHd _ := hb
                have hp120c : b_1286 (zi M100) (4 : Int32).toInt P119 := by rw [zt_4]; exact hp120
                refine ZV.imp (u_1286 4 (by have := zt_4; omega) (by have := zt_4; omega) hN hJ101.1 hp120c) ?_
                rintro _ ⟨x122, M117, rfl, h123, h124, hJ118, hq121⟩
                replace hb : zHd _ := hb x122.toInt h123 h124 (zi M117) (zi_fr hJ118.2) hq121
                have hJ126 := zJ_trans hJ101 hJ118 (zSub_cons (fun _ _ h h' hk => zIR_e (by omega) (by omega) hk) (zSub_cons (fun _ _ h h' hk => zIR_s (zIR_e (by omega) (by omega) hk)) zSub_nil))
                show ZW _ _ _ _ _ _ _ (53, [some (.ref 2), some (.int 0), some (.int 10)], [.int x122], M117)
                refine w_eni dX5_needsNumber_53 rfl (znb (by omega) (by omega)) ?_
                show ZW _ _ _ _ _ _ _ (37, [some (.ref 2), some (.int x30)], [.int x122], M117)
                refine w_ine_f dX5_readSlack_37 (t := 42) rfl (by omega) ?_
                refine w_ic dX5_readSlack_40 zi_0 ?_
                refine w_en dX5_readSlack_41 rfl ?_
                exact ⟨_, _, rfl, (by have := zt_0; omega), (by have := zt_0; omega), hJ126, hb⟩
              · skip
                replace hb : zHd _ := hb.2 h116
                refine w_cle_t dX5_needsNumber_45 (t := 54) rfl (by have := zt_10; omega) ?_
                refine w_lo dX5_needsNumber_54 rfl rfl rfl rfl ?_
                refine w_iv dX5_needsNumber_55 rfl rfl (As := []) rfl rfl hJ101.1.1 zs_2 (Nat.le_of_ble_eq_true rfl) ?_
                obtain ⟨P129, hp130, hb⟩ := hb
                replace hb : zHd _ := hb
                refine ZV.imp (u_1289 hN hJ101.1 hp130) ?_
                rintro _ ⟨M127, rfl, hJ128, hq131⟩
                replace hb : zHd _ := hb  (zi M127) (zi_fr hJ128.2) hq131
                have hJ133 := zJ_trans hJ101 hJ128 (zSub_cons (fun _ _ h h' hk => zIR_s (zIR_s (zIR_s (zIR_s (zIR_s (zIR_e (by omega) (by omega) hk)))))) zSub_nil)
                show ZW _ _ _ _ _ _ _ (58, [some (.ref 2), some (.int 0), some (.int 10)], [], M127)
                refine w_ic dX5_needsNumber_58 zi_1 ?_
                refine w_en dX5_needsNumber_59 rfl ?_
                show ZW _ _ _ _ _ _ _ (37, [some (.ref 2), some (.int x30)], [.int 1], M127)
                refine w_ine_t dX5_readSlack_37 (t := 42) rfl (by have := zt_1; omega) ?_
                refine w_lo dX5_readSlack_42 rfl rfl rfl rfl ?_
                obtain ⟨b134, f135, h136⟩ := zd_2_8 hJ133.1
                have h137 := zDm_b h136
                refine w_gf dX5_readSlack_43 rfl hJ133.1.1 zs_2 f135 ?_
                replace hb : zHd _ := hb b134 (ziR f135) (zDm_or h136)
                refine w_gf dX5_readSlack_46 rfl hJ133.1.1 (zs_1_0 h136) (zr_1_0_14 h136 hJ133.1) ?_
                refine w_lo dX5_readSlack_49 rfl rfl rfl rfl ?_
                have f138 := (hJ128.2 (2) 10 (zNI_k (by decide) (by decide) zNI_nil)).trans (f102)
                refine w_gf dX5_readSlack_50 rfl hJ133.1.1 zs_2 f138 ?_
                refine w_lo dX5_readSlack_53 rfl rfl rfl rfl ?_
                refine w_isi dX5_readSlack_54 hJ133 (zs_1_12 h136) (by omega) (by omega) (zu_1_12 h136) (by omega) (by omega) ((zDm_or h136).elim (fun e => zIR_s (zIR_s (zIR_s (zIR_a (by omega) (by omega))))) (fun e => zIR_s (zIR_s (zIR_s (zIR_s (zIR_a (by omega) (by omega))))))) ?_
                intro M139 hJ140 f141 hn142
                replace hb : zHd _ := hb (zi M139) (zi_zup hn142 f141 rfl rfl)
                refine w_ic dX5_readSlack_55 zi_1 ?_
                refine w_en dX5_readSlack_56 rfl ?_
                exact ⟨_, _, rfl, (by have := zt_1; omega), (by have := zt_1; omega), hJ140, hb⟩
        · skip
          replace hb : zHd _ := hb.2 h76
          refine w_ieq_t dX5_readSlack_27 (t := 40) rfl (by omega) ?_
          refine w_ic dX5_readSlack_40 zi_0 ?_
          refine w_en dX5_readSlack_41 rfl ?_
          exact ⟨_, _, rfl, (by have := zt_0; omega), (by have := zt_0; omega), hJ75, hb⟩
