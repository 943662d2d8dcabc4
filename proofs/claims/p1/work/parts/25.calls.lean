/-! the first call, one theorem a method: both sides answer alike (wip/p1/mk24.py) -/
theorem zp_1 (a1 : Int32) : ∃ (v : Int32) (M1 M2 : zM), ZC [] 11 2052 [.ref 0, .int a1] zM0 (some (.int v), M1) ∧ ZC [] 11 2308 [.ref 386, .int a1] M1 (some (.int v), M2) ∧ zSh M1 ∧ zSh M2 := by
  refine zp_of ?_
  refine ZV.of (ini := false) rfl (Nat.le_of_ble_eq_true rfl) (by decide +kernel) ?_
  show ZW _ 10 8 false (some .boolean) cX8_end _ (0, [some (.ref 0), some (.int a1)], [], zM0)
  refine w_lo dX8_end_0 rfl rfl rfl rfl ?_
  rcases zcut a1.toInt (0) with h1 | h1
  · skip
    refine w_ilt_t dX8_end_1 (t := 12) rfl (by omega) ?_
    refine w_lo dX8_end_12 rfl rfl rfl rfl ?_
    refine w_ic dX8_end_13 zi_0 ?_
    refine w_iv dX8_end_14 rfl rfl (As := [.int 0]) rfl rfl zU_0.1 rfl (Nat.le_of_ble_eq_true rfl) ?_
    refine ZV.of (ini := false) rfl (Nat.le_of_ble_eq_true rfl) (by decide +kernel) ?_
    show ZW _ 9 8 false none cX8_refuse _ (0, [some (.ref 0), some (.int 0)], [], zM0)
    refine w_lo dX8_refuse_0 rfl rfl rfl rfl ?_
    refine w_ilt_f dX8_refuse_1 (t := 20) rfl (by decide) ?_
    refine w_lo dX8_refuse_4 rfl rfl rfl rfl ?_
    refine w_bi dX8_refuse_5 (c := 6) (by decide) ?_
    refine w_cge_f dX8_refuse_7 (t := 20) rfl (by decide) ?_
    refine w_lo dX8_refuse_10 rfl rfl rfl rfl ?_
    refine w_gf dX8_refuse_11 rfl zU_0.1 rfl ((zU_0).2 0 14 rfl |>.trans zq_0_14) ?_
    refine w_lo dX8_refuse_14 rfl rfl rfl rfl ?_
    refine w_pu dX8_refuse_15 rfl rfl ?_
    refine w_ia dX8_refuse_16 zU_0.1 rfl (k := 0) zt_0 ((zU_0).2 385 0 rfl |>.trans zq_385_0) ?_
    refine w_ic dX8_refuse_17 zi_1 ?_
    refine w_pu (st' := [.int 1, .int 0, .ref 385]) dX8_refuse_18 rfl rfl ?_
    refine w_is dX8_refuse_19 zU_0 rfl (k := 0) zt_0 (Nat.le_of_ble_eq_true rfl) ?_
    intro M2 hU3 hv4 hn5
    refine w_en dX8_refuse_20 rfl ?_
    show ZW _ 10 8 false (some .boolean) cX8_end _ (17, [some (.ref 0), some (.int a1)], [], M2)
    refine w_ic dX8_end_17 zi_0 ?_
    refine w_en dX8_end_18 rfl ?_
    refine ⟨_, rfl, ?_⟩
    refine ZV.of (ini := false) rfl (Nat.le_of_ble_eq_true rfl) (by decide +kernel) ?_
    show ZW _ 10 9 false (some .boolean) cX9_end _ (0, [some (.ref 386), some (.int a1)], [], M2)
    refine w_lo dX9_end_0 rfl rfl rfl rfl ?_
    refine w_ilt_t dX9_end_1 (t := 12) rfl (by omega) ?_
    refine w_lo dX9_end_12 rfl rfl rfl rfl ?_
    refine w_ic dX9_end_13 zi_0 ?_
    refine w_iv dX9_end_14 rfl rfl (As := [.int 0]) rfl rfl hU3.1 rfl (Nat.le_of_ble_eq_true rfl) ?_
    refine ZV.of (ini := false) rfl (Nat.le_of_ble_eq_true rfl) (by decide +kernel) ?_
    show ZW _ 9 9 false (some .int) cX9_refuses _ (0, [some (.ref 386), some (.int 0)], [], M2)
    refine w_lo dX9_refuses_0 rfl rfl rfl rfl ?_
    refine w_gf dX9_refuses_1 rfl hU3.1 rfl ((hU3).2 386 46 rfl |>.trans zq_386_46) ?_
    refine w_lo dX9_refuses_4 rfl rfl rfl rfl ?_
    refine w_pu dX9_refuses_5 rfl rfl ?_
    refine w_ia dX9_refuses_6 hU3.1 rfl (k := 0) zt_0 ((hU3).2 415 0 rfl |>.trans zq_415_0) ?_
    refine w_ic dX9_refuses_7 zi_1 ?_
    refine w_pu (st' := [.int 1, .int 0, .ref 415]) dX9_refuses_8 rfl rfl ?_
    refine w_is dX9_refuses_9 hU3 rfl (k := 0) zt_0 (Nat.le_of_ble_eq_true rfl) ?_
    intro M6 hU7 hv8 hn9
    have f10 := (hn9 385 0 (by decide)).trans hv4
    refine w_ic dX9_refuses_10 zi_m1 ?_
    refine w_en dX9_refuses_11 rfl ?_
    show ZW _ 10 9 false (some .boolean) cX9_end _ (17, [some (.ref 386), some (.int a1)], [.int (-1)], M6)
    refine w_ilt_t dX9_end_17 (t := 24) rfl (by decide) ?_
    refine w_ic dX9_end_24 zi_0 ?_
    refine w_en dX9_end_25 rfl ?_
    exact ⟨rfl, hU3.1, hU7.1⟩
  · skip
    refine w_ilt_f dX8_end_1 (t := 12) rfl (by omega) ?_
    refine w_lo dX8_end_4 rfl rfl rfl rfl ?_
    refine w_lo dX8_end_5 rfl rfl rfl rfl ?_
    refine w_gf dX8_end_6 rfl zU_0.1 rfl ((zU_0).2 0 1 rfl |>.trans zq_0_1) ?_
    rcases zcut a1.toInt (1) with h11 | h11
    · skip
      have ea1 : a1 = 0 := zpt (n := 0) zt_0 (by omega)
      subst ea1
      refine w_cle_t dX8_end_9 (t := 19) rfl (by decide) ?_
      refine w_lo dX8_end_19 rfl rfl rfl rfl ?_
      refine w_lo dX8_end_20 rfl rfl rfl rfl ?_
      refine w_pf dX8_end_21 rfl zU_0 rfl (Nat.le_of_ble_eq_true rfl) rfl rfl rfl ?_
      intro M12 hU13 hv14 hn15
      refine w_ic dX8_end_24 zi_1 ?_
      refine w_en dX8_end_25 rfl ?_
      refine ⟨_, rfl, ?_⟩
      refine ZV.of (ini := false) rfl (Nat.le_of_ble_eq_true rfl) (by decide +kernel) ?_
      show ZW _ 10 9 false (some .boolean) cX9_end _ (0, [some (.ref 386), some (.int 0)], [], M12)
      refine w_lo dX9_end_0 rfl rfl rfl rfl ?_
      refine w_ilt_f dX9_end_1 (t := 12) rfl (by decide) ?_
      refine w_lo dX9_end_4 rfl rfl rfl rfl ?_
      refine w_lo dX9_end_5 rfl rfl rfl rfl ?_
      refine w_gf dX9_end_6 rfl hU13.1 rfl ((hU13).2 386 1 rfl |>.trans zq_386_1) ?_
      refine w_cle_t dX9_end_9 (t := 26) rfl (by decide) ?_
      refine w_lo dX9_end_26 rfl rfl rfl rfl ?_
      refine w_lo dX9_end_27 rfl rfl rfl rfl ?_
      refine w_pf dX9_end_28 rfl hU13 rfl (Nat.le_of_ble_eq_true rfl) rfl rfl rfl ?_
      intro M16 hU17 hv18 hn19
      have f20 := (hn19 0 1 (by decide)).trans hv14
      refine w_ic dX9_end_31 zi_1 ?_
      refine w_en dX9_end_32 rfl ?_
      exact ⟨rfl, hU13.1, hU17.1⟩
    · skip
      refine w_cle_f dX8_end_9 (t := 19) rfl (by have := zt_0; omega) ?_
      refine w_lo dX8_end_12 rfl rfl rfl rfl ?_
      refine w_ic dX8_end_13 zi_0 ?_
      refine w_iv dX8_end_14 rfl rfl (As := [.int 0]) rfl rfl zU_0.1 rfl (Nat.le_of_ble_eq_true rfl) ?_
      refine ZV.of (ini := false) rfl (Nat.le_of_ble_eq_true rfl) (by decide +kernel) ?_
      show ZW _ 9 8 false none cX8_refuse _ (0, [some (.ref 0), some (.int 0)], [], zM0)
      refine w_lo dX8_refuse_0 rfl rfl rfl rfl ?_
      refine w_ilt_f dX8_refuse_1 (t := 20) rfl (by decide) ?_
      refine w_lo dX8_refuse_4 rfl rfl rfl rfl ?_
      refine w_bi dX8_refuse_5 (c := 6) (by decide) ?_
      refine w_cge_f dX8_refuse_7 (t := 20) rfl (by decide) ?_
      refine w_lo dX8_refuse_10 rfl rfl rfl rfl ?_
      refine w_gf dX8_refuse_11 rfl zU_0.1 rfl ((zU_0).2 0 14 rfl |>.trans zq_0_14) ?_
      refine w_lo dX8_refuse_14 rfl rfl rfl rfl ?_
      refine w_pu dX8_refuse_15 rfl rfl ?_
      refine w_ia dX8_refuse_16 zU_0.1 rfl (k := 0) zt_0 ((zU_0).2 385 0 rfl |>.trans zq_385_0) ?_
      refine w_ic dX8_refuse_17 zi_1 ?_
      refine w_pu (st' := [.int 1, .int 0, .ref 385]) dX8_refuse_18 rfl rfl ?_
      refine w_is dX8_refuse_19 zU_0 rfl (k := 0) zt_0 (Nat.le_of_ble_eq_true rfl) ?_
      intro M21 hU22 hv23 hn24
      refine w_en dX8_refuse_20 rfl ?_
      show ZW _ 10 8 false (some .boolean) cX8_end _ (17, [some (.ref 0), some (.int a1)], [], M21)
      refine w_ic dX8_end_17 zi_0 ?_
      refine w_en dX8_end_18 rfl ?_
      refine ⟨_, rfl, ?_⟩
      refine ZV.of (ini := false) rfl (Nat.le_of_ble_eq_true rfl) (by decide +kernel) ?_
      show ZW _ 10 9 false (some .boolean) cX9_end _ (0, [some (.ref 386), some (.int a1)], [], M21)
      refine w_lo dX9_end_0 rfl rfl rfl rfl ?_
      refine w_ilt_f dX9_end_1 (t := 12) rfl (by omega) ?_
      refine w_lo dX9_end_4 rfl rfl rfl rfl ?_
      refine w_lo dX9_end_5 rfl rfl rfl rfl ?_
      refine w_gf dX9_end_6 rfl hU22.1 rfl ((hU22).2 386 1 rfl |>.trans zq_386_1) ?_
      refine w_cle_f dX9_end_9 (t := 26) rfl (by have := zt_0; omega) ?_
      refine w_lo dX9_end_12 rfl rfl rfl rfl ?_
      refine w_ic dX9_end_13 zi_0 ?_
      refine w_iv dX9_end_14 rfl rfl (As := [.int 0]) rfl rfl hU22.1 rfl (Nat.le_of_ble_eq_true rfl) ?_
      refine ZV.of (ini := false) rfl (Nat.le_of_ble_eq_true rfl) (by decide +kernel) ?_
      show ZW _ 9 9 false (some .int) cX9_refuses _ (0, [some (.ref 386), some (.int 0)], [], M21)
      refine w_lo dX9_refuses_0 rfl rfl rfl rfl ?_
      refine w_gf dX9_refuses_1 rfl hU22.1 rfl ((hU22).2 386 46 rfl |>.trans zq_386_46) ?_
      refine w_lo dX9_refuses_4 rfl rfl rfl rfl ?_
      refine w_pu dX9_refuses_5 rfl rfl ?_
      refine w_ia dX9_refuses_6 hU22.1 rfl (k := 0) zt_0 ((hU22).2 415 0 rfl |>.trans zq_415_0) ?_
      refine w_ic dX9_refuses_7 zi_1 ?_
      refine w_pu (st' := [.int 1, .int 0, .ref 415]) dX9_refuses_8 rfl rfl ?_
      refine w_is dX9_refuses_9 hU22 rfl (k := 0) zt_0 (Nat.le_of_ble_eq_true rfl) ?_
      intro M25 hU26 hv27 hn28
      have f29 := (hn28 385 0 (by decide)).trans hv23
      refine w_ic dX9_refuses_10 zi_m1 ?_
      refine w_en dX9_refuses_11 rfl ?_
      show ZW _ 10 9 false (some .boolean) cX9_end _ (17, [some (.ref 386), some (.int a1)], [.int (-1)], M25)
      refine w_ilt_t dX9_end_17 (t := 24) rfl (by decide) ?_
      refine w_ic dX9_end_24 zi_0 ?_
      refine w_en dX9_end_25 rfl ?_
      exact ⟨rfl, hU22.1, hU26.1⟩
theorem zp_3 (a1 : Int32) : ∃ (v : Int32) (M1 M2 : zM), ZC [] 11 2054 [.ref 0, .int a1] zM0 (some (.int v), M1) ∧ ZC [] 11 2343 [.ref 386, .int a1] M1 (some (.int v), M2) ∧ zSh M1 ∧ zSh M2 := by
  refine zp_of ?_
  refine ZV.of (ini := false) rfl (Nat.le_of_ble_eq_true rfl) (by decide +kernel) ?_
  show ZW _ 10 8 false (some .int) cX8_fault _ (0, [some (.ref 0), some (.int a1)], [], zM0)
  refine w_lo dX8_fault_0 rfl rfl rfl rfl ?_
  rcases zcut a1.toInt (0) with h30 | h30
  · skip
    refine w_ld dX8_fault_1 rfl (t := 44) (List.forall_mem_cons.mpr ⟨by show (0 : Int) ≠ _; omega, List.forall_mem_cons.mpr ⟨by show (1 : Int) ≠ _; omega, fun _ h => absurd h List.not_mem_nil⟩⟩) rfl ?_
    refine w_ic dX8_fault_44 zi_m1 ?_
    refine w_en dX8_fault_45 rfl ?_
    refine ⟨_, rfl, ?_⟩
    refine ZV.of (ini := false) rfl (Nat.le_of_ble_eq_true rfl) (by decide +kernel) ?_
    show ZW _ 10 9 false (some .int) cX9_fault _ (0, [some (.ref 386), some (.int a1)], [], zM0)
    refine w_lo dX9_fault_0 rfl rfl rfl rfl ?_
    refine w_ine_t dX9_fault_1 (t := 11) rfl (by omega) ?_
    refine w_lo dX9_fault_11 rfl rfl rfl rfl ?_
    refine w_ic dX9_fault_12 zi_1 ?_
    refine w_cne_t dX9_fault_13 (t := 23) rfl (by have := zt_1; omega) ?_
    refine w_ic dX9_fault_23 zi_m1 ?_
    refine w_en dX9_fault_24 rfl ?_
    exact ⟨rfl, zU_0.1, zU_0.1⟩
  · skip
    rcases zcut a1.toInt (1) with h31 | h31
    · skip
      have ea1 : a1 = 0 := zpt (n := 0) zt_0 (by omega)
      subst ea1
      refine w_lk dX8_fault_1 rfl (t := 28) (j := 0) zt_0 (by decide) ?_
      refine w_lo dX8_fault_28 rfl rfl rfl rfl ?_
      refine w_gf dX8_fault_29 rfl zU_0.1 rfl ((zU_0).2 0 2 rfl |>.trans zq_0_2) ?_
      refine w_gf dX8_fault_32 rfl zU_0.1 rfl ((zU_0).2 2 0 rfl |>.trans zq_2_0) ?_
      refine w_en dX8_fault_35 rfl ?_
      refine ⟨_, rfl, ?_⟩
      refine ZV.of (ini := false) rfl (Nat.le_of_ble_eq_true rfl) (by decide +kernel) ?_
      show ZW _ 10 9 false (some .int) cX9_fault _ (0, [some (.ref 386), some (.int 0)], [], zM0)
      refine w_lo dX9_fault_0 rfl rfl rfl rfl ?_
      refine w_ine_f dX9_fault_1 (t := 11) rfl (by decide) ?_
      refine w_lo dX9_fault_4 rfl rfl rfl rfl ?_
      refine w_gf dX9_fault_5 rfl zU_0.1 rfl ((zU_0).2 386 10 rfl |>.trans zq_386_10) ?_
      refine w_gt dX9_fault_8 (t := 24) rfl ?_
      refine w_en dX9_fault_24 rfl ?_
      exact ⟨rfl, zU_0.1, zU_0.1⟩
    · skip
      rcases zcut a1.toInt (2) with h32 | h32
      · skip
        have ea1 : a1 = 1 := zpt (n := 1) zt_1 (by omega)
        subst ea1
        refine w_lk dX8_fault_1 rfl (t := 36) (j := 1) zt_1 (by decide) ?_
        refine w_lo dX8_fault_36 rfl rfl rfl rfl ?_
        refine w_gf dX8_fault_37 rfl zU_0.1 rfl ((zU_0).2 0 2 rfl |>.trans zq_0_2) ?_
        refine w_gf dX8_fault_40 rfl zU_0.1 rfl ((zU_0).2 2 1 rfl |>.trans zq_2_1) ?_
        refine w_en dX8_fault_43 rfl ?_
        refine ⟨_, rfl, ?_⟩
        refine ZV.of (ini := false) rfl (Nat.le_of_ble_eq_true rfl) (by decide +kernel) ?_
        show ZW _ 10 9 false (some .int) cX9_fault _ (0, [some (.ref 386), some (.int 1)], [], zM0)
        refine w_lo dX9_fault_0 rfl rfl rfl rfl ?_
        refine w_ine_t dX9_fault_1 (t := 11) rfl (by decide) ?_
        refine w_lo dX9_fault_11 rfl rfl rfl rfl ?_
        refine w_ic dX9_fault_12 zi_1 ?_
        refine w_cne_f dX9_fault_13 (t := 23) rfl (by decide) ?_
        refine w_lo dX9_fault_16 rfl rfl rfl rfl ?_
        refine w_gf dX9_fault_17 rfl zU_0.1 rfl ((zU_0).2 386 11 rfl |>.trans zq_386_11) ?_
        refine w_gt dX9_fault_20 (t := 24) rfl ?_
        refine w_en dX9_fault_24 rfl ?_
        exact ⟨rfl, zU_0.1, zU_0.1⟩
      · skip
        refine w_ld dX8_fault_1 rfl (t := 44) (List.forall_mem_cons.mpr ⟨by show (0 : Int) ≠ _; omega, List.forall_mem_cons.mpr ⟨by show (1 : Int) ≠ _; omega, fun _ h => absurd h List.not_mem_nil⟩⟩) rfl ?_
        refine w_ic dX8_fault_44 zi_m1 ?_
        refine w_en dX8_fault_45 rfl ?_
        refine ⟨_, rfl, ?_⟩
        refine ZV.of (ini := false) rfl (Nat.le_of_ble_eq_true rfl) (by decide +kernel) ?_
        show ZW _ 10 9 false (some .int) cX9_fault _ (0, [some (.ref 386), some (.int a1)], [], zM0)
        refine w_lo dX9_fault_0 rfl rfl rfl rfl ?_
        refine w_ine_t dX9_fault_1 (t := 11) rfl (by omega) ?_
        refine w_lo dX9_fault_11 rfl rfl rfl rfl ?_
        refine w_ic dX9_fault_12 zi_1 ?_
        refine w_cne_t dX9_fault_13 (t := 23) rfl (by have := zt_1; omega) ?_
        refine w_ic dX9_fault_23 zi_m1 ?_
        refine w_en dX9_fault_24 rfl ?_
        exact ⟨rfl, zU_0.1, zU_0.1⟩
theorem zp_4 (a1 : Int32) : ∃ (v : Int32) (M1 M2 : zM), ZC [] 11 2055 [.ref 0, .int a1] zM0 (some (.int v), M1) ∧ ZC [] 11 2348 [.ref 386, .int a1] M1 (some (.int v), M2) ∧ zSh M1 ∧ zSh M2 := by
  refine zp_of ?_
  refine ZV.of (ini := false) rfl (Nat.le_of_ble_eq_true rfl) (by decide +kernel) ?_
  show ZW _ 10 8 false (some .int) cX8_has _ (0, [some (.ref 0), some (.int a1)], [], zM0)
  refine w_lo dX8_has_0 rfl rfl rfl rfl ?_
  rcases zcut a1.toInt (0) with h33 | h33
  · skip
    refine w_td dX8_has_1 (t := 168) (by omega) rfl ?_
    refine w_ic dX8_has_168 zi_m1 ?_
    refine w_en dX8_has_169 rfl ?_
    refine ⟨_, rfl, ?_⟩
    refine ZV.of (ini := false) rfl (Nat.le_of_ble_eq_true rfl) (by decide +kernel) ?_
    show ZW _ 10 9 false (some .int) cX9_has _ (0, [some (.ref 386), some (.int a1), none, none], [], zM0)
    refine w_ic dX9_has_0 zi_0 ?_
    refine w_lo dX9_has_1 rfl rfl rfl rfl ?_
    refine w_lo dX9_has_2 rfl rfl rfl rfl ?_
    refine w_td dX9_has_3 (t := 247) (by omega) rfl ?_
    refine w_ic dX9_has_247 zi_m1 ?_
    refine w_en dX9_has_248 rfl ?_
    exact ⟨rfl, zU_0.1, zU_0.1⟩
  · skip
    rcases zcut a1.toInt (1) with h34 | h34
    · skip
      have ea1 : a1 = 0 := zpt (n := 0) zt_0 (by omega)
      subst ea1
      refine w_ts dX8_has_1 (t := 64) (j := 0) zt_0 (by decide) ?_
      refine w_lo dX8_has_64 rfl rfl rfl rfl ?_
      refine w_gf dX8_has_65 rfl zU_0.1 rfl ((zU_0).2 0 3 rfl |>.trans zq_0_3) ?_
      refine w_gf dX8_has_68 rfl zU_0.1 rfl ((zU_0).2 28 1 rfl |>.trans zq_28_1) ?_
      refine w_en dX8_has_71 rfl ?_
      refine ⟨_, rfl, ?_⟩
      refine ZV.of (ini := false) rfl (Nat.le_of_ble_eq_true rfl) (by decide +kernel) ?_
      show ZW _ 10 9 false (some .int) cX9_has _ (0, [some (.ref 386), some (.int 0), none, none], [], zM0)
      refine w_ic dX9_has_0 zi_0 ?_
      refine w_lo dX9_has_1 rfl rfl rfl rfl ?_
      refine w_lo dX9_has_2 rfl rfl rfl rfl ?_
      refine w_ts dX9_has_3 (t := 64) (j := 0) zt_0 (by decide) ?_
      refine w_lo dX9_has_64 rfl rfl rfl rfl ?_
      refine w_iv dX9_has_65 rfl rfl (As := []) rfl rfl zU_0.1 rfl (Nat.le_of_ble_eq_true rfl) ?_
      refine ZV.of (ini := false) rfl (Nat.le_of_ble_eq_true rfl) (by decide +kernel) ?_
      show ZW _ 9 9 false (some .int) cX9_many _ (0, [some (.ref 386)], [], zM0)
      refine w_lo dX9_many_0 rfl rfl rfl rfl ?_
      refine w_gf dX9_many_1 rfl zU_0.1 rfl ((zU_0).2 386 13 rfl |>.trans zq_386_13) ?_
      refine w_lo dX9_many_4 rfl rfl rfl rfl ?_
      refine w_gf dX9_many_5 rfl zU_0.1 rfl ((zU_0).2 386 12 rfl |>.trans zq_386_12) ?_
      refine w_ia dX9_many_8 zU_0.1 rfl (k := 0) zt_0 ((zU_0).2 388 0 rfl |>.trans zq_388_0) ?_
      refine w_en dX9_many_9 rfl ?_
      show ZW _ 10 9 false (some .int) cX9_has _ (68, [some (.ref 386), some (.int 0), some (.int 0), none], [.int 0], zM0)
      refine w_en dX9_has_68 rfl ?_
      exact ⟨rfl, zU_0.1, zU_0.1⟩
    · skip
      rcases zcut a1.toInt (2) with h35 | h35
      · skip
        have ea1 : a1 = 1 := zpt (n := 1) zt_1 (by omega)
        subst ea1
        refine w_ts dX8_has_1 (t := 72) (j := 1) zt_1 (by decide) ?_
        refine w_lo dX8_has_72 rfl rfl rfl rfl ?_
        refine w_gf dX8_has_73 rfl zU_0.1 rfl ((zU_0).2 0 3 rfl |>.trans zq_0_3) ?_
        refine w_gf dX8_has_76 rfl zU_0.1 rfl ((zU_0).2 28 2 rfl |>.trans zq_28_2) ?_
        refine w_en dX8_has_79 rfl ?_
        refine ⟨_, rfl, ?_⟩
        refine ZV.of (ini := false) rfl (Nat.le_of_ble_eq_true rfl) (by decide +kernel) ?_
        show ZW _ 10 9 false (some .int) cX9_has _ (0, [some (.ref 386), some (.int 1), none, none], [], zM0)
        refine w_ic dX9_has_0 zi_0 ?_
        refine w_lo dX9_has_1 rfl rfl rfl rfl ?_
        refine w_lo dX9_has_2 rfl rfl rfl rfl ?_
        refine w_ts dX9_has_3 (t := 69) (j := 1) zt_1 (by decide) ?_
        refine w_lo dX9_has_69 rfl rfl rfl rfl ?_
        refine w_gf dX9_has_70 rfl zU_0.1 rfl ((zU_0).2 386 21 rfl |>.trans zq_386_21) ?_
        refine w_lo dX9_has_73 rfl rfl rfl rfl ?_
        refine w_gf dX9_has_74 rfl zU_0.1 rfl ((zU_0).2 386 12 rfl |>.trans zq_386_12) ?_
        refine w_ia dX9_has_77 zU_0.1 rfl (k := 0) zt_0 ((zU_0).2 396 0 rfl |>.trans zq_396_0) ?_
        refine w_en dX9_has_78 rfl ?_
        exact ⟨rfl, zU_0.1, zU_0.1⟩
      · skip
        rcases zcut a1.toInt (3) with h36 | h36
        · skip
          have ea1 : a1 = 2 := zpt (n := 2) zt_2 (by omega)
          subst ea1
          refine w_ts dX8_has_1 (t := 80) (j := 2) zt_2 (by decide) ?_
          refine w_lo dX8_has_80 rfl rfl rfl rfl ?_
          refine w_gf dX8_has_81 rfl zU_0.1 rfl ((zU_0).2 0 3 rfl |>.trans zq_0_3) ?_
          refine w_gf dX8_has_84 rfl zU_0.1 rfl ((zU_0).2 28 15 rfl |>.trans zq_28_15) ?_
          refine w_gf dX8_has_87 rfl zU_0.1 rfl ((zU_0).2 41 0 rfl |>.trans zq_41_0) ?_
          refine w_en dX8_has_90 rfl ?_
          refine ⟨_, rfl, ?_⟩
          refine ZV.of (ini := false) rfl (Nat.le_of_ble_eq_true rfl) (by decide +kernel) ?_
          show ZW _ 10 9 false (some .int) cX9_has _ (0, [some (.ref 386), some (.int 2), none, none], [], zM0)
          refine w_ic dX9_has_0 zi_0 ?_
          refine w_lo dX9_has_1 rfl rfl rfl rfl ?_
          refine w_lo dX9_has_2 rfl rfl rfl rfl ?_
          refine w_ts dX9_has_3 (t := 79) (j := 2) zt_2 (by decide) ?_
          refine w_lo dX9_has_79 rfl rfl rfl rfl ?_
          refine w_gf dX9_has_80 rfl zU_0.1 rfl ((zU_0).2 386 27 rfl |>.trans zq_386_27) ?_
          refine w_lo dX9_has_83 rfl rfl rfl rfl ?_
          refine w_gf dX9_has_84 rfl zU_0.1 rfl ((zU_0).2 386 12 rfl |>.trans zq_386_12) ?_
          refine w_ia dX9_has_87 zU_0.1 rfl (k := 0) zt_0 ((zU_0).2 402 0 rfl |>.trans zq_402_0) ?_
          refine w_en dX9_has_88 rfl ?_
          exact ⟨rfl, zU_0.1, zU_0.1⟩
        · skip
          rcases zcut a1.toInt (4) with h37 | h37
          · skip
            have ea1 : a1 = 3 := zpt (n := 3) zt_3 (by omega)
            subst ea1
            refine w_ts dX8_has_1 (t := 91) (j := 3) zt_3 (by decide) ?_
            refine w_lo dX8_has_91 rfl rfl rfl rfl ?_
            refine w_iv dX8_has_92 rfl rfl (As := []) rfl rfl zU_0.1 rfl (Nat.le_of_ble_eq_true rfl) ?_
            refine ZV.of (ini := false) rfl (Nat.le_of_ble_eq_true rfl) (by decide +kernel) ?_
            show ZW _ 9 8 false (some .int) cX8_tiedKnots _ (0, [some (.ref 0), none, none], [], zM0)
            refine w_ic dX8_tiedKnots_0 zi_0 ?_
            refine w_lo dX8_tiedKnots_1 rfl rfl rfl rfl ?_
            refine w_ic dX8_tiedKnots_2 zi_0 ?_
            refine w_lo dX8_tiedKnots_3 rfl rfl rfl rfl ?_
            refine w_lo dX8_tiedKnots_4 rfl rfl rfl rfl ?_
            refine w_lo dX8_tiedKnots_5 rfl rfl rfl rfl ?_
            refine w_gf dX8_tiedKnots_6 rfl zU_0.1 rfl ((zU_0).2 0 4 rfl |>.trans zq_0_4) ?_
            refine w_gf dX8_tiedKnots_9 rfl zU_0.1 rfl ((zU_0).2 49 0 rfl |>.trans zq_49_0) ?_
            refine w_ic dX8_tiedKnots_12 zi_1 ?_
            refine w_pu (st' := [.int (-1), .int 0]) dX8_tiedKnots_13 rfl rfl ?_
            refine w_cge_t dX8_tiedKnots_14 (t := 43) rfl (by decide) ?_
            refine w_lo dX8_tiedKnots_43 rfl rfl rfl rfl ?_
            refine w_en dX8_tiedKnots_44 rfl ?_
            show ZW _ 10 8 false (some .int) cX8_has _ (95, [some (.ref 0), some (.int 3)], [.int 0], zM0)
            refine w_en dX8_has_95 rfl ?_
            refine ⟨_, rfl, ?_⟩
            refine ZV.of (ini := false) rfl (Nat.le_of_ble_eq_true rfl) (by decide +kernel) ?_
            show ZW _ 10 9 false (some .int) cX9_has _ (0, [some (.ref 386), some (.int 3), none, none], [], zM0)
            refine w_ic dX9_has_0 zi_0 ?_
            refine w_lo dX9_has_1 rfl rfl rfl rfl ?_
            refine w_lo dX9_has_2 rfl rfl rfl rfl ?_
            refine w_ts dX9_has_3 (t := 89) (j := 3) zt_3 (by decide) ?_
            refine w_ic dX9_has_89 zi_0 ?_
            refine w_lo dX9_has_90 rfl rfl rfl rfl ?_
            refine w_lo dX9_has_91 rfl rfl rfl rfl ?_
            refine w_lo dX9_has_92 rfl rfl rfl rfl ?_
            refine w_iv dX9_has_93 rfl rfl (As := []) rfl rfl zU_0.1 rfl (Nat.le_of_ble_eq_true rfl) ?_
            refine ZV.of (ini := false) rfl (Nat.le_of_ble_eq_true rfl) (by decide +kernel) ?_
            show ZW _ 9 9 false (some .int) cX9_many _ (0, [some (.ref 386)], [], zM0)
            refine w_lo dX9_many_0 rfl rfl rfl rfl ?_
            refine w_gf dX9_many_1 rfl zU_0.1 rfl ((zU_0).2 386 13 rfl |>.trans zq_386_13) ?_
            refine w_lo dX9_many_4 rfl rfl rfl rfl ?_
            refine w_gf dX9_many_5 rfl zU_0.1 rfl ((zU_0).2 386 12 rfl |>.trans zq_386_12) ?_
            refine w_ia dX9_many_8 zU_0.1 rfl (k := 0) zt_0 ((zU_0).2 388 0 rfl |>.trans zq_388_0) ?_
            refine w_en dX9_many_9 rfl ?_
            show ZW _ 10 9 false (some .int) cX9_has _ (96, [some (.ref 386), some (.int 3), some (.int 0), some (.int 0)], [.int 0, .int 0], zM0)
            refine w_ic dX9_has_96 zi_1 ?_
            refine w_pu (st' := [.int (-1), .int 0]) dX9_has_97 rfl rfl ?_
            refine w_cge_t dX9_has_98 (t := 116) rfl (by decide) ?_
            refine w_lo dX9_has_116 rfl rfl rfl rfl ?_
            refine w_en dX9_has_117 rfl ?_
            exact ⟨rfl, zU_0.1, zU_0.1⟩
          · skip
            rcases zcut a1.toInt (5) with h38 | h38
            · skip
              have ea1 : a1 = 4 := zpt (n := 4) zt_4 (by omega)
              subst ea1
              refine w_ts dX8_has_1 (t := 96) (j := 4) zt_4 (by decide) ?_
              refine w_lo dX8_has_96 rfl rfl rfl rfl ?_
              refine w_gf dX8_has_97 rfl zU_0.1 rfl ((zU_0).2 0 4 rfl |>.trans zq_0_4) ?_
              refine w_gf dX8_has_100 rfl zU_0.1 rfl ((zU_0).2 49 1 rfl |>.trans zq_49_1) ?_
              refine w_en dX8_has_103 rfl ?_
              refine ⟨_, rfl, ?_⟩
              refine ZV.of (ini := false) rfl (Nat.le_of_ble_eq_true rfl) (by decide +kernel) ?_
              show ZW _ 10 9 false (some .int) cX9_has _ (0, [some (.ref 386), some (.int 4), none, none], [], zM0)
              refine w_ic dX9_has_0 zi_0 ?_
              refine w_lo dX9_has_1 rfl rfl rfl rfl ?_
              refine w_lo dX9_has_2 rfl rfl rfl rfl ?_
              refine w_ts dX9_has_3 (t := 118) (j := 4) zt_4 (by decide) ?_
              refine w_lo dX9_has_118 rfl rfl rfl rfl ?_
              refine w_gf dX9_has_119 rfl zU_0.1 rfl ((zU_0).2 386 49 rfl |>.trans zq_386_49) ?_
              refine w_ic dX9_has_122 zi_0 ?_
              refine w_ia dX9_has_123 zU_0.1 rfl (k := 0) zt_0 ((zU_0).2 418 0 rfl |>.trans zq_418_0) ?_
              refine w_en dX9_has_124 rfl ?_
              exact ⟨rfl, zU_0.1, zU_0.1⟩
            · skip
              rcases zcut a1.toInt (6) with h39 | h39
              · skip
                have ea1 : a1 = 5 := zpt (n := 5) zt_5 (by omega)
                subst ea1
                refine w_ts dX8_has_1 (t := 104) (j := 5) zt_5 (by decide) ?_
                refine w_lo dX8_has_104 rfl rfl rfl rfl ?_
                refine w_gf dX8_has_105 rfl zU_0.1 rfl ((zU_0).2 0 4 rfl |>.trans zq_0_4) ?_
                refine w_gf dX8_has_108 rfl zU_0.1 rfl ((zU_0).2 49 0 rfl |>.trans zq_49_0) ?_
                refine w_lo dX8_has_111 rfl rfl rfl rfl ?_
                refine w_gf dX8_has_112 rfl zU_0.1 rfl ((zU_0).2 0 4 rfl |>.trans zq_0_4) ?_
                refine w_iv dX8_has_115 rfl rfl (As := []) rfl rfl zU_0.1 rfl (Nat.le_of_ble_eq_true rfl) ?_
                refine ZV.of (ini := false) rfl (Nat.le_of_ble_eq_true rfl) (by decide +kernel) ?_
                show ZW _ 9 6 false (some .int) cX6_awake _ (0, [some (.ref 49), none, none], [], zM0)
                refine w_ic dX6_awake_0 zi_0 ?_
                refine w_lo dX6_awake_1 rfl rfl rfl rfl ?_
                refine w_ic dX6_awake_2 zi_0 ?_
                refine w_lo dX6_awake_3 rfl rfl rfl rfl ?_
                refine w_lo dX6_awake_4 rfl rfl rfl rfl ?_
                refine w_lo dX6_awake_5 rfl rfl rfl rfl ?_
                refine w_gf dX6_awake_6 rfl zU_0.1 rfl ((zU_0).2 49 0 rfl |>.trans zq_49_0) ?_
                refine w_cge_t dX6_awake_9 (t := 35) rfl (by decide) ?_
                refine w_lo dX6_awake_35 rfl rfl rfl rfl ?_
                refine w_en dX6_awake_36 rfl ?_
                show ZW _ 10 8 false (some .int) cX8_has _ (118, [some (.ref 0), some (.int 5)], [.int 0, .int 0], zM0)
                refine w_pu (st' := [.int 0]) dX8_has_118 rfl rfl ?_
                refine w_en dX8_has_119 rfl ?_
                refine ⟨_, rfl, ?_⟩
                refine ZV.of (ini := false) rfl (Nat.le_of_ble_eq_true rfl) (by decide +kernel) ?_
                show ZW _ 10 9 false (some .int) cX9_has _ (0, [some (.ref 386), some (.int 5), none, none], [], zM0)
                refine w_ic dX9_has_0 zi_0 ?_
                refine w_lo dX9_has_1 rfl rfl rfl rfl ?_
                refine w_lo dX9_has_2 rfl rfl rfl rfl ?_
                refine w_ts dX9_has_3 (t := 125) (j := 5) zt_5 (by decide) ?_
                refine w_ic dX9_has_125 zi_0 ?_
                refine w_lo dX9_has_126 rfl rfl rfl rfl ?_
                refine w_lo dX9_has_127 rfl rfl rfl rfl ?_
                refine w_lo dX9_has_128 rfl rfl rfl rfl ?_
                refine w_iv dX9_has_129 rfl rfl (As := []) rfl rfl zU_0.1 rfl (Nat.le_of_ble_eq_true rfl) ?_
                refine ZV.of (ini := false) rfl (Nat.le_of_ble_eq_true rfl) (by decide +kernel) ?_
                show ZW _ 9 9 false (some .int) cX9_many _ (0, [some (.ref 386)], [], zM0)
                refine w_lo dX9_many_0 rfl rfl rfl rfl ?_
                refine w_gf dX9_many_1 rfl zU_0.1 rfl ((zU_0).2 386 13 rfl |>.trans zq_386_13) ?_
                refine w_lo dX9_many_4 rfl rfl rfl rfl ?_
                refine w_gf dX9_many_5 rfl zU_0.1 rfl ((zU_0).2 386 12 rfl |>.trans zq_386_12) ?_
                refine w_ia dX9_many_8 zU_0.1 rfl (k := 0) zt_0 ((zU_0).2 388 0 rfl |>.trans zq_388_0) ?_
                refine w_en dX9_many_9 rfl ?_
                show ZW _ 10 9 false (some .int) cX9_has _ (132, [some (.ref 386), some (.int 5), some (.int 0), some (.int 0)], [.int 0, .int 0], zM0)
                refine w_cge_t dX9_has_132 (t := 150) rfl (by decide) ?_
                refine w_lo dX9_has_150 rfl rfl rfl rfl ?_
                refine w_en dX9_has_151 rfl ?_
                exact ⟨rfl, zU_0.1, zU_0.1⟩
              · skip
                rcases zcut a1.toInt (7) with h40 | h40
                · skip
                  have ea1 : a1 = 6 := zpt (n := 6) zt_6 (by omega)
                  subst ea1
                  refine w_ts dX8_has_1 (t := 120) (j := 6) zt_6 (by decide) ?_
                  refine w_lo dX8_has_120 rfl rfl rfl rfl ?_
                  refine w_ic dX8_has_121 zi_m1 ?_
                  refine w_iv dX8_has_122 rfl rfl (As := [.int (-1)]) rfl rfl zU_0.1 rfl (Nat.le_of_ble_eq_true rfl) ?_
                  refine ZV.of (ini := false) rfl (Nat.le_of_ble_eq_true rfl) (by decide +kernel) ?_
                  show ZW _ 9 8 false (some .int) cX8_dreamers _ (0, [some (.ref 0), some (.int (-1)), none, none, none], [], zM0)
                  refine w_ic dX8_dreamers_0 zi_0 ?_
                  refine w_lo dX8_dreamers_1 rfl rfl rfl rfl ?_
                  refine w_ic dX8_dreamers_2 zi_0 ?_
                  refine w_lo dX8_dreamers_3 rfl rfl rfl rfl ?_
                  refine w_lo dX8_dreamers_4 rfl rfl rfl rfl ?_
                  refine w_lo dX8_dreamers_5 rfl rfl rfl rfl ?_
                  refine w_gf dX8_dreamers_6 rfl zU_0.1 rfl ((zU_0).2 0 3 rfl |>.trans zq_0_3) ?_
                  refine w_gf dX8_dreamers_9 rfl zU_0.1 rfl ((zU_0).2 28 1 rfl |>.trans zq_28_1) ?_
                  refine w_cge_t dX8_dreamers_12 (t := 57) rfl (by decide) ?_
                  refine w_lo dX8_dreamers_57 rfl rfl rfl rfl ?_
                  refine w_en dX8_dreamers_58 rfl ?_
                  show ZW _ 10 8 false (some .int) cX8_has _ (125, [some (.ref 0), some (.int 6)], [.int 0], zM0)
                  refine w_en dX8_has_125 rfl ?_
                  refine ⟨_, rfl, ?_⟩
                  refine ZV.of (ini := false) rfl (Nat.le_of_ble_eq_true rfl) (by decide +kernel) ?_
                  show ZW _ 10 9 false (some .int) cX9_has _ (0, [some (.ref 386), some (.int 6), none, none], [], zM0)
                  refine w_ic dX9_has_0 zi_0 ?_
                  refine w_lo dX9_has_1 rfl rfl rfl rfl ?_
                  refine w_lo dX9_has_2 rfl rfl rfl rfl ?_
                  refine w_ts dX9_has_3 (t := 152) (j := 6) zt_6 (by decide) ?_
                  refine w_ic dX9_has_152 zi_0 ?_
                  refine w_lo dX9_has_153 rfl rfl rfl rfl ?_
                  refine w_lo dX9_has_154 rfl rfl rfl rfl ?_
                  refine w_lo dX9_has_155 rfl rfl rfl rfl ?_
                  refine w_iv dX9_has_156 rfl rfl (As := []) rfl rfl zU_0.1 rfl (Nat.le_of_ble_eq_true rfl) ?_
                  refine ZV.of (ini := false) rfl (Nat.le_of_ble_eq_true rfl) (by decide +kernel) ?_
                  show ZW _ 9 9 false (some .int) cX9_many _ (0, [some (.ref 386)], [], zM0)
                  refine w_lo dX9_many_0 rfl rfl rfl rfl ?_
                  refine w_gf dX9_many_1 rfl zU_0.1 rfl ((zU_0).2 386 13 rfl |>.trans zq_386_13) ?_
                  refine w_lo dX9_many_4 rfl rfl rfl rfl ?_
                  refine w_gf dX9_many_5 rfl zU_0.1 rfl ((zU_0).2 386 12 rfl |>.trans zq_386_12) ?_
                  refine w_ia dX9_many_8 zU_0.1 rfl (k := 0) zt_0 ((zU_0).2 388 0 rfl |>.trans zq_388_0) ?_
                  refine w_en dX9_many_9 rfl ?_
                  show ZW _ 10 9 false (some .int) cX9_has _ (159, [some (.ref 386), some (.int 6), some (.int 0), some (.int 0)], [.int 0, .int 0], zM0)
                  refine w_cge_t dX9_has_159 (t := 186) rfl (by decide) ?_
                  refine w_lo dX9_has_186 rfl rfl rfl rfl ?_
                  refine w_en dX9_has_187 rfl ?_
                  exact ⟨rfl, zU_0.1, zU_0.1⟩
                · skip
                  rcases zcut a1.toInt (8) with h41 | h41
                  · skip
                    have ea1 : a1 = 7 := zpt (n := 7) zt_7 (by omega)
                    subst ea1
                    refine w_ts dX8_has_1 (t := 126) (j := 7) zt_7 (by decide) ?_
                    refine w_lo dX8_has_126 rfl rfl rfl rfl ?_
                    refine w_iv dX8_has_127 rfl rfl (As := []) rfl rfl zU_0.1 rfl (Nat.le_of_ble_eq_true rfl) ?_
                    refine ZV.of (ini := false) rfl (Nat.le_of_ble_eq_true rfl) (by decide +kernel) ?_
                    show ZW _ 9 8 false (some .int) cX8_caughtOnes _ (0, [some (.ref 0), none, none], [], zM0)
                    refine w_ic dX8_caughtOnes_0 zi_0 ?_
                    refine w_lo dX8_caughtOnes_1 rfl rfl rfl rfl ?_
                    refine w_ic dX8_caughtOnes_2 zi_0 ?_
                    refine w_lo dX8_caughtOnes_3 rfl rfl rfl rfl ?_
                    refine w_lo dX8_caughtOnes_4 rfl rfl rfl rfl ?_
                    refine w_lo dX8_caughtOnes_5 rfl rfl rfl rfl ?_
                    refine w_gf dX8_caughtOnes_6 rfl zU_0.1 rfl ((zU_0).2 0 3 rfl |>.trans zq_0_3) ?_
                    refine w_gf dX8_caughtOnes_9 rfl zU_0.1 rfl ((zU_0).2 28 1 rfl |>.trans zq_28_1) ?_
                    refine w_cge_t dX8_caughtOnes_12 (t := 42) rfl (by decide) ?_
                    refine w_lo dX8_caughtOnes_42 rfl rfl rfl rfl ?_
                    refine w_en dX8_caughtOnes_43 rfl ?_
                    show ZW _ 10 8 false (some .int) cX8_has _ (130, [some (.ref 0), some (.int 7)], [.int 0], zM0)
                    refine w_en dX8_has_130 rfl ?_
                    refine ⟨_, rfl, ?_⟩
                    refine ZV.of (ini := false) rfl (Nat.le_of_ble_eq_true rfl) (by decide +kernel) ?_
                    show ZW _ 10 9 false (some .int) cX9_has _ (0, [some (.ref 386), some (.int 7), none, none], [], zM0)
                    refine w_ic dX9_has_0 zi_0 ?_
                    refine w_lo dX9_has_1 rfl rfl rfl rfl ?_
                    refine w_lo dX9_has_2 rfl rfl rfl rfl ?_
                    refine w_ts dX9_has_3 (t := 188) (j := 7) zt_7 (by decide) ?_
                    refine w_ic dX9_has_188 zi_0 ?_
                    refine w_lo dX9_has_189 rfl rfl rfl rfl ?_
                    refine w_lo dX9_has_190 rfl rfl rfl rfl ?_
                    refine w_lo dX9_has_191 rfl rfl rfl rfl ?_
                    refine w_iv dX9_has_192 rfl rfl (As := []) rfl rfl zU_0.1 rfl (Nat.le_of_ble_eq_true rfl) ?_
                    refine ZV.of (ini := false) rfl (Nat.le_of_ble_eq_true rfl) (by decide +kernel) ?_
                    show ZW _ 9 9 false (some .int) cX9_many _ (0, [some (.ref 386)], [], zM0)
                    refine w_lo dX9_many_0 rfl rfl rfl rfl ?_
                    refine w_gf dX9_many_1 rfl zU_0.1 rfl ((zU_0).2 386 13 rfl |>.trans zq_386_13) ?_
                    refine w_lo dX9_many_4 rfl rfl rfl rfl ?_
                    refine w_gf dX9_many_5 rfl zU_0.1 rfl ((zU_0).2 386 12 rfl |>.trans zq_386_12) ?_
                    refine w_ia dX9_many_8 zU_0.1 rfl (k := 0) zt_0 ((zU_0).2 388 0 rfl |>.trans zq_388_0) ?_
                    refine w_en dX9_many_9 rfl ?_
                    show ZW _ 10 9 false (some .int) cX9_has _ (195, [some (.ref 386), some (.int 7), some (.int 0), some (.int 0)], [.int 0, .int 0], zM0)
                    refine w_cge_t dX9_has_195 (t := 222) rfl (by decide) ?_
                    refine w_lo dX9_has_222 rfl rfl rfl rfl ?_
                    refine w_en dX9_has_223 rfl ?_
                    exact ⟨rfl, zU_0.1, zU_0.1⟩
                  · skip
                    rcases zcut a1.toInt (9) with h42 | h42
                    · skip
                      have ea1 : a1 = 8 := zpt (n := 8) zt_8 (by omega)
                      subst ea1
                      refine w_ts dX8_has_1 (t := 131) (j := 8) zt_8 (by decide) ?_
                      refine w_lo dX8_has_131 rfl rfl rfl rfl ?_
                      refine w_gf dX8_has_132 rfl zU_0.1 rfl ((zU_0).2 0 4 rfl |>.trans zq_0_4) ?_
                      refine w_iv dX8_has_135 rfl rfl (As := []) rfl rfl zU_0.1 rfl (Nat.le_of_ble_eq_true rfl) ?_
                      refine ZV.of (ini := false) rfl (Nat.le_of_ble_eq_true rfl) (by decide +kernel) ?_
                      show ZW _ 9 6 false (some .int) cX6_told _ (0, [some (.ref 49)], [], zM0)
                      refine w_lo dX6_told_0 rfl rfl rfl rfl ?_
                      refine w_gf dX6_told_1 rfl zU_0.1 rfl ((zU_0).2 49 14 rfl |>.trans zq_49_14) ?_
                      refine w_si dX6_told_4 (c := 200) (by decide) ?_
                      refine w_mn dX6_told_7 rfl (Nat.le_of_ble_eq_true rfl) ?_
                      show ZW _ 9 6 false (some .int) cX6_told _ (10, [some (.ref 49)], [.int 0], zM0)
                      refine w_en dX6_told_10 rfl ?_
                      show ZW _ 10 8 false (some .int) cX8_has _ (138, [some (.ref 0), some (.int 8)], [.int 0], zM0)
                      refine w_en dX8_has_138 rfl ?_
                      refine ⟨_, rfl, ?_⟩
                      refine ZV.of (ini := false) rfl (Nat.le_of_ble_eq_true rfl) (by decide +kernel) ?_
                      show ZW _ 10 9 false (some .int) cX9_has _ (0, [some (.ref 386), some (.int 8), none, none], [], zM0)
                      refine w_ic dX9_has_0 zi_0 ?_
                      refine w_lo dX9_has_1 rfl rfl rfl rfl ?_
                      refine w_lo dX9_has_2 rfl rfl rfl rfl ?_
                      refine w_ts dX9_has_3 (t := 224) (j := 8) zt_8 (by decide) ?_
                      refine w_lo dX9_has_224 rfl rfl rfl rfl ?_
                      refine w_gf dX9_has_225 rfl zU_0.1 rfl ((zU_0).2 386 62 rfl |>.trans zq_386_62) ?_
                      refine w_ic dX9_has_228 zi_0 ?_
                      refine w_ia dX9_has_229 zU_0.1 rfl (k := 0) zt_0 ((zU_0).2 431 0 rfl |>.trans zq_431_0) ?_
                      refine w_en dX9_has_230 rfl ?_
                      exact ⟨rfl, zU_0.1, zU_0.1⟩
                    · skip
                      rcases zcut a1.toInt (10) with h43 | h43
                      · skip
                        have ea1 : a1 = 9 := zpt (n := 9) zt_9 (by omega)
                        subst ea1
                        refine w_ts dX8_has_1 (t := 139) (j := 9) zt_9 (by decide) ?_
                        refine w_lo dX8_has_139 rfl rfl rfl rfl ?_
                        refine w_gf dX8_has_140 rfl zU_0.1 rfl ((zU_0).2 0 6 rfl |>.trans zq_0_6) ?_
                        refine w_gf dX8_has_143 rfl zU_0.1 rfl ((zU_0).2 77 0 rfl |>.trans zq_77_0) ?_
                        refine w_en dX8_has_146 rfl ?_
                        refine ⟨_, rfl, ?_⟩
                        refine ZV.of (ini := false) rfl (Nat.le_of_ble_eq_true rfl) (by decide +kernel) ?_
                        show ZW _ 10 9 false (some .int) cX9_has _ (0, [some (.ref 386), some (.int 9), none, none], [], zM0)
                        refine w_ic dX9_has_0 zi_0 ?_
                        refine w_lo dX9_has_1 rfl rfl rfl rfl ?_
                        refine w_lo dX9_has_2 rfl rfl rfl rfl ?_
                        refine w_ts dX9_has_3 (t := 231) (j := 9) zt_9 (by decide) ?_
                        refine w_lo dX9_has_231 rfl rfl rfl rfl ?_
                        refine w_gf dX9_has_232 rfl zU_0.1 rfl ((zU_0).2 386 65 rfl |>.trans zq_386_65) ?_
                        refine w_en dX9_has_235 rfl ?_
                        exact ⟨rfl, zU_0.1, zU_0.1⟩
                      · skip
                        rcases zcut a1.toInt (11) with h44 | h44
                        · skip
                          have ea1 : a1 = 10 := zpt (n := 10) zt_10 (by omega)
                          subst ea1
                          refine w_ts dX8_has_1 (t := 147) (j := 10) zt_10 (by decide) ?_
                          refine w_lo dX8_has_147 rfl rfl rfl rfl ?_
                          refine w_gf dX8_has_148 rfl zU_0.1 rfl ((zU_0).2 0 3 rfl |>.trans zq_0_3) ?_
                          refine w_gf dX8_has_151 rfl zU_0.1 rfl ((zU_0).2 28 1 rfl |>.trans zq_28_1) ?_
                          refine w_lo dX8_has_154 rfl rfl rfl rfl ?_
                          refine w_iv dX8_has_155 rfl rfl (As := []) rfl rfl zU_0.1 rfl (Nat.le_of_ble_eq_true rfl) ?_
                          refine ZV.of (ini := false) rfl (Nat.le_of_ble_eq_true rfl) (by decide +kernel) ?_
                          show ZW _ 9 8 false (some .int) cX8_tiedKnots _ (0, [some (.ref 0), none, none], [], zM0)
                          refine w_ic dX8_tiedKnots_0 zi_0 ?_
                          refine w_lo dX8_tiedKnots_1 rfl rfl rfl rfl ?_
                          refine w_ic dX8_tiedKnots_2 zi_0 ?_
                          refine w_lo dX8_tiedKnots_3 rfl rfl rfl rfl ?_
                          refine w_lo dX8_tiedKnots_4 rfl rfl rfl rfl ?_
                          refine w_lo dX8_tiedKnots_5 rfl rfl rfl rfl ?_
                          refine w_gf dX8_tiedKnots_6 rfl zU_0.1 rfl ((zU_0).2 0 4 rfl |>.trans zq_0_4) ?_
                          refine w_gf dX8_tiedKnots_9 rfl zU_0.1 rfl ((zU_0).2 49 0 rfl |>.trans zq_49_0) ?_
                          refine w_ic dX8_tiedKnots_12 zi_1 ?_
                          refine w_pu (st' := [.int (-1), .int 0]) dX8_tiedKnots_13 rfl rfl ?_
                          refine w_cge_t dX8_tiedKnots_14 (t := 43) rfl (by decide) ?_
                          refine w_lo dX8_tiedKnots_43 rfl rfl rfl rfl ?_
                          refine w_en dX8_tiedKnots_44 rfl ?_
                          show ZW _ 10 8 false (some .int) cX8_has _ (158, [some (.ref 0), some (.int 10)], [.int 0, .int 0], zM0)
                          refine w_pu (st' := [.int 0]) dX8_has_158 rfl rfl ?_
                          refine w_en dX8_has_159 rfl ?_
                          refine ⟨_, rfl, ?_⟩
                          refine ZV.of (ini := false) rfl (Nat.le_of_ble_eq_true rfl) (by decide +kernel) ?_
                          show ZW _ 10 9 false (some .int) cX9_has _ (0, [some (.ref 386), some (.int 10), none, none], [], zM0)
                          refine w_ic dX9_has_0 zi_0 ?_
                          refine w_lo dX9_has_1 rfl rfl rfl rfl ?_
                          refine w_lo dX9_has_2 rfl rfl rfl rfl ?_
                          refine w_ts dX9_has_3 (t := 236) (j := 10) zt_10 (by decide) ?_
                          refine w_lo dX9_has_236 rfl rfl rfl rfl ?_
                          refine w_iv dX9_has_237 rfl rfl (As := []) rfl rfl zU_0.1 rfl (Nat.le_of_ble_eq_true rfl) ?_
                          refine ZV.of (ini := false) rfl (Nat.le_of_ble_eq_true rfl) (by decide +kernel) ?_
                          show ZW _ 9 9 false (some .int) cX9_pieces _ (0, [some (.ref 386), none, none], [], zM0)
                          refine w_lo dX9_pieces_0 rfl rfl rfl rfl ?_
                          refine w_iv dX9_pieces_1 rfl rfl (As := []) rfl rfl zU_0.1 rfl (Nat.le_of_ble_eq_true rfl) ?_
                          refine ZV.of (ini := false) rfl (Nat.le_of_ble_eq_true rfl) (by decide +kernel) ?_
                          show ZW _ 8 9 false (some .int) cX9_many _ (0, [some (.ref 386)], [], zM0)
                          refine w_lo dX9_many_0 rfl rfl rfl rfl ?_
                          refine w_gf dX9_many_1 rfl zU_0.1 rfl ((zU_0).2 386 13 rfl |>.trans zq_386_13) ?_
                          refine w_lo dX9_many_4 rfl rfl rfl rfl ?_
                          refine w_gf dX9_many_5 rfl zU_0.1 rfl ((zU_0).2 386 12 rfl |>.trans zq_386_12) ?_
                          refine w_ia dX9_many_8 zU_0.1 rfl (k := 0) zt_0 ((zU_0).2 388 0 rfl |>.trans zq_388_0) ?_
                          refine w_en dX9_many_9 rfl ?_
                          show ZW _ 9 9 false (some .int) cX9_pieces _ (4, [some (.ref 386), none, none], [.int 0], zM0)
                          refine w_ine_f dX9_pieces_4 (t := 11) rfl (by decide) ?_
                          refine w_ic dX9_pieces_7 zi_0 ?_
                          refine w_gt dX9_pieces_8 (t := 12) rfl ?_
                          refine w_lo dX9_pieces_12 rfl rfl rfl rfl ?_
                          refine w_ic dX9_pieces_13 zi_0 ?_
                          refine w_lo dX9_pieces_14 rfl rfl rfl rfl ?_
                          refine w_lo dX9_pieces_15 rfl rfl rfl rfl ?_
                          refine w_lo dX9_pieces_16 rfl rfl rfl rfl ?_
                          refine w_iv dX9_pieces_17 rfl rfl (As := []) rfl rfl zU_0.1 rfl (Nat.le_of_ble_eq_true rfl) ?_
                          refine ZV.of (ini := false) rfl (Nat.le_of_ble_eq_true rfl) (by decide +kernel) ?_
                          show ZW _ 8 9 false (some .int) cX9_many _ (0, [some (.ref 386)], [], zM0)
                          refine w_lo dX9_many_0 rfl rfl rfl rfl ?_
                          refine w_gf dX9_many_1 rfl zU_0.1 rfl ((zU_0).2 386 13 rfl |>.trans zq_386_13) ?_
                          refine w_lo dX9_many_4 rfl rfl rfl rfl ?_
                          refine w_gf dX9_many_5 rfl zU_0.1 rfl ((zU_0).2 386 12 rfl |>.trans zq_386_12) ?_
                          refine w_ia dX9_many_8 zU_0.1 rfl (k := 0) zt_0 ((zU_0).2 388 0 rfl |>.trans zq_388_0) ?_
                          refine w_en dX9_many_9 rfl ?_
                          show ZW _ 9 9 false (some .int) cX9_pieces _ (20, [some (.ref 386), some (.int 0), some (.int 0)], [.int 0, .int 0], zM0)
                          refine w_ic dX9_pieces_20 zi_1 ?_
                          refine w_pu (st' := [.int (-1), .int 0]) dX9_pieces_21 rfl rfl ?_
                          refine w_cge_t dX9_pieces_22 (t := 42) rfl (by decide) ?_
                          refine w_lo dX9_pieces_42 rfl rfl rfl rfl ?_
                          refine w_en dX9_pieces_43 rfl ?_
                          show ZW _ 10 9 false (some .int) cX9_has _ (240, [some (.ref 386), some (.int 10), some (.int 0), none], [.int 0], zM0)
                          refine w_en dX9_has_240 rfl ?_
                          exact ⟨rfl, zU_0.1, zU_0.1⟩
                        · skip
                          rcases zcut a1.toInt (12) with h45 | h45
                          · skip
                            have ea1 : a1 = 11 := zpt (n := 11) zt_11 (by omega)
                            subst ea1
                            refine w_ts dX8_has_1 (t := 160) (j := 11) zt_11 (by decide) ?_
                            refine w_lo dX8_has_160 rfl rfl rfl rfl ?_
                            refine w_gf dX8_has_161 rfl zU_0.1 rfl ((zU_0).2 0 7 rfl |>.trans zq_0_7) ?_
                            refine w_gf dX8_has_164 rfl zU_0.1 rfl ((zU_0).2 359 0 rfl |>.trans zq_359_0) ?_
                            refine w_en dX8_has_167 rfl ?_
                            refine ⟨_, rfl, ?_⟩
                            refine ZV.of (ini := false) rfl (Nat.le_of_ble_eq_true rfl) (by decide +kernel) ?_
                            show ZW _ 10 9 false (some .int) cX9_has _ (0, [some (.ref 386), some (.int 11), none, none], [], zM0)
                            refine w_ic dX9_has_0 zi_0 ?_
                            refine w_lo dX9_has_1 rfl rfl rfl rfl ?_
                            refine w_lo dX9_has_2 rfl rfl rfl rfl ?_
                            refine w_ts dX9_has_3 (t := 241) (j := 11) zt_11 (by decide) ?_
                            refine w_lo dX9_has_241 rfl rfl rfl rfl ?_
                            refine w_gf dX9_has_242 rfl zU_0.1 rfl ((zU_0).2 386 66 rfl |>.trans zq_386_66) ?_
                            refine w_pu (st' := [.int 1]) dX9_has_245 rfl rfl ?_
                            refine w_en dX9_has_246 rfl ?_
                            exact ⟨rfl, zU_0.1, zU_0.1⟩
                          · skip
                            refine w_td dX8_has_1 (t := 168) (by omega) rfl ?_
                            refine w_ic dX8_has_168 zi_m1 ?_
                            refine w_en dX8_has_169 rfl ?_
                            refine ⟨_, rfl, ?_⟩
                            refine ZV.of (ini := false) rfl (Nat.le_of_ble_eq_true rfl) (by decide +kernel) ?_
                            show ZW _ 10 9 false (some .int) cX9_has _ (0, [some (.ref 386), some (.int a1), none, none], [], zM0)
                            refine w_ic dX9_has_0 zi_0 ?_
                            refine w_lo dX9_has_1 rfl rfl rfl rfl ?_
                            refine w_lo dX9_has_2 rfl rfl rfl rfl ?_
                            refine w_td dX9_has_3 (t := 247) (by omega) rfl ?_
                            refine w_ic dX9_has_247 zi_m1 ?_
                            refine w_en dX9_has_248 rfl ?_
                            exact ⟨rfl, zU_0.1, zU_0.1⟩
theorem zp_5 (a1 a2 a3 : Int32) : ∃ (v : Int32) (M1 M2 : zM), ZC [] 11 2059 [.ref 0, .int a1, .int a2, .int a3] zM0 (some (.int v), M1) ∧ ZC [] 11 2351 [.ref 386, .int a1, .int a2, .int a3] M1 (some (.int v), M2) ∧ zSh M1 ∧ zSh M2 := by
  refine zp_of ?_
  refine ZV.of (ini := false) rfl (Nat.le_of_ble_eq_true rfl) (by decide +kernel) ?_
  show ZW _ 10 8 false (some .int) cX8_letter _ (0, [some (.ref 0), some (.int a1), some (.int a2), some (.int a3)], [], zM0)
  refine w_lo dX8_letter_0 rfl rfl rfl rfl ?_
  rcases zcut a3.toInt (0) with h46 | h46
  · skip
    refine w_ilt_t dX8_letter_1 (t := 10) rfl (by omega) ?_
    refine w_ic dX8_letter_10 zi_m1 ?_
    refine w_en dX8_letter_11 rfl ?_
    refine ⟨_, rfl, ?_⟩
    refine ZV.of (ini := false) rfl (Nat.le_of_ble_eq_true rfl) (by decide +kernel) ?_
    show ZW _ 10 9 false (some .int) cX9_letter _ (0, [some (.ref 386), some (.int a1), some (.int a2), some (.int a3), none, none, none, none, none], [], zM0)
    refine w_lo dX9_letter_0 rfl rfl rfl rfl ?_
    refine w_ic dX9_letter_1 zi_0 ?_
    refine w_ic dX9_letter_2 zi_1 ?_
    refine w_ss dX9_letter_3 rfl rfl (As := [.int a1, .int 0, .int 1]) rfl rfl (Nat.le_of_ble_eq_true rfl) ?_
    refine ZV.of (ini := false) rfl (Nat.le_of_ble_eq_true rfl) (by decide +kernel) ?_
    show ZW _ 9 9 false (some .boolean) cX9_is _ (0, [some (.int a1), some (.int 0), some (.int 1)], [], zM0)
    refine w_lo dX9_is_0 rfl rfl rfl rfl ?_
    refine w_lo dX9_is_1 rfl rfl rfl rfl ?_
    rcases zcut a1.toInt (0) with h47 | h47
    · skip
      refine w_clt_t dX9_is_2 (t := 14) rfl (by have := zt_0; omega) ?_
      refine w_ic dX9_is_14 zi_0 ?_
      refine w_en dX9_is_15 rfl ?_
      show ZW _ 10 9 false (some .int) cX9_letter _ (6, [some (.ref 386), some (.int a1), some (.int a2), some (.int a3), none, none, none, none, none], [.int 0], zM0)
      refine w_ieq_t dX9_letter_6 (t := 48) rfl (by decide) ?_
      refine w_ic dX9_letter_48 zi_m1 ?_
      refine w_en dX9_letter_49 rfl ?_
      exact ⟨rfl, zU_0.1, zU_0.1⟩
    · skip
      refine w_clt_f dX9_is_2 (t := 14) rfl (by have := zt_0; omega) ?_
      refine w_lo dX9_is_5 rfl rfl rfl rfl ?_
      refine w_lo dX9_is_6 rfl rfl rfl rfl ?_
      rcases zcut a1.toInt (2) with h48 | h48
      · skip
        refine w_cgt_f dX9_is_7 (t := 14) rfl (by have := zt_1; omega) ?_
        refine w_ic dX9_is_10 zi_1 ?_
        refine w_gt dX9_is_11 (t := 15) rfl ?_
        refine w_en dX9_is_15 rfl ?_
        show ZW _ 10 9 false (some .int) cX9_letter _ (6, [some (.ref 386), some (.int a1), some (.int a2), some (.int a3), none, none, none, none, none], [.int 1], zM0)
        refine w_ieq_f dX9_letter_6 (t := 48) rfl (by decide) ?_
        refine w_lo dX9_letter_9 rfl rfl rfl rfl ?_
        refine w_ic dX9_letter_10 zi_0 ?_
        refine w_lo dX9_letter_11 rfl rfl rfl rfl ?_
        rcases zcut a1.toInt (1) with h49 | h49
        · skip
          have ea1 : a1 = 0 := zpt (n := 0) zt_0 (by omega)
          subst ea1
          refine w_ine_f dX9_letter_12 (t := 22) rfl (by decide) ?_
          refine w_lo dX9_letter_15 rfl rfl rfl rfl ?_
          refine w_iv dX9_letter_16 rfl rfl (As := []) rfl rfl zU_0.1 rfl (Nat.le_of_ble_eq_true rfl) ?_
          refine ZV.of (ini := false) rfl (Nat.le_of_ble_eq_true rfl) (by decide +kernel) ?_
          show ZW _ 9 9 false (some .int) cX9_many _ (0, [some (.ref 386)], [], zM0)
          refine w_lo dX9_many_0 rfl rfl rfl rfl ?_
          refine w_gf dX9_many_1 rfl zU_0.1 rfl ((zU_0).2 386 13 rfl |>.trans zq_386_13) ?_
          refine w_lo dX9_many_4 rfl rfl rfl rfl ?_
          refine w_gf dX9_many_5 rfl zU_0.1 rfl ((zU_0).2 386 12 rfl |>.trans zq_386_12) ?_
          refine w_ia dX9_many_8 zU_0.1 rfl (k := 0) zt_0 ((zU_0).2 388 0 rfl |>.trans zq_388_0) ?_
          refine w_en dX9_many_9 rfl ?_
          show ZW _ 10 9 false (some .int) cX9_letter _ (19, [some (.ref 386), some (.int 0), some (.int a2), some (.int a3), none, none, none, none, none], [.int 0, .int 0, .int a2], zM0)
          refine w_gt dX9_letter_19 (t := 31) rfl ?_
          refine w_ic dX9_letter_31 zi_1 ?_
          refine w_pu (st' := [.int (-1), .int 0, .int a2]) dX9_letter_32 rfl rfl ?_
          refine w_ss dX9_letter_33 rfl rfl (As := [.int a2, .int 0, .int (-1)]) rfl rfl (Nat.le_of_ble_eq_true rfl) ?_
          refine ZV.of (ini := false) rfl (Nat.le_of_ble_eq_true rfl) (by decide +kernel) ?_
          show ZW _ 9 9 false (some .boolean) cX9_is _ (0, [some (.int a2), some (.int 0), some (.int (-1))], [], zM0)
          refine w_lo dX9_is_0 rfl rfl rfl rfl ?_
          refine w_lo dX9_is_1 rfl rfl rfl rfl ?_
          rcases zcut a2.toInt (0) with h50 | h50
          · skip
            refine w_clt_t dX9_is_2 (t := 14) rfl (by have := zt_0; omega) ?_
            refine w_ic dX9_is_14 zi_0 ?_
            refine w_en dX9_is_15 rfl ?_
            show ZW _ 10 9 false (some .int) cX9_letter _ (36, [some (.ref 386), some (.int 0), some (.int a2), some (.int a3), none, none, none, none, none], [.int 0], zM0)
            refine w_ieq_t dX9_letter_36 (t := 48) rfl (by decide) ?_
            refine w_ic dX9_letter_48 zi_m1 ?_
            refine w_en dX9_letter_49 rfl ?_
            exact ⟨rfl, zU_0.1, zU_0.1⟩
          · skip
            refine w_clt_f dX9_is_2 (t := 14) rfl (by have := zt_0; omega) ?_
            refine w_lo dX9_is_5 rfl rfl rfl rfl ?_
            refine w_lo dX9_is_6 rfl rfl rfl rfl ?_
            refine w_cgt_t dX9_is_7 (t := 14) rfl (by have := zt_m1; omega) ?_
            refine w_ic dX9_is_14 zi_0 ?_
            refine w_en dX9_is_15 rfl ?_
            show ZW _ 10 9 false (some .int) cX9_letter _ (36, [some (.ref 386), some (.int 0), some (.int a2), some (.int a3), none, none, none, none, none], [.int 0], zM0)
            refine w_ieq_t dX9_letter_36 (t := 48) rfl (by decide) ?_
            refine w_ic dX9_letter_48 zi_m1 ?_
            refine w_en dX9_letter_49 rfl ?_
            exact ⟨rfl, zU_0.1, zU_0.1⟩
        · skip
          have ea1 : a1 = 1 := zpt (n := 1) zt_1 (by omega)
          subst ea1
          refine w_ine_t dX9_letter_12 (t := 22) rfl (by decide) ?_
          refine w_lo dX9_letter_22 rfl rfl rfl rfl ?_
          refine w_gf dX9_letter_23 rfl zU_0.1 rfl ((zU_0).2 386 21 rfl |>.trans zq_386_21) ?_
          refine w_lo dX9_letter_26 rfl rfl rfl rfl ?_
          refine w_gf dX9_letter_27 rfl zU_0.1 rfl ((zU_0).2 386 12 rfl |>.trans zq_386_12) ?_
          refine w_ia dX9_letter_30 zU_0.1 rfl (k := 0) zt_0 ((zU_0).2 396 0 rfl |>.trans zq_396_0) ?_
          refine w_ic dX9_letter_31 zi_1 ?_
          refine w_pu (st' := [.int (-1), .int 0, .int a2]) dX9_letter_32 rfl rfl ?_
          refine w_ss dX9_letter_33 rfl rfl (As := [.int a2, .int 0, .int (-1)]) rfl rfl (Nat.le_of_ble_eq_true rfl) ?_
          refine ZV.of (ini := false) rfl (Nat.le_of_ble_eq_true rfl) (by decide +kernel) ?_
          show ZW _ 9 9 false (some .boolean) cX9_is _ (0, [some (.int a2), some (.int 0), some (.int (-1))], [], zM0)
          refine w_lo dX9_is_0 rfl rfl rfl rfl ?_
          refine w_lo dX9_is_1 rfl rfl rfl rfl ?_
          rcases zcut a2.toInt (0) with h51 | h51
          · skip
            refine w_clt_t dX9_is_2 (t := 14) rfl (by have := zt_0; omega) ?_
            refine w_ic dX9_is_14 zi_0 ?_
            refine w_en dX9_is_15 rfl ?_
            show ZW _ 10 9 false (some .int) cX9_letter _ (36, [some (.ref 386), some (.int 1), some (.int a2), some (.int a3), none, none, none, none, none], [.int 0], zM0)
            refine w_ieq_t dX9_letter_36 (t := 48) rfl (by decide) ?_
            refine w_ic dX9_letter_48 zi_m1 ?_
            refine w_en dX9_letter_49 rfl ?_
            exact ⟨rfl, zU_0.1, zU_0.1⟩
          · skip
            refine w_clt_f dX9_is_2 (t := 14) rfl (by have := zt_0; omega) ?_
            refine w_lo dX9_is_5 rfl rfl rfl rfl ?_
            refine w_lo dX9_is_6 rfl rfl rfl rfl ?_
            refine w_cgt_t dX9_is_7 (t := 14) rfl (by have := zt_m1; omega) ?_
            refine w_ic dX9_is_14 zi_0 ?_
            refine w_en dX9_is_15 rfl ?_
            show ZW _ 10 9 false (some .int) cX9_letter _ (36, [some (.ref 386), some (.int 1), some (.int a2), some (.int a3), none, none, none, none, none], [.int 0], zM0)
            refine w_ieq_t dX9_letter_36 (t := 48) rfl (by decide) ?_
            refine w_ic dX9_letter_48 zi_m1 ?_
            refine w_en dX9_letter_49 rfl ?_
            exact ⟨rfl, zU_0.1, zU_0.1⟩
      · skip
        refine w_cgt_t dX9_is_7 (t := 14) rfl (by have := zt_1; omega) ?_
        refine w_ic dX9_is_14 zi_0 ?_
        refine w_en dX9_is_15 rfl ?_
        show ZW _ 10 9 false (some .int) cX9_letter _ (6, [some (.ref 386), some (.int a1), some (.int a2), some (.int a3), none, none, none, none, none], [.int 0], zM0)
        refine w_ieq_t dX9_letter_6 (t := 48) rfl (by decide) ?_
        refine w_ic dX9_letter_48 zi_m1 ?_
        refine w_en dX9_letter_49 rfl ?_
        exact ⟨rfl, zU_0.1, zU_0.1⟩
  · skip
    refine w_ilt_f dX8_letter_1 (t := 10) rfl (by omega) ?_
    refine w_lo dX8_letter_4 rfl rfl rfl rfl ?_
    refine w_bi dX8_letter_5 (c := 6) (by decide) ?_
    rcases zcut a3.toInt (6) with h52 | h52
    · skip
      refine w_clt_t dX8_letter_7 (t := 12) rfl (by have := zt_6; omega) ?_
      refine w_lo dX8_letter_12 rfl rfl rfl rfl ?_
      rcases zcut a1.toInt (0) with h53 | h53
      · skip
        refine w_ine_t dX8_letter_13 (t := 38) rfl (by omega) ?_
        refine w_lo dX8_letter_38 rfl rfl rfl rfl ?_
        refine w_ic dX8_letter_39 zi_1 ?_
        refine w_cne_t dX8_letter_40 (t := 65) rfl (by have := zt_1; omega) ?_
        refine w_ic dX8_letter_65 zi_m1 ?_
        refine w_en dX8_letter_66 rfl ?_
        refine ⟨_, rfl, ?_⟩
        refine ZV.of (ini := false) rfl (Nat.le_of_ble_eq_true rfl) (by decide +kernel) ?_
        show ZW _ 10 9 false (some .int) cX9_letter _ (0, [some (.ref 386), some (.int a1), some (.int a2), some (.int a3), none, none, none, none, none], [], zM0)
        refine w_lo dX9_letter_0 rfl rfl rfl rfl ?_
        refine w_ic dX9_letter_1 zi_0 ?_
        refine w_ic dX9_letter_2 zi_1 ?_
        refine w_ss dX9_letter_3 rfl rfl (As := [.int a1, .int 0, .int 1]) rfl rfl (Nat.le_of_ble_eq_true rfl) ?_
        refine ZV.of (ini := false) rfl (Nat.le_of_ble_eq_true rfl) (by decide +kernel) ?_
        show ZW _ 9 9 false (some .boolean) cX9_is _ (0, [some (.int a1), some (.int 0), some (.int 1)], [], zM0)
        refine w_lo dX9_is_0 rfl rfl rfl rfl ?_
        refine w_lo dX9_is_1 rfl rfl rfl rfl ?_
        refine w_clt_t dX9_is_2 (t := 14) rfl (by have := zt_0; omega) ?_
        refine w_ic dX9_is_14 zi_0 ?_
        refine w_en dX9_is_15 rfl ?_
        show ZW _ 10 9 false (some .int) cX9_letter _ (6, [some (.ref 386), some (.int a1), some (.int a2), some (.int a3), none, none, none, none, none], [.int 0], zM0)
        refine w_ieq_t dX9_letter_6 (t := 48) rfl (by decide) ?_
        refine w_ic dX9_letter_48 zi_m1 ?_
        refine w_en dX9_letter_49 rfl ?_
        exact ⟨rfl, zU_0.1, zU_0.1⟩
      · skip
        rcases zcut a1.toInt (1) with h54 | h54
        · skip
          have ea1 : a1 = 0 := zpt (n := 0) zt_0 (by omega)
          subst ea1
          refine w_ine_f dX8_letter_13 (t := 38) rfl (by decide) ?_
          refine w_lo dX8_letter_16 rfl rfl rfl rfl ?_
          refine w_lo dX8_letter_17 rfl rfl rfl rfl ?_
          refine w_iv dX8_letter_18 rfl rfl (As := [.int a2]) rfl rfl zU_0.1 rfl (Nat.le_of_ble_eq_true rfl) ?_
          refine ZV.of (ini := false) rfl (Nat.le_of_ble_eq_true rfl) (by decide +kernel) ?_
          show ZW _ 9 8 false (some .boolean) cX8_isBoy _ (0, [some (.ref 0), some (.int a2)], [], zM0)
          refine w_lo dX8_isBoy_0 rfl rfl rfl rfl ?_
          rcases zcut a2.toInt (0) with h55 | h55
          · skip
            refine w_ilt_t dX8_isBoy_1 (t := 19) rfl (by omega) ?_
            refine w_ic dX8_isBoy_19 zi_0 ?_
            refine w_en dX8_isBoy_20 rfl ?_
            show ZW _ 10 8 false (some .int) cX8_letter _ (21, [some (.ref 0), some (.int 0), some (.int a2), some (.int a3)], [.int 0], zM0)
            refine w_ieq_t dX8_letter_21 (t := 38) rfl (by decide) ?_
            refine w_lo dX8_letter_38 rfl rfl rfl rfl ?_
            refine w_ic dX8_letter_39 zi_1 ?_
            refine w_cne_t dX8_letter_40 (t := 65) rfl (by decide) ?_
            refine w_ic dX8_letter_65 zi_m1 ?_
            refine w_en dX8_letter_66 rfl ?_
            refine ⟨_, rfl, ?_⟩
            refine ZV.of (ini := false) rfl (Nat.le_of_ble_eq_true rfl) (by decide +kernel) ?_
            show ZW _ 10 9 false (some .int) cX9_letter _ (0, [some (.ref 386), some (.int 0), some (.int a2), some (.int a3), none, none, none, none, none], [], zM0)
            refine w_lo dX9_letter_0 rfl rfl rfl rfl ?_
            refine w_ic dX9_letter_1 zi_0 ?_
            refine w_ic dX9_letter_2 zi_1 ?_
            refine w_ss dX9_letter_3 rfl rfl (As := [.int 0, .int 0, .int 1]) rfl rfl (Nat.le_of_ble_eq_true rfl) ?_
            refine ZV.of (ini := false) rfl (Nat.le_of_ble_eq_true rfl) (by decide +kernel) ?_
            show ZW _ 9 9 false (some .boolean) cX9_is _ (0, [some (.int 0), some (.int 0), some (.int 1)], [], zM0)
            refine w_lo dX9_is_0 rfl rfl rfl rfl ?_
            refine w_lo dX9_is_1 rfl rfl rfl rfl ?_
            refine w_clt_f dX9_is_2 (t := 14) rfl (by decide) ?_
            refine w_lo dX9_is_5 rfl rfl rfl rfl ?_
            refine w_lo dX9_is_6 rfl rfl rfl rfl ?_
            refine w_cgt_f dX9_is_7 (t := 14) rfl (by decide) ?_
            refine w_ic dX9_is_10 zi_1 ?_
            refine w_gt dX9_is_11 (t := 15) rfl ?_
            refine w_en dX9_is_15 rfl ?_
            show ZW _ 10 9 false (some .int) cX9_letter _ (6, [some (.ref 386), some (.int 0), some (.int a2), some (.int a3), none, none, none, none, none], [.int 1], zM0)
            refine w_ieq_f dX9_letter_6 (t := 48) rfl (by decide) ?_
            refine w_lo dX9_letter_9 rfl rfl rfl rfl ?_
            refine w_ic dX9_letter_10 zi_0 ?_
            refine w_lo dX9_letter_11 rfl rfl rfl rfl ?_
            refine w_ine_f dX9_letter_12 (t := 22) rfl (by decide) ?_
            refine w_lo dX9_letter_15 rfl rfl rfl rfl ?_
            refine w_iv dX9_letter_16 rfl rfl (As := []) rfl rfl zU_0.1 rfl (Nat.le_of_ble_eq_true rfl) ?_
            refine ZV.of (ini := false) rfl (Nat.le_of_ble_eq_true rfl) (by decide +kernel) ?_
            show ZW _ 9 9 false (some .int) cX9_many _ (0, [some (.ref 386)], [], zM0)
            refine w_lo dX9_many_0 rfl rfl rfl rfl ?_
            refine w_gf dX9_many_1 rfl zU_0.1 rfl ((zU_0).2 386 13 rfl |>.trans zq_386_13) ?_
            refine w_lo dX9_many_4 rfl rfl rfl rfl ?_
            refine w_gf dX9_many_5 rfl zU_0.1 rfl ((zU_0).2 386 12 rfl |>.trans zq_386_12) ?_
            refine w_ia dX9_many_8 zU_0.1 rfl (k := 0) zt_0 ((zU_0).2 388 0 rfl |>.trans zq_388_0) ?_
            refine w_en dX9_many_9 rfl ?_
            show ZW _ 10 9 false (some .int) cX9_letter _ (19, [some (.ref 386), some (.int 0), some (.int a2), some (.int a3), none, none, none, none, none], [.int 0, .int 0, .int a2], zM0)
            refine w_gt dX9_letter_19 (t := 31) rfl ?_
            refine w_ic dX9_letter_31 zi_1 ?_
            refine w_pu (st' := [.int (-1), .int 0, .int a2]) dX9_letter_32 rfl rfl ?_
            refine w_ss dX9_letter_33 rfl rfl (As := [.int a2, .int 0, .int (-1)]) rfl rfl (Nat.le_of_ble_eq_true rfl) ?_
            refine ZV.of (ini := false) rfl (Nat.le_of_ble_eq_true rfl) (by decide +kernel) ?_
            show ZW _ 9 9 false (some .boolean) cX9_is _ (0, [some (.int a2), some (.int 0), some (.int (-1))], [], zM0)
            refine w_lo dX9_is_0 rfl rfl rfl rfl ?_
            refine w_lo dX9_is_1 rfl rfl rfl rfl ?_
            refine w_clt_t dX9_is_2 (t := 14) rfl (by have := zt_0; omega) ?_
            refine w_ic dX9_is_14 zi_0 ?_
            refine w_en dX9_is_15 rfl ?_
            show ZW _ 10 9 false (some .int) cX9_letter _ (36, [some (.ref 386), some (.int 0), some (.int a2), some (.int a3), none, none, none, none, none], [.int 0], zM0)
            refine w_ieq_t dX9_letter_36 (t := 48) rfl (by decide) ?_
            refine w_ic dX9_letter_48 zi_m1 ?_
            refine w_en dX9_letter_49 rfl ?_
            exact ⟨rfl, zU_0.1, zU_0.1⟩
          · skip
            refine w_ilt_f dX8_isBoy_1 (t := 19) rfl (by omega) ?_
            refine w_lo dX8_isBoy_4 rfl rfl rfl rfl ?_
            refine w_lo dX8_isBoy_5 rfl rfl rfl rfl ?_
            refine w_gf dX8_isBoy_6 rfl zU_0.1 rfl ((zU_0).2 0 3 rfl |>.trans zq_0_3) ?_
            refine w_gf dX8_isBoy_9 rfl zU_0.1 rfl ((zU_0).2 28 1 rfl |>.trans zq_28_1) ?_
            refine w_cge_t dX8_isBoy_12 (t := 19) rfl (by have := zt_0; omega) ?_
            refine w_ic dX8_isBoy_19 zi_0 ?_
            refine w_en dX8_isBoy_20 rfl ?_
            show ZW _ 10 8 false (some .int) cX8_letter _ (21, [some (.ref 0), some (.int 0), some (.int a2), some (.int a3)], [.int 0], zM0)
            refine w_ieq_t dX8_letter_21 (t := 38) rfl (by decide) ?_
            refine w_lo dX8_letter_38 rfl rfl rfl rfl ?_
            refine w_ic dX8_letter_39 zi_1 ?_
            refine w_cne_t dX8_letter_40 (t := 65) rfl (by decide) ?_
            refine w_ic dX8_letter_65 zi_m1 ?_
            refine w_en dX8_letter_66 rfl ?_
            refine ⟨_, rfl, ?_⟩
            refine ZV.of (ini := false) rfl (Nat.le_of_ble_eq_true rfl) (by decide +kernel) ?_
            show ZW _ 10 9 false (some .int) cX9_letter _ (0, [some (.ref 386), some (.int 0), some (.int a2), some (.int a3), none, none, none, none, none], [], zM0)
            refine w_lo dX9_letter_0 rfl rfl rfl rfl ?_
            refine w_ic dX9_letter_1 zi_0 ?_
            refine w_ic dX9_letter_2 zi_1 ?_
            refine w_ss dX9_letter_3 rfl rfl (As := [.int 0, .int 0, .int 1]) rfl rfl (Nat.le_of_ble_eq_true rfl) ?_
            refine ZV.of (ini := false) rfl (Nat.le_of_ble_eq_true rfl) (by decide +kernel) ?_
            show ZW _ 9 9 false (some .boolean) cX9_is _ (0, [some (.int 0), some (.int 0), some (.int 1)], [], zM0)
            refine w_lo dX9_is_0 rfl rfl rfl rfl ?_
            refine w_lo dX9_is_1 rfl rfl rfl rfl ?_
            refine w_clt_f dX9_is_2 (t := 14) rfl (by decide) ?_
            refine w_lo dX9_is_5 rfl rfl rfl rfl ?_
            refine w_lo dX9_is_6 rfl rfl rfl rfl ?_
            refine w_cgt_f dX9_is_7 (t := 14) rfl (by decide) ?_
            refine w_ic dX9_is_10 zi_1 ?_
            refine w_gt dX9_is_11 (t := 15) rfl ?_
            refine w_en dX9_is_15 rfl ?_
            show ZW _ 10 9 false (some .int) cX9_letter _ (6, [some (.ref 386), some (.int 0), some (.int a2), some (.int a3), none, none, none, none, none], [.int 1], zM0)
            refine w_ieq_f dX9_letter_6 (t := 48) rfl (by decide) ?_
            refine w_lo dX9_letter_9 rfl rfl rfl rfl ?_
            refine w_ic dX9_letter_10 zi_0 ?_
            refine w_lo dX9_letter_11 rfl rfl rfl rfl ?_
            refine w_ine_f dX9_letter_12 (t := 22) rfl (by decide) ?_
            refine w_lo dX9_letter_15 rfl rfl rfl rfl ?_
            refine w_iv dX9_letter_16 rfl rfl (As := []) rfl rfl zU_0.1 rfl (Nat.le_of_ble_eq_true rfl) ?_
            refine ZV.of (ini := false) rfl (Nat.le_of_ble_eq_true rfl) (by decide +kernel) ?_
            show ZW _ 9 9 false (some .int) cX9_many _ (0, [some (.ref 386)], [], zM0)
            refine w_lo dX9_many_0 rfl rfl rfl rfl ?_
            refine w_gf dX9_many_1 rfl zU_0.1 rfl ((zU_0).2 386 13 rfl |>.trans zq_386_13) ?_
            refine w_lo dX9_many_4 rfl rfl rfl rfl ?_
            refine w_gf dX9_many_5 rfl zU_0.1 rfl ((zU_0).2 386 12 rfl |>.trans zq_386_12) ?_
            refine w_ia dX9_many_8 zU_0.1 rfl (k := 0) zt_0 ((zU_0).2 388 0 rfl |>.trans zq_388_0) ?_
            refine w_en dX9_many_9 rfl ?_
            show ZW _ 10 9 false (some .int) cX9_letter _ (19, [some (.ref 386), some (.int 0), some (.int a2), some (.int a3), none, none, none, none, none], [.int 0, .int 0, .int a2], zM0)
            refine w_gt dX9_letter_19 (t := 31) rfl ?_
            refine w_ic dX9_letter_31 zi_1 ?_
            refine w_pu (st' := [.int (-1), .int 0, .int a2]) dX9_letter_32 rfl rfl ?_
            refine w_ss dX9_letter_33 rfl rfl (As := [.int a2, .int 0, .int (-1)]) rfl rfl (Nat.le_of_ble_eq_true rfl) ?_
            refine ZV.of (ini := false) rfl (Nat.le_of_ble_eq_true rfl) (by decide +kernel) ?_
            show ZW _ 9 9 false (some .boolean) cX9_is _ (0, [some (.int a2), some (.int 0), some (.int (-1))], [], zM0)
            refine w_lo dX9_is_0 rfl rfl rfl rfl ?_
            refine w_lo dX9_is_1 rfl rfl rfl rfl ?_
            refine w_clt_f dX9_is_2 (t := 14) rfl (by have := zt_0; omega) ?_
            refine w_lo dX9_is_5 rfl rfl rfl rfl ?_
            refine w_lo dX9_is_6 rfl rfl rfl rfl ?_
            refine w_cgt_t dX9_is_7 (t := 14) rfl (by have := zt_m1; omega) ?_
            refine w_ic dX9_is_14 zi_0 ?_
            refine w_en dX9_is_15 rfl ?_
            show ZW _ 10 9 false (some .int) cX9_letter _ (36, [some (.ref 386), some (.int 0), some (.int a2), some (.int a3), none, none, none, none, none], [.int 0], zM0)
            refine w_ieq_t dX9_letter_36 (t := 48) rfl (by decide) ?_
            refine w_ic dX9_letter_48 zi_m1 ?_
            refine w_en dX9_letter_49 rfl ?_
            exact ⟨rfl, zU_0.1, zU_0.1⟩
        · skip
          refine w_ine_t dX8_letter_13 (t := 38) rfl (by omega) ?_
          refine w_lo dX8_letter_38 rfl rfl rfl rfl ?_
          refine w_ic dX8_letter_39 zi_1 ?_
          rcases zcut a1.toInt (2) with h56 | h56
          · skip
            have ea1 : a1 = 1 := zpt (n := 1) zt_1 (by omega)
            subst ea1
            refine w_cne_f dX8_letter_40 (t := 65) rfl (by decide) ?_
            refine w_lo dX8_letter_43 rfl rfl rfl rfl ?_
            refine w_lo dX8_letter_44 rfl rfl rfl rfl ?_
            refine w_iv dX8_letter_45 rfl rfl (As := [.int a2]) rfl rfl zU_0.1 rfl (Nat.le_of_ble_eq_true rfl) ?_
            refine ZV.of (ini := false) rfl (Nat.le_of_ble_eq_true rfl) (by decide +kernel) ?_
            show ZW _ 9 8 false (some .boolean) cX8_isDream _ (0, [some (.ref 0), some (.int a2)], [], zM0)
            refine w_lo dX8_isDream_0 rfl rfl rfl rfl ?_
            rcases zcut a2.toInt (0) with h57 | h57
            · skip
              refine w_ilt_t dX8_isDream_1 (t := 19) rfl (by omega) ?_
              refine w_ic dX8_isDream_19 zi_0 ?_
              refine w_en dX8_isDream_20 rfl ?_
              show ZW _ 10 8 false (some .int) cX8_letter _ (48, [some (.ref 0), some (.int 1), some (.int a2), some (.int a3)], [.int 0], zM0)
              refine w_ieq_t dX8_letter_48 (t := 65) rfl (by decide) ?_
              refine w_ic dX8_letter_65 zi_m1 ?_
              refine w_en dX8_letter_66 rfl ?_
              refine ⟨_, rfl, ?_⟩
              refine ZV.of (ini := false) rfl (Nat.le_of_ble_eq_true rfl) (by decide +kernel) ?_
              show ZW _ 10 9 false (some .int) cX9_letter _ (0, [some (.ref 386), some (.int 1), some (.int a2), some (.int a3), none, none, none, none, none], [], zM0)
              refine w_lo dX9_letter_0 rfl rfl rfl rfl ?_
              refine w_ic dX9_letter_1 zi_0 ?_
              refine w_ic dX9_letter_2 zi_1 ?_
              refine w_ss dX9_letter_3 rfl rfl (As := [.int 1, .int 0, .int 1]) rfl rfl (Nat.le_of_ble_eq_true rfl) ?_
              refine ZV.of (ini := false) rfl (Nat.le_of_ble_eq_true rfl) (by decide +kernel) ?_
              show ZW _ 9 9 false (some .boolean) cX9_is _ (0, [some (.int 1), some (.int 0), some (.int 1)], [], zM0)
              refine w_lo dX9_is_0 rfl rfl rfl rfl ?_
              refine w_lo dX9_is_1 rfl rfl rfl rfl ?_
              refine w_clt_f dX9_is_2 (t := 14) rfl (by decide) ?_
              refine w_lo dX9_is_5 rfl rfl rfl rfl ?_
              refine w_lo dX9_is_6 rfl rfl rfl rfl ?_
              refine w_cgt_f dX9_is_7 (t := 14) rfl (by decide) ?_
              refine w_ic dX9_is_10 zi_1 ?_
              refine w_gt dX9_is_11 (t := 15) rfl ?_
              refine w_en dX9_is_15 rfl ?_
              show ZW _ 10 9 false (some .int) cX9_letter _ (6, [some (.ref 386), some (.int 1), some (.int a2), some (.int a3), none, none, none, none, none], [.int 1], zM0)
              refine w_ieq_f dX9_letter_6 (t := 48) rfl (by decide) ?_
              refine w_lo dX9_letter_9 rfl rfl rfl rfl ?_
              refine w_ic dX9_letter_10 zi_0 ?_
              refine w_lo dX9_letter_11 rfl rfl rfl rfl ?_
              refine w_ine_t dX9_letter_12 (t := 22) rfl (by decide) ?_
              refine w_lo dX9_letter_22 rfl rfl rfl rfl ?_
              refine w_gf dX9_letter_23 rfl zU_0.1 rfl ((zU_0).2 386 21 rfl |>.trans zq_386_21) ?_
              refine w_lo dX9_letter_26 rfl rfl rfl rfl ?_
              refine w_gf dX9_letter_27 rfl zU_0.1 rfl ((zU_0).2 386 12 rfl |>.trans zq_386_12) ?_
              refine w_ia dX9_letter_30 zU_0.1 rfl (k := 0) zt_0 ((zU_0).2 396 0 rfl |>.trans zq_396_0) ?_
              refine w_ic dX9_letter_31 zi_1 ?_
              refine w_pu (st' := [.int (-1), .int 0, .int a2]) dX9_letter_32 rfl rfl ?_
              refine w_ss dX9_letter_33 rfl rfl (As := [.int a2, .int 0, .int (-1)]) rfl rfl (Nat.le_of_ble_eq_true rfl) ?_
              refine ZV.of (ini := false) rfl (Nat.le_of_ble_eq_true rfl) (by decide +kernel) ?_
              show ZW _ 9 9 false (some .boolean) cX9_is _ (0, [some (.int a2), some (.int 0), some (.int (-1))], [], zM0)
              refine w_lo dX9_is_0 rfl rfl rfl rfl ?_
              refine w_lo dX9_is_1 rfl rfl rfl rfl ?_
              refine w_clt_t dX9_is_2 (t := 14) rfl (by have := zt_0; omega) ?_
              refine w_ic dX9_is_14 zi_0 ?_
              refine w_en dX9_is_15 rfl ?_
              show ZW _ 10 9 false (some .int) cX9_letter _ (36, [some (.ref 386), some (.int 1), some (.int a2), some (.int a3), none, none, none, none, none], [.int 0], zM0)
              refine w_ieq_t dX9_letter_36 (t := 48) rfl (by decide) ?_
              refine w_ic dX9_letter_48 zi_m1 ?_
              refine w_en dX9_letter_49 rfl ?_
              exact ⟨rfl, zU_0.1, zU_0.1⟩
            · skip
              refine w_ilt_f dX8_isDream_1 (t := 19) rfl (by omega) ?_
              refine w_lo dX8_isDream_4 rfl rfl rfl rfl ?_
              refine w_lo dX8_isDream_5 rfl rfl rfl rfl ?_
              refine w_gf dX8_isDream_6 rfl zU_0.1 rfl ((zU_0).2 0 3 rfl |>.trans zq_0_3) ?_
              refine w_gf dX8_isDream_9 rfl zU_0.1 rfl ((zU_0).2 28 2 rfl |>.trans zq_28_2) ?_
              refine w_cge_t dX8_isDream_12 (t := 19) rfl (by have := zt_0; omega) ?_
              refine w_ic dX8_isDream_19 zi_0 ?_
              refine w_en dX8_isDream_20 rfl ?_
              show ZW _ 10 8 false (some .int) cX8_letter _ (48, [some (.ref 0), some (.int 1), some (.int a2), some (.int a3)], [.int 0], zM0)
              refine w_ieq_t dX8_letter_48 (t := 65) rfl (by decide) ?_
              refine w_ic dX8_letter_65 zi_m1 ?_
              refine w_en dX8_letter_66 rfl ?_
              refine ⟨_, rfl, ?_⟩
              refine ZV.of (ini := false) rfl (Nat.le_of_ble_eq_true rfl) (by decide +kernel) ?_
              show ZW _ 10 9 false (some .int) cX9_letter _ (0, [some (.ref 386), some (.int 1), some (.int a2), some (.int a3), none, none, none, none, none], [], zM0)
              refine w_lo dX9_letter_0 rfl rfl rfl rfl ?_
              refine w_ic dX9_letter_1 zi_0 ?_
              refine w_ic dX9_letter_2 zi_1 ?_
              refine w_ss dX9_letter_3 rfl rfl (As := [.int 1, .int 0, .int 1]) rfl rfl (Nat.le_of_ble_eq_true rfl) ?_
              refine ZV.of (ini := false) rfl (Nat.le_of_ble_eq_true rfl) (by decide +kernel) ?_
              show ZW _ 9 9 false (some .boolean) cX9_is _ (0, [some (.int 1), some (.int 0), some (.int 1)], [], zM0)
              refine w_lo dX9_is_0 rfl rfl rfl rfl ?_
              refine w_lo dX9_is_1 rfl rfl rfl rfl ?_
              refine w_clt_f dX9_is_2 (t := 14) rfl (by decide) ?_
              refine w_lo dX9_is_5 rfl rfl rfl rfl ?_
              refine w_lo dX9_is_6 rfl rfl rfl rfl ?_
              refine w_cgt_f dX9_is_7 (t := 14) rfl (by decide) ?_
              refine w_ic dX9_is_10 zi_1 ?_
              refine w_gt dX9_is_11 (t := 15) rfl ?_
              refine w_en dX9_is_15 rfl ?_
              show ZW _ 10 9 false (some .int) cX9_letter _ (6, [some (.ref 386), some (.int 1), some (.int a2), some (.int a3), none, none, none, none, none], [.int 1], zM0)
              refine w_ieq_f dX9_letter_6 (t := 48) rfl (by decide) ?_
              refine w_lo dX9_letter_9 rfl rfl rfl rfl ?_
              refine w_ic dX9_letter_10 zi_0 ?_
              refine w_lo dX9_letter_11 rfl rfl rfl rfl ?_
              refine w_ine_t dX9_letter_12 (t := 22) rfl (by decide) ?_
              refine w_lo dX9_letter_22 rfl rfl rfl rfl ?_
              refine w_gf dX9_letter_23 rfl zU_0.1 rfl ((zU_0).2 386 21 rfl |>.trans zq_386_21) ?_
              refine w_lo dX9_letter_26 rfl rfl rfl rfl ?_
              refine w_gf dX9_letter_27 rfl zU_0.1 rfl ((zU_0).2 386 12 rfl |>.trans zq_386_12) ?_
              refine w_ia dX9_letter_30 zU_0.1 rfl (k := 0) zt_0 ((zU_0).2 396 0 rfl |>.trans zq_396_0) ?_
              refine w_ic dX9_letter_31 zi_1 ?_
              refine w_pu (st' := [.int (-1), .int 0, .int a2]) dX9_letter_32 rfl rfl ?_
              refine w_ss dX9_letter_33 rfl rfl (As := [.int a2, .int 0, .int (-1)]) rfl rfl (Nat.le_of_ble_eq_true rfl) ?_
              refine ZV.of (ini := false) rfl (Nat.le_of_ble_eq_true rfl) (by decide +kernel) ?_
              show ZW _ 9 9 false (some .boolean) cX9_is _ (0, [some (.int a2), some (.int 0), some (.int (-1))], [], zM0)
              refine w_lo dX9_is_0 rfl rfl rfl rfl ?_
              refine w_lo dX9_is_1 rfl rfl rfl rfl ?_
              refine w_clt_f dX9_is_2 (t := 14) rfl (by have := zt_0; omega) ?_
              refine w_lo dX9_is_5 rfl rfl rfl rfl ?_
              refine w_lo dX9_is_6 rfl rfl rfl rfl ?_
              refine w_cgt_t dX9_is_7 (t := 14) rfl (by have := zt_m1; omega) ?_
              refine w_ic dX9_is_14 zi_0 ?_
              refine w_en dX9_is_15 rfl ?_
              show ZW _ 10 9 false (some .int) cX9_letter _ (36, [some (.ref 386), some (.int 1), some (.int a2), some (.int a3), none, none, none, none, none], [.int 0], zM0)
              refine w_ieq_t dX9_letter_36 (t := 48) rfl (by decide) ?_
              refine w_ic dX9_letter_48 zi_m1 ?_
              refine w_en dX9_letter_49 rfl ?_
              exact ⟨rfl, zU_0.1, zU_0.1⟩
          · skip
            refine w_cne_t dX8_letter_40 (t := 65) rfl (by have := zt_1; omega) ?_
            refine w_ic dX8_letter_65 zi_m1 ?_
            refine w_en dX8_letter_66 rfl ?_
            refine ⟨_, rfl, ?_⟩
            refine ZV.of (ini := false) rfl (Nat.le_of_ble_eq_true rfl) (by decide +kernel) ?_
            show ZW _ 10 9 false (some .int) cX9_letter _ (0, [some (.ref 386), some (.int a1), some (.int a2), some (.int a3), none, none, none, none, none], [], zM0)
            refine w_lo dX9_letter_0 rfl rfl rfl rfl ?_
            refine w_ic dX9_letter_1 zi_0 ?_
            refine w_ic dX9_letter_2 zi_1 ?_
            refine w_ss dX9_letter_3 rfl rfl (As := [.int a1, .int 0, .int 1]) rfl rfl (Nat.le_of_ble_eq_true rfl) ?_
            refine ZV.of (ini := false) rfl (Nat.le_of_ble_eq_true rfl) (by decide +kernel) ?_
            show ZW _ 9 9 false (some .boolean) cX9_is _ (0, [some (.int a1), some (.int 0), some (.int 1)], [], zM0)
            refine w_lo dX9_is_0 rfl rfl rfl rfl ?_
            refine w_lo dX9_is_1 rfl rfl rfl rfl ?_
            refine w_clt_f dX9_is_2 (t := 14) rfl (by have := zt_0; omega) ?_
            refine w_lo dX9_is_5 rfl rfl rfl rfl ?_
            refine w_lo dX9_is_6 rfl rfl rfl rfl ?_
            refine w_cgt_t dX9_is_7 (t := 14) rfl (by have := zt_1; omega) ?_
            refine w_ic dX9_is_14 zi_0 ?_
            refine w_en dX9_is_15 rfl ?_
            show ZW _ 10 9 false (some .int) cX9_letter _ (6, [some (.ref 386), some (.int a1), some (.int a2), some (.int a3), none, none, none, none, none], [.int 0], zM0)
            refine w_ieq_t dX9_letter_6 (t := 48) rfl (by decide) ?_
            refine w_ic dX9_letter_48 zi_m1 ?_
            refine w_en dX9_letter_49 rfl ?_
            exact ⟨rfl, zU_0.1, zU_0.1⟩
    · skip
      refine w_clt_f dX8_letter_7 (t := 12) rfl (by have := zt_6; omega) ?_
      refine w_ic dX8_letter_10 zi_m1 ?_
      refine w_en dX8_letter_11 rfl ?_
      refine ⟨_, rfl, ?_⟩
      refine ZV.of (ini := false) rfl (Nat.le_of_ble_eq_true rfl) (by decide +kernel) ?_
      show ZW _ 10 9 false (some .int) cX9_letter _ (0, [some (.ref 386), some (.int a1), some (.int a2), some (.int a3), none, none, none, none, none], [], zM0)
      refine w_lo dX9_letter_0 rfl rfl rfl rfl ?_
      refine w_ic dX9_letter_1 zi_0 ?_
      refine w_ic dX9_letter_2 zi_1 ?_
      refine w_ss dX9_letter_3 rfl rfl (As := [.int a1, .int 0, .int 1]) rfl rfl (Nat.le_of_ble_eq_true rfl) ?_
      refine ZV.of (ini := false) rfl (Nat.le_of_ble_eq_true rfl) (by decide +kernel) ?_
      show ZW _ 9 9 false (some .boolean) cX9_is _ (0, [some (.int a1), some (.int 0), some (.int 1)], [], zM0)
      refine w_lo dX9_is_0 rfl rfl rfl rfl ?_
      refine w_lo dX9_is_1 rfl rfl rfl rfl ?_
      rcases zcut a1.toInt (0) with h58 | h58
      · skip
        refine w_clt_t dX9_is_2 (t := 14) rfl (by have := zt_0; omega) ?_
        refine w_ic dX9_is_14 zi_0 ?_
        refine w_en dX9_is_15 rfl ?_
        show ZW _ 10 9 false (some .int) cX9_letter _ (6, [some (.ref 386), some (.int a1), some (.int a2), some (.int a3), none, none, none, none, none], [.int 0], zM0)
        refine w_ieq_t dX9_letter_6 (t := 48) rfl (by decide) ?_
        refine w_ic dX9_letter_48 zi_m1 ?_
        refine w_en dX9_letter_49 rfl ?_
        exact ⟨rfl, zU_0.1, zU_0.1⟩
      · skip
        refine w_clt_f dX9_is_2 (t := 14) rfl (by have := zt_0; omega) ?_
        refine w_lo dX9_is_5 rfl rfl rfl rfl ?_
        refine w_lo dX9_is_6 rfl rfl rfl rfl ?_
        rcases zcut a1.toInt (2) with h59 | h59
        · skip
          refine w_cgt_f dX9_is_7 (t := 14) rfl (by have := zt_1; omega) ?_
          refine w_ic dX9_is_10 zi_1 ?_
          refine w_gt dX9_is_11 (t := 15) rfl ?_
          refine w_en dX9_is_15 rfl ?_
          show ZW _ 10 9 false (some .int) cX9_letter _ (6, [some (.ref 386), some (.int a1), some (.int a2), some (.int a3), none, none, none, none, none], [.int 1], zM0)
          refine w_ieq_f dX9_letter_6 (t := 48) rfl (by decide) ?_
          refine w_lo dX9_letter_9 rfl rfl rfl rfl ?_
          refine w_ic dX9_letter_10 zi_0 ?_
          refine w_lo dX9_letter_11 rfl rfl rfl rfl ?_
          rcases zcut a1.toInt (1) with h60 | h60
          · skip
            have ea1 : a1 = 0 := zpt (n := 0) zt_0 (by omega)
            subst ea1
            refine w_ine_f dX9_letter_12 (t := 22) rfl (by decide) ?_
            refine w_lo dX9_letter_15 rfl rfl rfl rfl ?_
            refine w_iv dX9_letter_16 rfl rfl (As := []) rfl rfl zU_0.1 rfl (Nat.le_of_ble_eq_true rfl) ?_
            refine ZV.of (ini := false) rfl (Nat.le_of_ble_eq_true rfl) (by decide +kernel) ?_
            show ZW _ 9 9 false (some .int) cX9_many _ (0, [some (.ref 386)], [], zM0)
            refine w_lo dX9_many_0 rfl rfl rfl rfl ?_
            refine w_gf dX9_many_1 rfl zU_0.1 rfl ((zU_0).2 386 13 rfl |>.trans zq_386_13) ?_
            refine w_lo dX9_many_4 rfl rfl rfl rfl ?_
            refine w_gf dX9_many_5 rfl zU_0.1 rfl ((zU_0).2 386 12 rfl |>.trans zq_386_12) ?_
            refine w_ia dX9_many_8 zU_0.1 rfl (k := 0) zt_0 ((zU_0).2 388 0 rfl |>.trans zq_388_0) ?_
            refine w_en dX9_many_9 rfl ?_
            show ZW _ 10 9 false (some .int) cX9_letter _ (19, [some (.ref 386), some (.int 0), some (.int a2), some (.int a3), none, none, none, none, none], [.int 0, .int 0, .int a2], zM0)
            refine w_gt dX9_letter_19 (t := 31) rfl ?_
            refine w_ic dX9_letter_31 zi_1 ?_
            refine w_pu (st' := [.int (-1), .int 0, .int a2]) dX9_letter_32 rfl rfl ?_
            refine w_ss dX9_letter_33 rfl rfl (As := [.int a2, .int 0, .int (-1)]) rfl rfl (Nat.le_of_ble_eq_true rfl) ?_
            refine ZV.of (ini := false) rfl (Nat.le_of_ble_eq_true rfl) (by decide +kernel) ?_
            show ZW _ 9 9 false (some .boolean) cX9_is _ (0, [some (.int a2), some (.int 0), some (.int (-1))], [], zM0)
            refine w_lo dX9_is_0 rfl rfl rfl rfl ?_
            refine w_lo dX9_is_1 rfl rfl rfl rfl ?_
            rcases zcut a2.toInt (0) with h61 | h61
            · skip
              refine w_clt_t dX9_is_2 (t := 14) rfl (by have := zt_0; omega) ?_
              refine w_ic dX9_is_14 zi_0 ?_
              refine w_en dX9_is_15 rfl ?_
              show ZW _ 10 9 false (some .int) cX9_letter _ (36, [some (.ref 386), some (.int 0), some (.int a2), some (.int a3), none, none, none, none, none], [.int 0], zM0)
              refine w_ieq_t dX9_letter_36 (t := 48) rfl (by decide) ?_
              refine w_ic dX9_letter_48 zi_m1 ?_
              refine w_en dX9_letter_49 rfl ?_
              exact ⟨rfl, zU_0.1, zU_0.1⟩
            · skip
              refine w_clt_f dX9_is_2 (t := 14) rfl (by have := zt_0; omega) ?_
              refine w_lo dX9_is_5 rfl rfl rfl rfl ?_
              refine w_lo dX9_is_6 rfl rfl rfl rfl ?_
              refine w_cgt_t dX9_is_7 (t := 14) rfl (by have := zt_m1; omega) ?_
              refine w_ic dX9_is_14 zi_0 ?_
              refine w_en dX9_is_15 rfl ?_
              show ZW _ 10 9 false (some .int) cX9_letter _ (36, [some (.ref 386), some (.int 0), some (.int a2), some (.int a3), none, none, none, none, none], [.int 0], zM0)
              refine w_ieq_t dX9_letter_36 (t := 48) rfl (by decide) ?_
              refine w_ic dX9_letter_48 zi_m1 ?_
              refine w_en dX9_letter_49 rfl ?_
              exact ⟨rfl, zU_0.1, zU_0.1⟩
          · skip
            have ea1 : a1 = 1 := zpt (n := 1) zt_1 (by omega)
            subst ea1
            refine w_ine_t dX9_letter_12 (t := 22) rfl (by decide) ?_
            refine w_lo dX9_letter_22 rfl rfl rfl rfl ?_
            refine w_gf dX9_letter_23 rfl zU_0.1 rfl ((zU_0).2 386 21 rfl |>.trans zq_386_21) ?_
            refine w_lo dX9_letter_26 rfl rfl rfl rfl ?_
            refine w_gf dX9_letter_27 rfl zU_0.1 rfl ((zU_0).2 386 12 rfl |>.trans zq_386_12) ?_
            refine w_ia dX9_letter_30 zU_0.1 rfl (k := 0) zt_0 ((zU_0).2 396 0 rfl |>.trans zq_396_0) ?_
            refine w_ic dX9_letter_31 zi_1 ?_
            refine w_pu (st' := [.int (-1), .int 0, .int a2]) dX9_letter_32 rfl rfl ?_
            refine w_ss dX9_letter_33 rfl rfl (As := [.int a2, .int 0, .int (-1)]) rfl rfl (Nat.le_of_ble_eq_true rfl) ?_
            refine ZV.of (ini := false) rfl (Nat.le_of_ble_eq_true rfl) (by decide +kernel) ?_
            show ZW _ 9 9 false (some .boolean) cX9_is _ (0, [some (.int a2), some (.int 0), some (.int (-1))], [], zM0)
            refine w_lo dX9_is_0 rfl rfl rfl rfl ?_
            refine w_lo dX9_is_1 rfl rfl rfl rfl ?_
            rcases zcut a2.toInt (0) with h62 | h62
            · skip
              refine w_clt_t dX9_is_2 (t := 14) rfl (by have := zt_0; omega) ?_
              refine w_ic dX9_is_14 zi_0 ?_
              refine w_en dX9_is_15 rfl ?_
              show ZW _ 10 9 false (some .int) cX9_letter _ (36, [some (.ref 386), some (.int 1), some (.int a2), some (.int a3), none, none, none, none, none], [.int 0], zM0)
              refine w_ieq_t dX9_letter_36 (t := 48) rfl (by decide) ?_
              refine w_ic dX9_letter_48 zi_m1 ?_
              refine w_en dX9_letter_49 rfl ?_
              exact ⟨rfl, zU_0.1, zU_0.1⟩
            · skip
              refine w_clt_f dX9_is_2 (t := 14) rfl (by have := zt_0; omega) ?_
              refine w_lo dX9_is_5 rfl rfl rfl rfl ?_
              refine w_lo dX9_is_6 rfl rfl rfl rfl ?_
              refine w_cgt_t dX9_is_7 (t := 14) rfl (by have := zt_m1; omega) ?_
              refine w_ic dX9_is_14 zi_0 ?_
              refine w_en dX9_is_15 rfl ?_
              show ZW _ 10 9 false (some .int) cX9_letter _ (36, [some (.ref 386), some (.int 1), some (.int a2), some (.int a3), none, none, none, none, none], [.int 0], zM0)
              refine w_ieq_t dX9_letter_36 (t := 48) rfl (by decide) ?_
              refine w_ic dX9_letter_48 zi_m1 ?_
              refine w_en dX9_letter_49 rfl ?_
              exact ⟨rfl, zU_0.1, zU_0.1⟩
        · skip
          refine w_cgt_t dX9_is_7 (t := 14) rfl (by have := zt_1; omega) ?_
          refine w_ic dX9_is_14 zi_0 ?_
          refine w_en dX9_is_15 rfl ?_
          show ZW _ 10 9 false (some .int) cX9_letter _ (6, [some (.ref 386), some (.int a1), some (.int a2), some (.int a3), none, none, none, none, none], [.int 0], zM0)
          refine w_ieq_t dX9_letter_6 (t := 48) rfl (by decide) ?_
          refine w_ic dX9_letter_48 zi_m1 ?_
          refine w_en dX9_letter_49 rfl ?_
          exact ⟨rfl, zU_0.1, zU_0.1⟩
theorem zp_6 (a1 a2 : Int32) : ∃ (v : Int32) (M1 M2 : zM), ZC [] 11 2063 [.ref 0, .int a1, .int a2] zM0 (some (.int v), M1) ∧ ZC [] 11 2352 [.ref 386, .int a1, .int a2] M1 (some (.int v), M2) ∧ zSh M1 ∧ zSh M2 := by
  refine zp_of ?_
  refine ZV.of (ini := false) rfl (Nat.le_of_ble_eq_true rfl) (by decide +kernel) ?_
  show ZW _ 10 8 false (some .int) cX8_boy _ (0, [some (.ref 0), some (.int a1), some (.int a2)], [], zM0)
  refine w_lo dX8_boy_0 rfl rfl rfl rfl ?_
  refine w_lo dX8_boy_1 rfl rfl rfl rfl ?_
  refine w_iv dX8_boy_2 rfl rfl (As := [.int a1]) rfl rfl zU_0.1 rfl (Nat.le_of_ble_eq_true rfl) ?_
  refine ZV.of (ini := false) rfl (Nat.le_of_ble_eq_true rfl) (by decide +kernel) ?_
  show ZW _ 9 8 false (some .boolean) cX8_isBoy _ (0, [some (.ref 0), some (.int a1)], [], zM0)
  refine w_lo dX8_isBoy_0 rfl rfl rfl rfl ?_
  rcases zcut a1.toInt (0) with h63 | h63
  · skip
    refine w_ilt_t dX8_isBoy_1 (t := 19) rfl (by omega) ?_
    refine w_ic dX8_isBoy_19 zi_0 ?_
    refine w_en dX8_isBoy_20 rfl ?_
    show ZW _ 10 8 false (some .int) cX8_boy _ (5, [some (.ref 0), some (.int a1), some (.int a2)], [.int 0], zM0)
    refine w_ine_f dX8_boy_5 (t := 10) rfl (by decide) ?_
    refine w_ic dX8_boy_8 zi_m1 ?_
    refine w_en dX8_boy_9 rfl ?_
    refine ⟨_, rfl, ?_⟩
    refine ZV.of (ini := false) rfl (Nat.le_of_ble_eq_true rfl) (by decide +kernel) ?_
    show ZW _ 10 9 false (some .int) cX9_boy _ (0, [some (.ref 386), some (.int a1), some (.int a2)], [], zM0)
    refine w_lo dX9_boy_0 rfl rfl rfl rfl ?_
    refine w_lo dX9_boy_1 rfl rfl rfl rfl ?_
    refine w_iv dX9_boy_2 rfl rfl (As := [.int a1]) rfl rfl zU_0.1 rfl (Nat.le_of_ble_eq_true rfl) ?_
    refine ZV.of (ini := false) rfl (Nat.le_of_ble_eq_true rfl) (by decide +kernel) ?_
    show ZW _ 9 9 false (some .boolean) cX9_isBoy _ (0, [some (.ref 386), some (.int a1)], [], zM0)
    refine w_lo dX9_isBoy_0 rfl rfl rfl rfl ?_
    refine w_ilt_t dX9_isBoy_1 (t := 21) rfl (by omega) ?_
    refine w_ic dX9_isBoy_21 zi_0 ?_
    refine w_en dX9_isBoy_22 rfl ?_
    show ZW _ 10 9 false (some .int) cX9_boy _ (5, [some (.ref 386), some (.int a1), some (.int a2)], [.int 0], zM0)
    refine w_ine_f dX9_boy_5 (t := 10) rfl (by decide) ?_
    refine w_ic dX9_boy_8 zi_m1 ?_
    refine w_en dX9_boy_9 rfl ?_
    exact ⟨rfl, zU_0.1, zU_0.1⟩
  · skip
    refine w_ilt_f dX8_isBoy_1 (t := 19) rfl (by omega) ?_
    refine w_lo dX8_isBoy_4 rfl rfl rfl rfl ?_
    refine w_lo dX8_isBoy_5 rfl rfl rfl rfl ?_
    refine w_gf dX8_isBoy_6 rfl zU_0.1 rfl ((zU_0).2 0 3 rfl |>.trans zq_0_3) ?_
    refine w_gf dX8_isBoy_9 rfl zU_0.1 rfl ((zU_0).2 28 1 rfl |>.trans zq_28_1) ?_
    refine w_cge_t dX8_isBoy_12 (t := 19) rfl (by have := zt_0; omega) ?_
    refine w_ic dX8_isBoy_19 zi_0 ?_
    refine w_en dX8_isBoy_20 rfl ?_
    show ZW _ 10 8 false (some .int) cX8_boy _ (5, [some (.ref 0), some (.int a1), some (.int a2)], [.int 0], zM0)
    refine w_ine_f dX8_boy_5 (t := 10) rfl (by decide) ?_
    refine w_ic dX8_boy_8 zi_m1 ?_
    refine w_en dX8_boy_9 rfl ?_
    refine ⟨_, rfl, ?_⟩
    refine ZV.of (ini := false) rfl (Nat.le_of_ble_eq_true rfl) (by decide +kernel) ?_
    show ZW _ 10 9 false (some .int) cX9_boy _ (0, [some (.ref 386), some (.int a1), some (.int a2)], [], zM0)
    refine w_lo dX9_boy_0 rfl rfl rfl rfl ?_
    refine w_lo dX9_boy_1 rfl rfl rfl rfl ?_
    refine w_iv dX9_boy_2 rfl rfl (As := [.int a1]) rfl rfl zU_0.1 rfl (Nat.le_of_ble_eq_true rfl) ?_
    refine ZV.of (ini := false) rfl (Nat.le_of_ble_eq_true rfl) (by decide +kernel) ?_
    show ZW _ 9 9 false (some .boolean) cX9_isBoy _ (0, [some (.ref 386), some (.int a1)], [], zM0)
    refine w_lo dX9_isBoy_0 rfl rfl rfl rfl ?_
    refine w_ilt_f dX9_isBoy_1 (t := 21) rfl (by omega) ?_
    refine w_lo dX9_isBoy_4 rfl rfl rfl rfl ?_
    refine w_lo dX9_isBoy_5 rfl rfl rfl rfl ?_
    refine w_gf dX9_isBoy_6 rfl zU_0.1 rfl ((zU_0).2 386 13 rfl |>.trans zq_386_13) ?_
    refine w_lo dX9_isBoy_9 rfl rfl rfl rfl ?_
    refine w_gf dX9_isBoy_10 rfl zU_0.1 rfl ((zU_0).2 386 12 rfl |>.trans zq_386_12) ?_
    refine w_ia dX9_isBoy_13 zU_0.1 rfl (k := 0) zt_0 ((zU_0).2 388 0 rfl |>.trans zq_388_0) ?_
    refine w_cge_t dX9_isBoy_14 (t := 21) rfl (by have := zt_0; omega) ?_
    refine w_ic dX9_isBoy_21 zi_0 ?_
    refine w_en dX9_isBoy_22 rfl ?_
    show ZW _ 10 9 false (some .int) cX9_boy _ (5, [some (.ref 386), some (.int a1), some (.int a2)], [.int 0], zM0)
    refine w_ine_f dX9_boy_5 (t := 10) rfl (by decide) ?_
    refine w_ic dX9_boy_8 zi_m1 ?_
    refine w_en dX9_boy_9 rfl ?_
    exact ⟨rfl, zU_0.1, zU_0.1⟩
theorem zp_7 (a1 : Int32) : ∃ (v : Int32) (M1 M2 : zM), ZC [] 11 2064 [.ref 0, .int a1] zM0 (some (.int v), M1) ∧ ZC [] 11 2355 [.ref 386, .int a1] M1 (some (.int v), M2) ∧ zSh M1 ∧ zSh M2 := by
  refine zp_of ?_
  refine ZV.of (ini := false) rfl (Nat.le_of_ble_eq_true rfl) (by decide +kernel) ?_
  show ZW _ 10 8 false (some .int) cX8_at _ (0, [some (.ref 0), some (.int a1)], [], zM0)
  refine w_lo dX8_at_0 rfl rfl rfl rfl ?_
  refine w_lo dX8_at_1 rfl rfl rfl rfl ?_
  refine w_iv dX8_at_2 rfl rfl (As := [.int a1]) rfl rfl zU_0.1 rfl (Nat.le_of_ble_eq_true rfl) ?_
  refine ZV.of (ini := false) rfl (Nat.le_of_ble_eq_true rfl) (by decide +kernel) ?_
  show ZW _ 9 8 false (some .boolean) cX8_isPlace _ (0, [some (.ref 0), some (.int a1)], [], zM0)
  refine w_lo dX8_isPlace_0 rfl rfl rfl rfl ?_
  rcases zcut a1.toInt (0) with h64 | h64
  · skip
    refine w_ilt_t dX8_isPlace_1 (t := 19) rfl (by omega) ?_
    refine w_ic dX8_isPlace_19 zi_0 ?_
    refine w_en dX8_isPlace_20 rfl ?_
    show ZW _ 10 8 false (some .int) cX8_at _ (5, [some (.ref 0), some (.int a1)], [.int 0], zM0)
    refine w_ieq_t dX8_at_5 (t := 20) rfl (by decide) ?_
    refine w_ic dX8_at_20 zi_m1 ?_
    refine w_en dX8_at_21 rfl ?_
    refine ⟨_, rfl, ?_⟩
    refine ZV.of (ini := false) rfl (Nat.le_of_ble_eq_true rfl) (by decide +kernel) ?_
    show ZW _ 10 9 false (some .int) cX9_at _ (0, [some (.ref 386), some (.int a1)], [], zM0)
    refine w_lo dX9_at_0 rfl rfl rfl rfl ?_
    refine w_lo dX9_at_1 rfl rfl rfl rfl ?_
    refine w_iv dX9_at_2 rfl rfl (As := [.int a1]) rfl rfl zU_0.1 rfl (Nat.le_of_ble_eq_true rfl) ?_
    refine ZV.of (ini := false) rfl (Nat.le_of_ble_eq_true rfl) (by decide +kernel) ?_
    show ZW _ 9 9 false (some .boolean) cX9_isBoy _ (0, [some (.ref 386), some (.int a1)], [], zM0)
    refine w_lo dX9_isBoy_0 rfl rfl rfl rfl ?_
    refine w_ilt_t dX9_isBoy_1 (t := 21) rfl (by omega) ?_
    refine w_ic dX9_isBoy_21 zi_0 ?_
    refine w_en dX9_isBoy_22 rfl ?_
    show ZW _ 10 9 false (some .int) cX9_at _ (5, [some (.ref 386), some (.int a1)], [.int 0], zM0)
    refine w_ieq_t dX9_at_5 (t := 17) rfl (by decide) ?_
    refine w_ic dX9_at_17 zi_m1 ?_
    refine w_en dX9_at_18 rfl ?_
    exact ⟨rfl, zU_0.1, zU_0.1⟩
  · skip
    refine w_ilt_f dX8_isPlace_1 (t := 19) rfl (by omega) ?_
    refine w_lo dX8_isPlace_4 rfl rfl rfl rfl ?_
    refine w_lo dX8_isPlace_5 rfl rfl rfl rfl ?_
    refine w_gf dX8_isPlace_6 rfl zU_0.1 rfl ((zU_0).2 0 4 rfl |>.trans zq_0_4) ?_
    refine w_gf dX8_isPlace_9 rfl zU_0.1 rfl ((zU_0).2 49 0 rfl |>.trans zq_49_0) ?_
    refine w_cge_t dX8_isPlace_12 (t := 19) rfl (by have := zt_0; omega) ?_
    refine w_ic dX8_isPlace_19 zi_0 ?_
    refine w_en dX8_isPlace_20 rfl ?_
    show ZW _ 10 8 false (some .int) cX8_at _ (5, [some (.ref 0), some (.int a1)], [.int 0], zM0)
    refine w_ieq_t dX8_at_5 (t := 20) rfl (by decide) ?_
    refine w_ic dX8_at_20 zi_m1 ?_
    refine w_en dX8_at_21 rfl ?_
    refine ⟨_, rfl, ?_⟩
    refine ZV.of (ini := false) rfl (Nat.le_of_ble_eq_true rfl) (by decide +kernel) ?_
    show ZW _ 10 9 false (some .int) cX9_at _ (0, [some (.ref 386), some (.int a1)], [], zM0)
    refine w_lo dX9_at_0 rfl rfl rfl rfl ?_
    refine w_lo dX9_at_1 rfl rfl rfl rfl ?_
    refine w_iv dX9_at_2 rfl rfl (As := [.int a1]) rfl rfl zU_0.1 rfl (Nat.le_of_ble_eq_true rfl) ?_
    refine ZV.of (ini := false) rfl (Nat.le_of_ble_eq_true rfl) (by decide +kernel) ?_
    show ZW _ 9 9 false (some .boolean) cX9_isBoy _ (0, [some (.ref 386), some (.int a1)], [], zM0)
    refine w_lo dX9_isBoy_0 rfl rfl rfl rfl ?_
    refine w_ilt_f dX9_isBoy_1 (t := 21) rfl (by omega) ?_
    refine w_lo dX9_isBoy_4 rfl rfl rfl rfl ?_
    refine w_lo dX9_isBoy_5 rfl rfl rfl rfl ?_
    refine w_gf dX9_isBoy_6 rfl zU_0.1 rfl ((zU_0).2 386 13 rfl |>.trans zq_386_13) ?_
    refine w_lo dX9_isBoy_9 rfl rfl rfl rfl ?_
    refine w_gf dX9_isBoy_10 rfl zU_0.1 rfl ((zU_0).2 386 12 rfl |>.trans zq_386_12) ?_
    refine w_ia dX9_isBoy_13 zU_0.1 rfl (k := 0) zt_0 ((zU_0).2 388 0 rfl |>.trans zq_388_0) ?_
    refine w_cge_t dX9_isBoy_14 (t := 21) rfl (by have := zt_0; omega) ?_
    refine w_ic dX9_isBoy_21 zi_0 ?_
    refine w_en dX9_isBoy_22 rfl ?_
    show ZW _ 10 9 false (some .int) cX9_at _ (5, [some (.ref 386), some (.int a1)], [.int 0], zM0)
    refine w_ieq_t dX9_at_5 (t := 17) rfl (by decide) ?_
    refine w_ic dX9_at_17 zi_m1 ?_
    refine w_en dX9_at_18 rfl ?_
    exact ⟨rfl, zU_0.1, zU_0.1⟩
theorem zp_8 (a1 a2 : Int32) : ∃ (v : Int32) (M1 M2 : zM), ZC [] 11 2066 [.ref 0, .int a1, .int a2] zM0 (some (.int v), M1) ∧ ZC [] 11 2356 [.ref 386, .int a1, .int a2] M1 (some (.int v), M2) ∧ zSh M1 ∧ zSh M2 := by
  refine zp_of ?_
  refine ZV.of (ini := false) rfl (Nat.le_of_ble_eq_true rfl) (by decide +kernel) ?_
  show ZW _ 10 8 false (some .int) cX8_knot _ (0, [some (.ref 0), some (.int a1), some (.int a2)], [], zM0)
  refine w_lo dX8_knot_0 rfl rfl rfl rfl ?_
  refine w_lo dX8_knot_1 rfl rfl rfl rfl ?_
  refine w_iv dX8_knot_2 rfl rfl (As := [.int a1]) rfl rfl zU_0.1 rfl (Nat.le_of_ble_eq_true rfl) ?_
  refine ZV.of (ini := false) rfl (Nat.le_of_ble_eq_true rfl) (by decide +kernel) ?_
  show ZW _ 9 8 false (some .boolean) cX8_isKnot _ (0, [some (.ref 0), some (.int a1)], [], zM0)
  refine w_lo dX8_isKnot_0 rfl rfl rfl rfl ?_
  rcases zcut a1.toInt (0) with h65 | h65
  · skip
    refine w_ilt_t dX8_isKnot_1 (t := 21) rfl (by omega) ?_
    refine w_ic dX8_isKnot_21 zi_0 ?_
    refine w_en dX8_isKnot_22 rfl ?_
    show ZW _ 10 8 false (some .int) cX8_knot _ (5, [some (.ref 0), some (.int a1), some (.int a2)], [.int 0], zM0)
    refine w_ine_f dX8_knot_5 (t := 10) rfl (by decide) ?_
    refine w_ic dX8_knot_8 zi_m1 ?_
    refine w_en dX8_knot_9 rfl ?_
    refine ⟨_, rfl, ?_⟩
    refine ZV.of (ini := false) rfl (Nat.le_of_ble_eq_true rfl) (by decide +kernel) ?_
    show ZW _ 10 9 false (some .int) cX9_knot _ (0, [some (.ref 386), some (.int a1), some (.int a2)], [], zM0)
    refine w_lo dX9_knot_0 rfl rfl rfl rfl ?_
    refine w_lo dX9_knot_1 rfl rfl rfl rfl ?_
    refine w_iv dX9_knot_2 rfl rfl (As := [.int a1]) rfl rfl zU_0.1 rfl (Nat.le_of_ble_eq_true rfl) ?_
    refine ZV.of (ini := false) rfl (Nat.le_of_ble_eq_true rfl) (by decide +kernel) ?_
    show ZW _ 9 9 false (some .boolean) cX9_isKnot _ (0, [some (.ref 386), some (.int a1)], [], zM0)
    refine w_lo dX9_isKnot_0 rfl rfl rfl rfl ?_
    refine w_ilt_t dX9_isKnot_1 (t := 23) rfl (by omega) ?_
    refine w_ic dX9_isKnot_23 zi_0 ?_
    refine w_en dX9_isKnot_24 rfl ?_
    show ZW _ 10 9 false (some .int) cX9_knot _ (5, [some (.ref 386), some (.int a1), some (.int a2)], [.int 0], zM0)
    refine w_ine_f dX9_knot_5 (t := 12) rfl (by decide) ?_
    refine w_ic dX9_knot_8 zi_m1 ?_
    refine w_gt dX9_knot_9 (t := 53) rfl ?_
    refine w_en dX9_knot_53 rfl ?_
    exact ⟨rfl, zU_0.1, zU_0.1⟩
  · skip
    refine w_ilt_f dX8_isKnot_1 (t := 21) rfl (by omega) ?_
    refine w_lo dX8_isKnot_4 rfl rfl rfl rfl ?_
    refine w_lo dX8_isKnot_5 rfl rfl rfl rfl ?_
    refine w_gf dX8_isKnot_6 rfl zU_0.1 rfl ((zU_0).2 0 4 rfl |>.trans zq_0_4) ?_
    refine w_gf dX8_isKnot_9 rfl zU_0.1 rfl ((zU_0).2 49 0 rfl |>.trans zq_49_0) ?_
    refine w_ic dX8_isKnot_12 zi_1 ?_
    refine w_pu (st' := [.int (-1), .int a1]) dX8_isKnot_13 rfl rfl ?_
    refine w_cge_t dX8_isKnot_14 (t := 21) rfl (by have := zt_m1; omega) ?_
    refine w_ic dX8_isKnot_21 zi_0 ?_
    refine w_en dX8_isKnot_22 rfl ?_
    show ZW _ 10 8 false (some .int) cX8_knot _ (5, [some (.ref 0), some (.int a1), some (.int a2)], [.int 0], zM0)
    refine w_ine_f dX8_knot_5 (t := 10) rfl (by decide) ?_
    refine w_ic dX8_knot_8 zi_m1 ?_
    refine w_en dX8_knot_9 rfl ?_
    refine ⟨_, rfl, ?_⟩
    refine ZV.of (ini := false) rfl (Nat.le_of_ble_eq_true rfl) (by decide +kernel) ?_
    show ZW _ 10 9 false (some .int) cX9_knot _ (0, [some (.ref 386), some (.int a1), some (.int a2)], [], zM0)
    refine w_lo dX9_knot_0 rfl rfl rfl rfl ?_
    refine w_lo dX9_knot_1 rfl rfl rfl rfl ?_
    refine w_iv dX9_knot_2 rfl rfl (As := [.int a1]) rfl rfl zU_0.1 rfl (Nat.le_of_ble_eq_true rfl) ?_
    refine ZV.of (ini := false) rfl (Nat.le_of_ble_eq_true rfl) (by decide +kernel) ?_
    show ZW _ 9 9 false (some .boolean) cX9_isKnot _ (0, [some (.ref 386), some (.int a1)], [], zM0)
    refine w_lo dX9_isKnot_0 rfl rfl rfl rfl ?_
    refine w_ilt_f dX9_isKnot_1 (t := 23) rfl (by omega) ?_
    refine w_lo dX9_isKnot_4 rfl rfl rfl rfl ?_
    refine w_lo dX9_isKnot_5 rfl rfl rfl rfl ?_
    refine w_gf dX9_isKnot_6 rfl zU_0.1 rfl ((zU_0).2 386 13 rfl |>.trans zq_386_13) ?_
    refine w_lo dX9_isKnot_9 rfl rfl rfl rfl ?_
    refine w_gf dX9_isKnot_10 rfl zU_0.1 rfl ((zU_0).2 386 12 rfl |>.trans zq_386_12) ?_
    refine w_ia dX9_isKnot_13 zU_0.1 rfl (k := 0) zt_0 ((zU_0).2 388 0 rfl |>.trans zq_388_0) ?_
    refine w_ic dX9_isKnot_14 zi_1 ?_
    refine w_pu (st' := [.int (-1), .int a1]) dX9_isKnot_15 rfl rfl ?_
    refine w_cge_t dX9_isKnot_16 (t := 23) rfl (by have := zt_m1; omega) ?_
    refine w_ic dX9_isKnot_23 zi_0 ?_
    refine w_en dX9_isKnot_24 rfl ?_
    show ZW _ 10 9 false (some .int) cX9_knot _ (5, [some (.ref 386), some (.int a1), some (.int a2)], [.int 0], zM0)
    refine w_ine_f dX9_knot_5 (t := 12) rfl (by decide) ?_
    refine w_ic dX9_knot_8 zi_m1 ?_
    refine w_gt dX9_knot_9 (t := 53) rfl ?_
    refine w_en dX9_knot_53 rfl ?_
    exact ⟨rfl, zU_0.1, zU_0.1⟩
theorem zp_9 (a1 a2 : Int32) : ∃ (v : Int32) (M1 M2 : zM), ZC [] 11 2069 [.ref 0, .int a1, .int a2] zM0 (some (.int v), M1) ∧ ZC [] 11 2359 [.ref 386, .int a1, .int a2] M1 (some (.int v), M2) ∧ zSh M1 ∧ zSh M2 := by
  refine zp_of ?_
  refine ZV.of (ini := false) rfl (Nat.le_of_ble_eq_true rfl) (by decide +kernel) ?_
  show ZW _ 10 8 false (some .int) cX8_dream _ (0, [some (.ref 0), some (.int a1), some (.int a2)], [], zM0)
  refine w_lo dX8_dream_0 rfl rfl rfl rfl ?_
  refine w_lo dX8_dream_1 rfl rfl rfl rfl ?_
  refine w_iv dX8_dream_2 rfl rfl (As := [.int a1]) rfl rfl zU_0.1 rfl (Nat.le_of_ble_eq_true rfl) ?_
  refine ZV.of (ini := false) rfl (Nat.le_of_ble_eq_true rfl) (by decide +kernel) ?_
  show ZW _ 9 8 false (some .boolean) cX8_isDream _ (0, [some (.ref 0), some (.int a1)], [], zM0)
  refine w_lo dX8_isDream_0 rfl rfl rfl rfl ?_
  rcases zcut a1.toInt (0) with h66 | h66
  · skip
    refine w_ilt_t dX8_isDream_1 (t := 19) rfl (by omega) ?_
    refine w_ic dX8_isDream_19 zi_0 ?_
    refine w_en dX8_isDream_20 rfl ?_
    show ZW _ 10 8 false (some .int) cX8_dream _ (5, [some (.ref 0), some (.int a1), some (.int a2)], [.int 0], zM0)
    refine w_ine_f dX8_dream_5 (t := 10) rfl (by decide) ?_
    refine w_ic dX8_dream_8 zi_m1 ?_
    refine w_en dX8_dream_9 rfl ?_
    refine ⟨_, rfl, ?_⟩
    refine ZV.of (ini := false) rfl (Nat.le_of_ble_eq_true rfl) (by decide +kernel) ?_
    show ZW _ 10 9 false (some .int) cX9_dream _ (0, [some (.ref 386), some (.int a1), some (.int a2), none, none], [], zM0)
    refine w_lo dX9_dream_0 rfl rfl rfl rfl ?_
    refine w_lo dX9_dream_1 rfl rfl rfl rfl ?_
    refine w_iv dX9_dream_2 rfl rfl (As := [.int a1]) rfl rfl zU_0.1 rfl (Nat.le_of_ble_eq_true rfl) ?_
    refine ZV.of (ini := false) rfl (Nat.le_of_ble_eq_true rfl) (by decide +kernel) ?_
    show ZW _ 9 9 false (some .boolean) cX9_isDream _ (0, [some (.ref 386), some (.int a1)], [], zM0)
    refine w_lo dX9_isDream_0 rfl rfl rfl rfl ?_
    refine w_ilt_t dX9_isDream_1 (t := 21) rfl (by omega) ?_
    refine w_ic dX9_isDream_21 zi_0 ?_
    refine w_en dX9_isDream_22 rfl ?_
    show ZW _ 10 9 false (some .int) cX9_dream _ (5, [some (.ref 386), some (.int a1), some (.int a2), none, none], [.int 0], zM0)
    refine w_ine_f dX9_dream_5 (t := 10) rfl (by decide) ?_
    refine w_ic dX9_dream_8 zi_m1 ?_
    refine w_en dX9_dream_9 rfl ?_
    exact ⟨rfl, zU_0.1, zU_0.1⟩
  · skip
    refine w_ilt_f dX8_isDream_1 (t := 19) rfl (by omega) ?_
    refine w_lo dX8_isDream_4 rfl rfl rfl rfl ?_
    refine w_lo dX8_isDream_5 rfl rfl rfl rfl ?_
    refine w_gf dX8_isDream_6 rfl zU_0.1 rfl ((zU_0).2 0 3 rfl |>.trans zq_0_3) ?_
    refine w_gf dX8_isDream_9 rfl zU_0.1 rfl ((zU_0).2 28 2 rfl |>.trans zq_28_2) ?_
    refine w_cge_t dX8_isDream_12 (t := 19) rfl (by have := zt_0; omega) ?_
    refine w_ic dX8_isDream_19 zi_0 ?_
    refine w_en dX8_isDream_20 rfl ?_
    show ZW _ 10 8 false (some .int) cX8_dream _ (5, [some (.ref 0), some (.int a1), some (.int a2)], [.int 0], zM0)
    refine w_ine_f dX8_dream_5 (t := 10) rfl (by decide) ?_
    refine w_ic dX8_dream_8 zi_m1 ?_
    refine w_en dX8_dream_9 rfl ?_
    refine ⟨_, rfl, ?_⟩
    refine ZV.of (ini := false) rfl (Nat.le_of_ble_eq_true rfl) (by decide +kernel) ?_
    show ZW _ 10 9 false (some .int) cX9_dream _ (0, [some (.ref 386), some (.int a1), some (.int a2), none, none], [], zM0)
    refine w_lo dX9_dream_0 rfl rfl rfl rfl ?_
    refine w_lo dX9_dream_1 rfl rfl rfl rfl ?_
    refine w_iv dX9_dream_2 rfl rfl (As := [.int a1]) rfl rfl zU_0.1 rfl (Nat.le_of_ble_eq_true rfl) ?_
    refine ZV.of (ini := false) rfl (Nat.le_of_ble_eq_true rfl) (by decide +kernel) ?_
    show ZW _ 9 9 false (some .boolean) cX9_isDream _ (0, [some (.ref 386), some (.int a1)], [], zM0)
    refine w_lo dX9_isDream_0 rfl rfl rfl rfl ?_
    refine w_ilt_f dX9_isDream_1 (t := 21) rfl (by omega) ?_
    refine w_lo dX9_isDream_4 rfl rfl rfl rfl ?_
    refine w_lo dX9_isDream_5 rfl rfl rfl rfl ?_
    refine w_gf dX9_isDream_6 rfl zU_0.1 rfl ((zU_0).2 386 21 rfl |>.trans zq_386_21) ?_
    refine w_lo dX9_isDream_9 rfl rfl rfl rfl ?_
    refine w_gf dX9_isDream_10 rfl zU_0.1 rfl ((zU_0).2 386 12 rfl |>.trans zq_386_12) ?_
    refine w_ia dX9_isDream_13 zU_0.1 rfl (k := 0) zt_0 ((zU_0).2 396 0 rfl |>.trans zq_396_0) ?_
    refine w_cge_t dX9_isDream_14 (t := 21) rfl (by have := zt_0; omega) ?_
    refine w_ic dX9_isDream_21 zi_0 ?_
    refine w_en dX9_isDream_22 rfl ?_
    show ZW _ 10 9 false (some .int) cX9_dream _ (5, [some (.ref 386), some (.int a1), some (.int a2), none, none], [.int 0], zM0)
    refine w_ine_f dX9_dream_5 (t := 10) rfl (by decide) ?_
    refine w_ic dX9_dream_8 zi_m1 ?_
    refine w_en dX9_dream_9 rfl ?_
    exact ⟨rfl, zU_0.1, zU_0.1⟩
theorem zp_10 (a1 a2 : Int32) : ∃ (v : Int32) (M1 M2 : zM), ZC [] 11 2070 [.ref 0, .int a1, .int a2] zM0 (some (.int v), M1) ∧ ZC [] 11 2361 [.ref 386, .int a1, .int a2] M1 (some (.int v), M2) ∧ zSh M1 ∧ zSh M2 := by
  refine zp_of ?_
  refine ZV.of (ini := false) rfl (Nat.le_of_ble_eq_true rfl) (by decide +kernel) ?_
  show ZW _ 10 8 false (some .int) cX8_tug _ (0, [some (.ref 0), some (.int a1), some (.int a2), none], [], zM0)
  refine w_lo dX8_tug_0 rfl rfl rfl rfl ?_
  rcases zcut a1.toInt (0) with h67 | h67
  · skip
    refine w_ilt_t dX8_tug_1 (t := 15) rfl (by omega) ?_
    refine w_ic dX8_tug_15 zi_m1 ?_
    refine w_en dX8_tug_16 rfl ?_
    refine ⟨_, rfl, ?_⟩
    refine ZV.of (ini := false) rfl (Nat.le_of_ble_eq_true rfl) (by decide +kernel) ?_
    show ZW _ 10 9 false (some .int) cX9_tug _ (0, [some (.ref 386), some (.int a1), some (.int a2)], [], zM0)
    refine w_lo dX9_tug_0 rfl rfl rfl rfl ?_
    refine w_ic dX9_tug_1 zi_0 ?_
    refine w_lo dX9_tug_2 rfl rfl rfl rfl ?_
    refine w_gf dX9_tug_3 rfl zU_0.1 rfl ((zU_0).2 386 62 rfl |>.trans zq_386_62) ?_
    refine w_ic dX9_tug_6 zi_0 ?_
    refine w_ia dX9_tug_7 zU_0.1 rfl (k := 0) zt_0 ((zU_0).2 431 0 rfl |>.trans zq_431_0) ?_
    refine w_ic dX9_tug_8 zi_1 ?_
    refine w_pu (st' := [.int (-1), .int 0, .int a1]) dX9_tug_9 rfl rfl ?_
    refine w_ss dX9_tug_10 rfl rfl (As := [.int a1, .int 0, .int (-1)]) rfl rfl (Nat.le_of_ble_eq_true rfl) ?_
    refine ZV.of (ini := false) rfl (Nat.le_of_ble_eq_true rfl) (by decide +kernel) ?_
    show ZW _ 9 9 false (some .boolean) cX9_is _ (0, [some (.int a1), some (.int 0), some (.int (-1))], [], zM0)
    refine w_lo dX9_is_0 rfl rfl rfl rfl ?_
    refine w_lo dX9_is_1 rfl rfl rfl rfl ?_
    refine w_clt_t dX9_is_2 (t := 14) rfl (by have := zt_0; omega) ?_
    refine w_ic dX9_is_14 zi_0 ?_
    refine w_en dX9_is_15 rfl ?_
    show ZW _ 10 9 false (some .int) cX9_tug _ (13, [some (.ref 386), some (.int a1), some (.int a2)], [.int 0], zM0)
    refine w_ieq_t dX9_tug_13 (t := 38) rfl (by decide) ?_
    refine w_ic dX9_tug_38 zi_m1 ?_
    refine w_en dX9_tug_39 rfl ?_
    exact ⟨rfl, zU_0.1, zU_0.1⟩
  · skip
    refine w_ilt_f dX8_tug_1 (t := 15) rfl (by omega) ?_
    refine w_lo dX8_tug_4 rfl rfl rfl rfl ?_
    refine w_lo dX8_tug_5 rfl rfl rfl rfl ?_
    refine w_gf dX8_tug_6 rfl zU_0.1 rfl ((zU_0).2 0 4 rfl |>.trans zq_0_4) ?_
    refine w_iv dX8_tug_9 rfl rfl (As := []) rfl rfl zU_0.1 rfl (Nat.le_of_ble_eq_true rfl) ?_
    refine ZV.of (ini := false) rfl (Nat.le_of_ble_eq_true rfl) (by decide +kernel) ?_
    show ZW _ 9 6 false (some .int) cX6_told _ (0, [some (.ref 49)], [], zM0)
    refine w_lo dX6_told_0 rfl rfl rfl rfl ?_
    refine w_gf dX6_told_1 rfl zU_0.1 rfl ((zU_0).2 49 14 rfl |>.trans zq_49_14) ?_
    refine w_si dX6_told_4 (c := 200) (by decide) ?_
    refine w_mn dX6_told_7 rfl (Nat.le_of_ble_eq_true rfl) ?_
    show ZW _ 9 6 false (some .int) cX6_told _ (10, [some (.ref 49)], [.int 0], zM0)
    refine w_en dX6_told_10 rfl ?_
    show ZW _ 10 8 false (some .int) cX8_tug _ (12, [some (.ref 0), some (.int a1), some (.int a2), none], [.int 0, .int a1], zM0)
    refine w_clt_f dX8_tug_12 (t := 17) rfl (by have := zt_0; omega) ?_
    refine w_ic dX8_tug_15 zi_m1 ?_
    refine w_en dX8_tug_16 rfl ?_
    refine ⟨_, rfl, ?_⟩
    refine ZV.of (ini := false) rfl (Nat.le_of_ble_eq_true rfl) (by decide +kernel) ?_
    show ZW _ 10 9 false (some .int) cX9_tug _ (0, [some (.ref 386), some (.int a1), some (.int a2)], [], zM0)
    refine w_lo dX9_tug_0 rfl rfl rfl rfl ?_
    refine w_ic dX9_tug_1 zi_0 ?_
    refine w_lo dX9_tug_2 rfl rfl rfl rfl ?_
    refine w_gf dX9_tug_3 rfl zU_0.1 rfl ((zU_0).2 386 62 rfl |>.trans zq_386_62) ?_
    refine w_ic dX9_tug_6 zi_0 ?_
    refine w_ia dX9_tug_7 zU_0.1 rfl (k := 0) zt_0 ((zU_0).2 431 0 rfl |>.trans zq_431_0) ?_
    refine w_ic dX9_tug_8 zi_1 ?_
    refine w_pu (st' := [.int (-1), .int 0, .int a1]) dX9_tug_9 rfl rfl ?_
    refine w_ss dX9_tug_10 rfl rfl (As := [.int a1, .int 0, .int (-1)]) rfl rfl (Nat.le_of_ble_eq_true rfl) ?_
    refine ZV.of (ini := false) rfl (Nat.le_of_ble_eq_true rfl) (by decide +kernel) ?_
    show ZW _ 9 9 false (some .boolean) cX9_is _ (0, [some (.int a1), some (.int 0), some (.int (-1))], [], zM0)
    refine w_lo dX9_is_0 rfl rfl rfl rfl ?_
    refine w_lo dX9_is_1 rfl rfl rfl rfl ?_
    refine w_clt_f dX9_is_2 (t := 14) rfl (by have := zt_0; omega) ?_
    refine w_lo dX9_is_5 rfl rfl rfl rfl ?_
    refine w_lo dX9_is_6 rfl rfl rfl rfl ?_
    refine w_cgt_t dX9_is_7 (t := 14) rfl (by have := zt_m1; omega) ?_
    refine w_ic dX9_is_14 zi_0 ?_
    refine w_en dX9_is_15 rfl ?_
    show ZW _ 10 9 false (some .int) cX9_tug _ (13, [some (.ref 386), some (.int a1), some (.int a2)], [.int 0], zM0)
    refine w_ieq_t dX9_tug_13 (t := 38) rfl (by decide) ?_
    refine w_ic dX9_tug_38 zi_m1 ?_
    refine w_en dX9_tug_39 rfl ?_
    exact ⟨rfl, zU_0.1, zU_0.1⟩
theorem zp_11 (a1 a2 a3 : Int32) : ∃ (v : Int32) (M1 M2 : zM), ZC [] 11 2071 [.ref 0, .int a1, .int a2, .int a3] zM0 (some (.int v), M1) ∧ ZC [] 11 2362 [.ref 386, .int a1, .int a2, .int a3] M1 (some (.int v), M2) ∧ zSh M1 ∧ zSh M2 := by
  refine zp_of ?_
  refine ZV.of (ini := false) rfl (Nat.le_of_ble_eq_true rfl) (by decide +kernel) ?_
  show ZW _ 10 8 false (some .int) cX8_law _ (0, [some (.ref 0), some (.int a1), some (.int a2), some (.int a3), none], [], zM0)
  refine w_lo dX8_law_0 rfl rfl rfl rfl ?_
  refine w_lo dX8_law_1 rfl rfl rfl rfl ?_
  refine w_iv dX8_law_2 rfl rfl (As := [.int a1]) rfl rfl zU_0.1 rfl (Nat.le_of_ble_eq_true rfl) ?_
  refine ZV.of (ini := false) rfl (Nat.le_of_ble_eq_true rfl) (by decide +kernel) ?_
  show ZW _ 9 8 false (some .boolean) cX8_isPlace _ (0, [some (.ref 0), some (.int a1)], [], zM0)
  refine w_lo dX8_isPlace_0 rfl rfl rfl rfl ?_
  rcases zcut a1.toInt (0) with h68 | h68
  · skip
    refine w_ilt_t dX8_isPlace_1 (t := 19) rfl (by omega) ?_
    refine w_ic dX8_isPlace_19 zi_0 ?_
    refine w_en dX8_isPlace_20 rfl ?_
    show ZW _ 10 8 false (some .int) cX8_law _ (5, [some (.ref 0), some (.int a1), some (.int a2), some (.int a3), none], [.int 0], zM0)
    refine w_ieq_t dX8_law_5 (t := 15) rfl (by decide) ?_
    refine w_ic dX8_law_15 zi_m1 ?_
    refine w_en dX8_law_16 rfl ?_
    refine ⟨_, rfl, ?_⟩
    refine ZV.of (ini := false) rfl (Nat.le_of_ble_eq_true rfl) (by decide +kernel) ?_
    show ZW _ 10 9 false (some .int) cX9_law _ (0, [some (.ref 386), some (.int a1), some (.int a2), some (.int a3)], [], zM0)
    refine w_lo dX9_law_0 rfl rfl rfl rfl ?_
    refine w_lo dX9_law_1 rfl rfl rfl rfl ?_
    refine w_iv dX9_law_2 rfl rfl (As := [.int a1]) rfl rfl zU_0.1 rfl (Nat.le_of_ble_eq_true rfl) ?_
    refine ZV.of (ini := false) rfl (Nat.le_of_ble_eq_true rfl) (by decide +kernel) ?_
    show ZW _ 9 9 false (some .boolean) cX9_isBoy _ (0, [some (.ref 386), some (.int a1)], [], zM0)
    refine w_lo dX9_isBoy_0 rfl rfl rfl rfl ?_
    refine w_ilt_t dX9_isBoy_1 (t := 21) rfl (by omega) ?_
    refine w_ic dX9_isBoy_21 zi_0 ?_
    refine w_en dX9_isBoy_22 rfl ?_
    show ZW _ 10 9 false (some .int) cX9_law _ (5, [some (.ref 386), some (.int a1), some (.int a2), some (.int a3)], [.int 0], zM0)
    refine w_ieq_t dX9_law_5 (t := 19) rfl (by decide) ?_
    refine w_ic dX9_law_19 zi_m1 ?_
    refine w_en dX9_law_20 rfl ?_
    exact ⟨rfl, zU_0.1, zU_0.1⟩
  · skip
    refine w_ilt_f dX8_isPlace_1 (t := 19) rfl (by omega) ?_
    refine w_lo dX8_isPlace_4 rfl rfl rfl rfl ?_
    refine w_lo dX8_isPlace_5 rfl rfl rfl rfl ?_
    refine w_gf dX8_isPlace_6 rfl zU_0.1 rfl ((zU_0).2 0 4 rfl |>.trans zq_0_4) ?_
    refine w_gf dX8_isPlace_9 rfl zU_0.1 rfl ((zU_0).2 49 0 rfl |>.trans zq_49_0) ?_
    refine w_cge_t dX8_isPlace_12 (t := 19) rfl (by have := zt_0; omega) ?_
    refine w_ic dX8_isPlace_19 zi_0 ?_
    refine w_en dX8_isPlace_20 rfl ?_
    show ZW _ 10 8 false (some .int) cX8_law _ (5, [some (.ref 0), some (.int a1), some (.int a2), some (.int a3), none], [.int 0], zM0)
    refine w_ieq_t dX8_law_5 (t := 15) rfl (by decide) ?_
    refine w_ic dX8_law_15 zi_m1 ?_
    refine w_en dX8_law_16 rfl ?_
    refine ⟨_, rfl, ?_⟩
    refine ZV.of (ini := false) rfl (Nat.le_of_ble_eq_true rfl) (by decide +kernel) ?_
    show ZW _ 10 9 false (some .int) cX9_law _ (0, [some (.ref 386), some (.int a1), some (.int a2), some (.int a3)], [], zM0)
    refine w_lo dX9_law_0 rfl rfl rfl rfl ?_
    refine w_lo dX9_law_1 rfl rfl rfl rfl ?_
    refine w_iv dX9_law_2 rfl rfl (As := [.int a1]) rfl rfl zU_0.1 rfl (Nat.le_of_ble_eq_true rfl) ?_
    refine ZV.of (ini := false) rfl (Nat.le_of_ble_eq_true rfl) (by decide +kernel) ?_
    show ZW _ 9 9 false (some .boolean) cX9_isBoy _ (0, [some (.ref 386), some (.int a1)], [], zM0)
    refine w_lo dX9_isBoy_0 rfl rfl rfl rfl ?_
    refine w_ilt_f dX9_isBoy_1 (t := 21) rfl (by omega) ?_
    refine w_lo dX9_isBoy_4 rfl rfl rfl rfl ?_
    refine w_lo dX9_isBoy_5 rfl rfl rfl rfl ?_
    refine w_gf dX9_isBoy_6 rfl zU_0.1 rfl ((zU_0).2 386 13 rfl |>.trans zq_386_13) ?_
    refine w_lo dX9_isBoy_9 rfl rfl rfl rfl ?_
    refine w_gf dX9_isBoy_10 rfl zU_0.1 rfl ((zU_0).2 386 12 rfl |>.trans zq_386_12) ?_
    refine w_ia dX9_isBoy_13 zU_0.1 rfl (k := 0) zt_0 ((zU_0).2 388 0 rfl |>.trans zq_388_0) ?_
    refine w_cge_t dX9_isBoy_14 (t := 21) rfl (by have := zt_0; omega) ?_
    refine w_ic dX9_isBoy_21 zi_0 ?_
    refine w_en dX9_isBoy_22 rfl ?_
    show ZW _ 10 9 false (some .int) cX9_law _ (5, [some (.ref 386), some (.int a1), some (.int a2), some (.int a3)], [.int 0], zM0)
    refine w_ieq_t dX9_law_5 (t := 19) rfl (by decide) ?_
    refine w_ic dX9_law_19 zi_m1 ?_
    refine w_en dX9_law_20 rfl ?_
    exact ⟨rfl, zU_0.1, zU_0.1⟩
theorem zp_12 (a1 : Int32) : ∃ (v : Int32) (M1 M2 : zM), ZC [] 11 2073 [.ref 0, .int a1] zM0 (some (.int v), M1) ∧ ZC [] 11 2376 [.ref 386, .int a1] M1 (some (.int v), M2) ∧ zSh M1 ∧ zSh M2 := by
  refine zp_of ?_
  refine ZV.of (ini := false) rfl (Nat.le_of_ble_eq_true rfl) (by decide +kernel) ?_
  show ZW _ 10 8 false (some .int) cX8_go _ (0, [some (.ref 0), some (.int a1), none, none], [], zM0)
  refine w_lo dX8_go_0 rfl rfl rfl rfl ?_
  refine w_ic dX8_go_1 zi_1 ?_
  rcases zcut a1.toInt (1) with h69 | h69
  · skip
    refine w_clt_t dX8_go_2 (t := 34) rfl (by have := zt_1; omega) ?_
    refine w_lo dX8_go_34 rfl rfl rfl rfl ?_
    refine w_ic dX8_go_35 zi_2 ?_
    refine w_iv dX8_go_36 rfl rfl (As := [.int 2]) rfl rfl zU_0.1 rfl (Nat.le_of_ble_eq_true rfl) ?_
    refine ZV.of (ini := false) rfl (Nat.le_of_ble_eq_true rfl) (by decide +kernel) ?_
    show ZW _ 9 8 false none cX8_refuse _ (0, [some (.ref 0), some (.int 2)], [], zM0)
    refine w_lo dX8_refuse_0 rfl rfl rfl rfl ?_
    refine w_ilt_f dX8_refuse_1 (t := 20) rfl (by decide) ?_
    refine w_lo dX8_refuse_4 rfl rfl rfl rfl ?_
    refine w_bi dX8_refuse_5 (c := 6) (by decide) ?_
    refine w_cge_f dX8_refuse_7 (t := 20) rfl (by decide) ?_
    refine w_lo dX8_refuse_10 rfl rfl rfl rfl ?_
    refine w_gf dX8_refuse_11 rfl zU_0.1 rfl ((zU_0).2 0 14 rfl |>.trans zq_0_14) ?_
    refine w_lo dX8_refuse_14 rfl rfl rfl rfl ?_
    refine w_pu dX8_refuse_15 rfl rfl ?_
    refine w_ia dX8_refuse_16 zU_0.1 rfl (k := 2) zt_2 ((zU_0).2 385 2 rfl |>.trans zq_385_2) ?_
    refine w_ic dX8_refuse_17 zi_1 ?_
    refine w_pu (st' := [.int 1, .int 2, .ref 385]) dX8_refuse_18 rfl rfl ?_
    refine w_is dX8_refuse_19 zU_0 rfl (k := 2) zt_2 (Nat.le_of_ble_eq_true rfl) ?_
    intro M70 hU71 hv72 hn73
    refine w_en dX8_refuse_20 rfl ?_
    show ZW _ 10 8 false (some .int) cX8_go _ (39, [some (.ref 0), some (.int a1), none, none], [], M70)
    refine w_ic dX8_go_39 zi_m1 ?_
    refine w_en dX8_go_40 rfl ?_
    refine ⟨_, rfl, ?_⟩
    refine ZV.of (ini := false) rfl (Nat.le_of_ble_eq_true rfl) (by decide +kernel) ?_
    show ZW _ 10 9 false (some .int) cX9_go _ (0, [some (.ref 386), some (.int a1), none], [], M70)
    refine w_lo dX9_go_0 rfl rfl rfl rfl ?_
    refine w_ic dX9_go_1 zi_1 ?_
    refine w_bi dX9_go_2 (c := 99) (by decide) ?_
    refine w_ss dX9_go_4 rfl rfl (As := [.int a1, .int 1, .int 99]) rfl rfl (Nat.le_of_ble_eq_true rfl) ?_
    refine ZV.of (ini := false) rfl (Nat.le_of_ble_eq_true rfl) (by decide +kernel) ?_
    show ZW _ 9 9 false (some .boolean) cX9_is _ (0, [some (.int a1), some (.int 1), some (.int 99)], [], M70)
    refine w_lo dX9_is_0 rfl rfl rfl rfl ?_
    refine w_lo dX9_is_1 rfl rfl rfl rfl ?_
    refine w_clt_t dX9_is_2 (t := 14) rfl (by have := zt_1; omega) ?_
    refine w_ic dX9_is_14 zi_0 ?_
    refine w_en dX9_is_15 rfl ?_
    show ZW _ 10 9 false (some .int) cX9_go _ (7, [some (.ref 386), some (.int a1), none], [.int 0], M70)
    refine w_ieq_t dX9_go_7 (t := 29) rfl (by decide) ?_
    refine w_lo dX9_go_29 rfl rfl rfl rfl ?_
    refine w_ic dX9_go_30 zi_2 ?_
    refine w_iv dX9_go_31 rfl rfl (As := [.int 2]) rfl rfl hU71.1 rfl (Nat.le_of_ble_eq_true rfl) ?_
    refine ZV.of (ini := false) rfl (Nat.le_of_ble_eq_true rfl) (by decide +kernel) ?_
    show ZW _ 9 9 false (some .int) cX9_refuses _ (0, [some (.ref 386), some (.int 2)], [], M70)
    refine w_lo dX9_refuses_0 rfl rfl rfl rfl ?_
    refine w_gf dX9_refuses_1 rfl hU71.1 rfl ((hU71).2 386 46 rfl |>.trans zq_386_46) ?_
    refine w_lo dX9_refuses_4 rfl rfl rfl rfl ?_
    refine w_pu dX9_refuses_5 rfl rfl ?_
    refine w_ia dX9_refuses_6 hU71.1 rfl (k := 2) zt_2 ((hU71).2 415 2 rfl |>.trans zq_415_2) ?_
    refine w_ic dX9_refuses_7 zi_1 ?_
    refine w_pu (st' := [.int 1, .int 2, .ref 415]) dX9_refuses_8 rfl rfl ?_
    refine w_is dX9_refuses_9 hU71 rfl (k := 2) zt_2 (Nat.le_of_ble_eq_true rfl) ?_
    intro M74 hU75 hv76 hn77
    have f78 := (hn77 385 2 (by decide)).trans hv72
    refine w_ic dX9_refuses_10 zi_m1 ?_
    refine w_en dX9_refuses_11 rfl ?_
    show ZW _ 10 9 false (some .int) cX9_go _ (34, [some (.ref 386), some (.int a1), none], [.int (-1)], M74)
    refine w_en dX9_go_34 rfl ?_
    exact ⟨rfl, hU71.1, hU75.1⟩
  · skip
    refine w_clt_f dX8_go_2 (t := 34) rfl (by have := zt_1; omega) ?_
    refine w_lo dX8_go_5 rfl rfl rfl rfl ?_
    refine w_bi dX8_go_6 (c := 99) (by decide) ?_
    rcases zcut a1.toInt (100) with h79 | h79
    · skip
      refine w_cgt_f dX8_go_8 (t := 34) rfl (by have := zt_99; omega) ?_
      refine w_lo dX8_go_11 rfl rfl rfl rfl ?_
      refine w_gf dX8_go_12 rfl zU_0.1 rfl ((zU_0).2 0 4 rfl |>.trans zq_0_4) ?_
      refine w_gf dX8_go_15 rfl zU_0.1 rfl ((zU_0).2 49 0 rfl |>.trans zq_49_0) ?_
      refine w_ieq_t dX8_go_18 (t := 34) rfl (by decide) ?_
      refine w_lo dX8_go_34 rfl rfl rfl rfl ?_
      refine w_ic dX8_go_35 zi_2 ?_
      refine w_iv dX8_go_36 rfl rfl (As := [.int 2]) rfl rfl zU_0.1 rfl (Nat.le_of_ble_eq_true rfl) ?_
      refine ZV.of (ini := false) rfl (Nat.le_of_ble_eq_true rfl) (by decide +kernel) ?_
      show ZW _ 9 8 false none cX8_refuse _ (0, [some (.ref 0), some (.int 2)], [], zM0)
      refine w_lo dX8_refuse_0 rfl rfl rfl rfl ?_
      refine w_ilt_f dX8_refuse_1 (t := 20) rfl (by decide) ?_
      refine w_lo dX8_refuse_4 rfl rfl rfl rfl ?_
      refine w_bi dX8_refuse_5 (c := 6) (by decide) ?_
      refine w_cge_f dX8_refuse_7 (t := 20) rfl (by decide) ?_
      refine w_lo dX8_refuse_10 rfl rfl rfl rfl ?_
      refine w_gf dX8_refuse_11 rfl zU_0.1 rfl ((zU_0).2 0 14 rfl |>.trans zq_0_14) ?_
      refine w_lo dX8_refuse_14 rfl rfl rfl rfl ?_
      refine w_pu dX8_refuse_15 rfl rfl ?_
      refine w_ia dX8_refuse_16 zU_0.1 rfl (k := 2) zt_2 ((zU_0).2 385 2 rfl |>.trans zq_385_2) ?_
      refine w_ic dX8_refuse_17 zi_1 ?_
      refine w_pu (st' := [.int 1, .int 2, .ref 385]) dX8_refuse_18 rfl rfl ?_
      refine w_is dX8_refuse_19 zU_0 rfl (k := 2) zt_2 (Nat.le_of_ble_eq_true rfl) ?_
      intro M80 hU81 hv82 hn83
      refine w_en dX8_refuse_20 rfl ?_
      show ZW _ 10 8 false (some .int) cX8_go _ (39, [some (.ref 0), some (.int a1), none, none], [], M80)
      refine w_ic dX8_go_39 zi_m1 ?_
      refine w_en dX8_go_40 rfl ?_
      refine ⟨_, rfl, ?_⟩
      refine ZV.of (ini := false) rfl (Nat.le_of_ble_eq_true rfl) (by decide +kernel) ?_
      show ZW _ 10 9 false (some .int) cX9_go _ (0, [some (.ref 386), some (.int a1), none], [], M80)
      refine w_lo dX9_go_0 rfl rfl rfl rfl ?_
      refine w_ic dX9_go_1 zi_1 ?_
      refine w_bi dX9_go_2 (c := 99) (by decide) ?_
      refine w_ss dX9_go_4 rfl rfl (As := [.int a1, .int 1, .int 99]) rfl rfl (Nat.le_of_ble_eq_true rfl) ?_
      refine ZV.of (ini := false) rfl (Nat.le_of_ble_eq_true rfl) (by decide +kernel) ?_
      show ZW _ 9 9 false (some .boolean) cX9_is _ (0, [some (.int a1), some (.int 1), some (.int 99)], [], M80)
      refine w_lo dX9_is_0 rfl rfl rfl rfl ?_
      refine w_lo dX9_is_1 rfl rfl rfl rfl ?_
      refine w_clt_f dX9_is_2 (t := 14) rfl (by have := zt_1; omega) ?_
      refine w_lo dX9_is_5 rfl rfl rfl rfl ?_
      refine w_lo dX9_is_6 rfl rfl rfl rfl ?_
      refine w_cgt_f dX9_is_7 (t := 14) rfl (by have := zt_99; omega) ?_
      refine w_ic dX9_is_10 zi_1 ?_
      refine w_gt dX9_is_11 (t := 15) rfl ?_
      refine w_en dX9_is_15 rfl ?_
      show ZW _ 10 9 false (some .int) cX9_go _ (7, [some (.ref 386), some (.int a1), none], [.int 1], M80)
      refine w_ieq_f dX9_go_7 (t := 29) rfl (by decide) ?_
      refine w_lo dX9_go_10 rfl rfl rfl rfl ?_
      refine w_iv dX9_go_11 rfl rfl (As := []) rfl rfl hU81.1 rfl (Nat.le_of_ble_eq_true rfl) ?_
      refine ZV.of (ini := false) rfl (Nat.le_of_ble_eq_true rfl) (by decide +kernel) ?_
      show ZW _ 9 9 false (some .int) cX9_many _ (0, [some (.ref 386)], [], M80)
      refine w_lo dX9_many_0 rfl rfl rfl rfl ?_
      refine w_gf dX9_many_1 rfl hU81.1 rfl ((hU81).2 386 13 rfl |>.trans zq_386_13) ?_
      refine w_lo dX9_many_4 rfl rfl rfl rfl ?_
      refine w_gf dX9_many_5 rfl hU81.1 rfl ((hU81).2 386 12 rfl |>.trans zq_386_12) ?_
      refine w_ia dX9_many_8 hU81.1 rfl (k := 0) zt_0 ((hU81).2 388 0 rfl |>.trans zq_388_0) ?_
      refine w_en dX9_many_9 rfl ?_
      show ZW _ 10 9 false (some .int) cX9_go _ (14, [some (.ref 386), some (.int a1), none], [.int 0], M80)
      refine w_ieq_t dX9_go_14 (t := 29) rfl (by decide) ?_
      refine w_lo dX9_go_29 rfl rfl rfl rfl ?_
      refine w_ic dX9_go_30 zi_2 ?_
      refine w_iv dX9_go_31 rfl rfl (As := [.int 2]) rfl rfl hU81.1 rfl (Nat.le_of_ble_eq_true rfl) ?_
      refine ZV.of (ini := false) rfl (Nat.le_of_ble_eq_true rfl) (by decide +kernel) ?_
      show ZW _ 9 9 false (some .int) cX9_refuses _ (0, [some (.ref 386), some (.int 2)], [], M80)
      refine w_lo dX9_refuses_0 rfl rfl rfl rfl ?_
      refine w_gf dX9_refuses_1 rfl hU81.1 rfl ((hU81).2 386 46 rfl |>.trans zq_386_46) ?_
      refine w_lo dX9_refuses_4 rfl rfl rfl rfl ?_
      refine w_pu dX9_refuses_5 rfl rfl ?_
      refine w_ia dX9_refuses_6 hU81.1 rfl (k := 2) zt_2 ((hU81).2 415 2 rfl |>.trans zq_415_2) ?_
      refine w_ic dX9_refuses_7 zi_1 ?_
      refine w_pu (st' := [.int 1, .int 2, .ref 415]) dX9_refuses_8 rfl rfl ?_
      refine w_is dX9_refuses_9 hU81 rfl (k := 2) zt_2 (Nat.le_of_ble_eq_true rfl) ?_
      intro M84 hU85 hv86 hn87
      have f88 := (hn87 385 2 (by decide)).trans hv82
      refine w_ic dX9_refuses_10 zi_m1 ?_
      refine w_en dX9_refuses_11 rfl ?_
      show ZW _ 10 9 false (some .int) cX9_go _ (34, [some (.ref 386), some (.int a1), none], [.int (-1)], M84)
      refine w_en dX9_go_34 rfl ?_
      exact ⟨rfl, hU81.1, hU85.1⟩
    · skip
      refine w_cgt_t dX8_go_8 (t := 34) rfl (by have := zt_99; omega) ?_
      refine w_lo dX8_go_34 rfl rfl rfl rfl ?_
      refine w_ic dX8_go_35 zi_2 ?_
      refine w_iv dX8_go_36 rfl rfl (As := [.int 2]) rfl rfl zU_0.1 rfl (Nat.le_of_ble_eq_true rfl) ?_
      refine ZV.of (ini := false) rfl (Nat.le_of_ble_eq_true rfl) (by decide +kernel) ?_
      show ZW _ 9 8 false none cX8_refuse _ (0, [some (.ref 0), some (.int 2)], [], zM0)
      refine w_lo dX8_refuse_0 rfl rfl rfl rfl ?_
      refine w_ilt_f dX8_refuse_1 (t := 20) rfl (by decide) ?_
      refine w_lo dX8_refuse_4 rfl rfl rfl rfl ?_
      refine w_bi dX8_refuse_5 (c := 6) (by decide) ?_
      refine w_cge_f dX8_refuse_7 (t := 20) rfl (by decide) ?_
      refine w_lo dX8_refuse_10 rfl rfl rfl rfl ?_
      refine w_gf dX8_refuse_11 rfl zU_0.1 rfl ((zU_0).2 0 14 rfl |>.trans zq_0_14) ?_
      refine w_lo dX8_refuse_14 rfl rfl rfl rfl ?_
      refine w_pu dX8_refuse_15 rfl rfl ?_
      refine w_ia dX8_refuse_16 zU_0.1 rfl (k := 2) zt_2 ((zU_0).2 385 2 rfl |>.trans zq_385_2) ?_
      refine w_ic dX8_refuse_17 zi_1 ?_
      refine w_pu (st' := [.int 1, .int 2, .ref 385]) dX8_refuse_18 rfl rfl ?_
      refine w_is dX8_refuse_19 zU_0 rfl (k := 2) zt_2 (Nat.le_of_ble_eq_true rfl) ?_
      intro M89 hU90 hv91 hn92
      refine w_en dX8_refuse_20 rfl ?_
      show ZW _ 10 8 false (some .int) cX8_go _ (39, [some (.ref 0), some (.int a1), none, none], [], M89)
      refine w_ic dX8_go_39 zi_m1 ?_
      refine w_en dX8_go_40 rfl ?_
      refine ⟨_, rfl, ?_⟩
      refine ZV.of (ini := false) rfl (Nat.le_of_ble_eq_true rfl) (by decide +kernel) ?_
      show ZW _ 10 9 false (some .int) cX9_go _ (0, [some (.ref 386), some (.int a1), none], [], M89)
      refine w_lo dX9_go_0 rfl rfl rfl rfl ?_
      refine w_ic dX9_go_1 zi_1 ?_
      refine w_bi dX9_go_2 (c := 99) (by decide) ?_
      refine w_ss dX9_go_4 rfl rfl (As := [.int a1, .int 1, .int 99]) rfl rfl (Nat.le_of_ble_eq_true rfl) ?_
      refine ZV.of (ini := false) rfl (Nat.le_of_ble_eq_true rfl) (by decide +kernel) ?_
      show ZW _ 9 9 false (some .boolean) cX9_is _ (0, [some (.int a1), some (.int 1), some (.int 99)], [], M89)
      refine w_lo dX9_is_0 rfl rfl rfl rfl ?_
      refine w_lo dX9_is_1 rfl rfl rfl rfl ?_
      refine w_clt_f dX9_is_2 (t := 14) rfl (by have := zt_1; omega) ?_
      refine w_lo dX9_is_5 rfl rfl rfl rfl ?_
      refine w_lo dX9_is_6 rfl rfl rfl rfl ?_
      refine w_cgt_t dX9_is_7 (t := 14) rfl (by have := zt_99; omega) ?_
      refine w_ic dX9_is_14 zi_0 ?_
      refine w_en dX9_is_15 rfl ?_
      show ZW _ 10 9 false (some .int) cX9_go _ (7, [some (.ref 386), some (.int a1), none], [.int 0], M89)
      refine w_ieq_t dX9_go_7 (t := 29) rfl (by decide) ?_
      refine w_lo dX9_go_29 rfl rfl rfl rfl ?_
      refine w_ic dX9_go_30 zi_2 ?_
      refine w_iv dX9_go_31 rfl rfl (As := [.int 2]) rfl rfl hU90.1 rfl (Nat.le_of_ble_eq_true rfl) ?_
      refine ZV.of (ini := false) rfl (Nat.le_of_ble_eq_true rfl) (by decide +kernel) ?_
      show ZW _ 9 9 false (some .int) cX9_refuses _ (0, [some (.ref 386), some (.int 2)], [], M89)
      refine w_lo dX9_refuses_0 rfl rfl rfl rfl ?_
      refine w_gf dX9_refuses_1 rfl hU90.1 rfl ((hU90).2 386 46 rfl |>.trans zq_386_46) ?_
      refine w_lo dX9_refuses_4 rfl rfl rfl rfl ?_
      refine w_pu dX9_refuses_5 rfl rfl ?_
      refine w_ia dX9_refuses_6 hU90.1 rfl (k := 2) zt_2 ((hU90).2 415 2 rfl |>.trans zq_415_2) ?_
      refine w_ic dX9_refuses_7 zi_1 ?_
      refine w_pu (st' := [.int 1, .int 2, .ref 415]) dX9_refuses_8 rfl rfl ?_
      refine w_is dX9_refuses_9 hU90 rfl (k := 2) zt_2 (Nat.le_of_ble_eq_true rfl) ?_
      intro M93 hU94 hv95 hn96
      have f97 := (hn96 385 2 (by decide)).trans hv91
      refine w_ic dX9_refuses_10 zi_m1 ?_
      refine w_en dX9_refuses_11 rfl ?_
      show ZW _ 10 9 false (some .int) cX9_go _ (34, [some (.ref 386), some (.int a1), none], [.int (-1)], M93)
      refine w_en dX9_go_34 rfl ?_
      exact ⟨rfl, hU90.1, hU94.1⟩
theorem zp_13 (a1 a2 : Int32) : ∃ (v : Int32) (M1 M2 : zM), ZC [] 11 2075 [.ref 0, .int a1, .int a2] zM0 (some (.int v), M1) ∧ ZC [] 11 2391 [.ref 386, .int a1, .int a2] M1 (some (.int v), M2) ∧ zSh M1 ∧ zSh M2 := by
  refine zp_of ?_
  refine ZV.of (ini := false) rfl (Nat.le_of_ble_eq_true rfl) (by decide +kernel) ?_
  show ZW _ 10 8 false (some .int) cX8_dreams _ (0, [some (.ref 0), some (.int a1), some (.int a2)], [], zM0)
  refine w_lo dX8_dreams_0 rfl rfl rfl rfl ?_
  refine w_lo dX8_dreams_1 rfl rfl rfl rfl ?_
  refine w_iv dX8_dreams_2 rfl rfl (As := [.int a1]) rfl rfl zU_0.1 rfl (Nat.le_of_ble_eq_true rfl) ?_
  refine ZV.of (ini := false) rfl (Nat.le_of_ble_eq_true rfl) (by decide +kernel) ?_
  show ZW _ 9 8 false (some .boolean) cX8_isBoy _ (0, [some (.ref 0), some (.int a1)], [], zM0)
  refine w_lo dX8_isBoy_0 rfl rfl rfl rfl ?_
  rcases zcut a1.toInt (0) with h98 | h98
  · skip
    refine w_ilt_t dX8_isBoy_1 (t := 19) rfl (by omega) ?_
    refine w_ic dX8_isBoy_19 zi_0 ?_
    refine w_en dX8_isBoy_20 rfl ?_
    show ZW _ 10 8 false (some .int) cX8_dreams _ (5, [some (.ref 0), some (.int a1), some (.int a2)], [.int 0], zM0)
    refine w_ieq_t dX8_dreams_5 (t := 35) rfl (by decide) ?_
    refine w_lo dX8_dreams_35 rfl rfl rfl rfl ?_
    refine w_ic dX8_dreams_36 zi_2 ?_
    refine w_iv dX8_dreams_37 rfl rfl (As := [.int 2]) rfl rfl zU_0.1 rfl (Nat.le_of_ble_eq_true rfl) ?_
    refine ZV.of (ini := false) rfl (Nat.le_of_ble_eq_true rfl) (by decide +kernel) ?_
    show ZW _ 9 8 false none cX8_refuse _ (0, [some (.ref 0), some (.int 2)], [], zM0)
    refine w_lo dX8_refuse_0 rfl rfl rfl rfl ?_
    refine w_ilt_f dX8_refuse_1 (t := 20) rfl (by decide) ?_
    refine w_lo dX8_refuse_4 rfl rfl rfl rfl ?_
    refine w_bi dX8_refuse_5 (c := 6) (by decide) ?_
    refine w_cge_f dX8_refuse_7 (t := 20) rfl (by decide) ?_
    refine w_lo dX8_refuse_10 rfl rfl rfl rfl ?_
    refine w_gf dX8_refuse_11 rfl zU_0.1 rfl ((zU_0).2 0 14 rfl |>.trans zq_0_14) ?_
    refine w_lo dX8_refuse_14 rfl rfl rfl rfl ?_
    refine w_pu dX8_refuse_15 rfl rfl ?_
    refine w_ia dX8_refuse_16 zU_0.1 rfl (k := 2) zt_2 ((zU_0).2 385 2 rfl |>.trans zq_385_2) ?_
    refine w_ic dX8_refuse_17 zi_1 ?_
    refine w_pu (st' := [.int 1, .int 2, .ref 385]) dX8_refuse_18 rfl rfl ?_
    refine w_is dX8_refuse_19 zU_0 rfl (k := 2) zt_2 (Nat.le_of_ble_eq_true rfl) ?_
    intro M99 hU100 hv101 hn102
    refine w_en dX8_refuse_20 rfl ?_
    show ZW _ 10 8 false (some .int) cX8_dreams _ (40, [some (.ref 0), some (.int a1), some (.int a2)], [], M99)
    refine w_ic dX8_dreams_40 zi_m1 ?_
    refine w_en dX8_dreams_41 rfl ?_
    refine ⟨_, rfl, ?_⟩
    refine ZV.of (ini := false) rfl (Nat.le_of_ble_eq_true rfl) (by decide +kernel) ?_
    show ZW _ 10 9 false (some .int) cX9_dreams _ (0, [some (.ref 386), some (.int a1), some (.int a2)], [], M99)
    refine w_lo dX9_dreams_0 rfl rfl rfl rfl ?_
    refine w_lo dX9_dreams_1 rfl rfl rfl rfl ?_
    refine w_iv dX9_dreams_2 rfl rfl (As := [.int a1]) rfl rfl hU100.1 rfl (Nat.le_of_ble_eq_true rfl) ?_
    refine ZV.of (ini := false) rfl (Nat.le_of_ble_eq_true rfl) (by decide +kernel) ?_
    show ZW _ 9 9 false (some .boolean) cX9_isBoy _ (0, [some (.ref 386), some (.int a1)], [], M99)
    refine w_lo dX9_isBoy_0 rfl rfl rfl rfl ?_
    refine w_ilt_t dX9_isBoy_1 (t := 21) rfl (by omega) ?_
    refine w_ic dX9_isBoy_21 zi_0 ?_
    refine w_en dX9_isBoy_22 rfl ?_
    show ZW _ 10 9 false (some .int) cX9_dreams _ (5, [some (.ref 386), some (.int a1), some (.int a2)], [.int 0], M99)
    refine w_ieq_t dX9_dreams_5 (t := 25) rfl (by decide) ?_
    refine w_lo dX9_dreams_25 rfl rfl rfl rfl ?_
    refine w_ic dX9_dreams_26 zi_2 ?_
    refine w_iv dX9_dreams_27 rfl rfl (As := [.int 2]) rfl rfl hU100.1 rfl (Nat.le_of_ble_eq_true rfl) ?_
    refine ZV.of (ini := false) rfl (Nat.le_of_ble_eq_true rfl) (by decide +kernel) ?_
    show ZW _ 9 9 false (some .int) cX9_refuses _ (0, [some (.ref 386), some (.int 2)], [], M99)
    refine w_lo dX9_refuses_0 rfl rfl rfl rfl ?_
    refine w_gf dX9_refuses_1 rfl hU100.1 rfl ((hU100).2 386 46 rfl |>.trans zq_386_46) ?_
    refine w_lo dX9_refuses_4 rfl rfl rfl rfl ?_
    refine w_pu dX9_refuses_5 rfl rfl ?_
    refine w_ia dX9_refuses_6 hU100.1 rfl (k := 2) zt_2 ((hU100).2 415 2 rfl |>.trans zq_415_2) ?_
    refine w_ic dX9_refuses_7 zi_1 ?_
    refine w_pu (st' := [.int 1, .int 2, .ref 415]) dX9_refuses_8 rfl rfl ?_
    refine w_is dX9_refuses_9 hU100 rfl (k := 2) zt_2 (Nat.le_of_ble_eq_true rfl) ?_
    intro M103 hU104 hv105 hn106
    have f107 := (hn106 385 2 (by decide)).trans hv101
    refine w_ic dX9_refuses_10 zi_m1 ?_
    refine w_en dX9_refuses_11 rfl ?_
    show ZW _ 10 9 false (some .int) cX9_dreams _ (30, [some (.ref 386), some (.int a1), some (.int a2)], [.int (-1)], M103)
    refine w_en dX9_dreams_30 rfl ?_
    exact ⟨rfl, hU100.1, hU104.1⟩
  · skip
    refine w_ilt_f dX8_isBoy_1 (t := 19) rfl (by omega) ?_
    refine w_lo dX8_isBoy_4 rfl rfl rfl rfl ?_
    refine w_lo dX8_isBoy_5 rfl rfl rfl rfl ?_
    refine w_gf dX8_isBoy_6 rfl zU_0.1 rfl ((zU_0).2 0 3 rfl |>.trans zq_0_3) ?_
    refine w_gf dX8_isBoy_9 rfl zU_0.1 rfl ((zU_0).2 28 1 rfl |>.trans zq_28_1) ?_
    refine w_cge_t dX8_isBoy_12 (t := 19) rfl (by have := zt_0; omega) ?_
    refine w_ic dX8_isBoy_19 zi_0 ?_
    refine w_en dX8_isBoy_20 rfl ?_
    show ZW _ 10 8 false (some .int) cX8_dreams _ (5, [some (.ref 0), some (.int a1), some (.int a2)], [.int 0], zM0)
    refine w_ieq_t dX8_dreams_5 (t := 35) rfl (by decide) ?_
    refine w_lo dX8_dreams_35 rfl rfl rfl rfl ?_
    refine w_ic dX8_dreams_36 zi_2 ?_
    refine w_iv dX8_dreams_37 rfl rfl (As := [.int 2]) rfl rfl zU_0.1 rfl (Nat.le_of_ble_eq_true rfl) ?_
    refine ZV.of (ini := false) rfl (Nat.le_of_ble_eq_true rfl) (by decide +kernel) ?_
    show ZW _ 9 8 false none cX8_refuse _ (0, [some (.ref 0), some (.int 2)], [], zM0)
    refine w_lo dX8_refuse_0 rfl rfl rfl rfl ?_
    refine w_ilt_f dX8_refuse_1 (t := 20) rfl (by decide) ?_
    refine w_lo dX8_refuse_4 rfl rfl rfl rfl ?_
    refine w_bi dX8_refuse_5 (c := 6) (by decide) ?_
    refine w_cge_f dX8_refuse_7 (t := 20) rfl (by decide) ?_
    refine w_lo dX8_refuse_10 rfl rfl rfl rfl ?_
    refine w_gf dX8_refuse_11 rfl zU_0.1 rfl ((zU_0).2 0 14 rfl |>.trans zq_0_14) ?_
    refine w_lo dX8_refuse_14 rfl rfl rfl rfl ?_
    refine w_pu dX8_refuse_15 rfl rfl ?_
    refine w_ia dX8_refuse_16 zU_0.1 rfl (k := 2) zt_2 ((zU_0).2 385 2 rfl |>.trans zq_385_2) ?_
    refine w_ic dX8_refuse_17 zi_1 ?_
    refine w_pu (st' := [.int 1, .int 2, .ref 385]) dX8_refuse_18 rfl rfl ?_
    refine w_is dX8_refuse_19 zU_0 rfl (k := 2) zt_2 (Nat.le_of_ble_eq_true rfl) ?_
    intro M108 hU109 hv110 hn111
    refine w_en dX8_refuse_20 rfl ?_
    show ZW _ 10 8 false (some .int) cX8_dreams _ (40, [some (.ref 0), some (.int a1), some (.int a2)], [], M108)
    refine w_ic dX8_dreams_40 zi_m1 ?_
    refine w_en dX8_dreams_41 rfl ?_
    refine ⟨_, rfl, ?_⟩
    refine ZV.of (ini := false) rfl (Nat.le_of_ble_eq_true rfl) (by decide +kernel) ?_
    show ZW _ 10 9 false (some .int) cX9_dreams _ (0, [some (.ref 386), some (.int a1), some (.int a2)], [], M108)
    refine w_lo dX9_dreams_0 rfl rfl rfl rfl ?_
    refine w_lo dX9_dreams_1 rfl rfl rfl rfl ?_
    refine w_iv dX9_dreams_2 rfl rfl (As := [.int a1]) rfl rfl hU109.1 rfl (Nat.le_of_ble_eq_true rfl) ?_
    refine ZV.of (ini := false) rfl (Nat.le_of_ble_eq_true rfl) (by decide +kernel) ?_
    show ZW _ 9 9 false (some .boolean) cX9_isBoy _ (0, [some (.ref 386), some (.int a1)], [], M108)
    refine w_lo dX9_isBoy_0 rfl rfl rfl rfl ?_
    refine w_ilt_f dX9_isBoy_1 (t := 21) rfl (by omega) ?_
    refine w_lo dX9_isBoy_4 rfl rfl rfl rfl ?_
    refine w_lo dX9_isBoy_5 rfl rfl rfl rfl ?_
    refine w_gf dX9_isBoy_6 rfl hU109.1 rfl ((hU109).2 386 13 rfl |>.trans zq_386_13) ?_
    refine w_lo dX9_isBoy_9 rfl rfl rfl rfl ?_
    refine w_gf dX9_isBoy_10 rfl hU109.1 rfl ((hU109).2 386 12 rfl |>.trans zq_386_12) ?_
    refine w_ia dX9_isBoy_13 hU109.1 rfl (k := 0) zt_0 ((hU109).2 388 0 rfl |>.trans zq_388_0) ?_
    refine w_cge_t dX9_isBoy_14 (t := 21) rfl (by have := zt_0; omega) ?_
    refine w_ic dX9_isBoy_21 zi_0 ?_
    refine w_en dX9_isBoy_22 rfl ?_
    show ZW _ 10 9 false (some .int) cX9_dreams _ (5, [some (.ref 386), some (.int a1), some (.int a2)], [.int 0], M108)
    refine w_ieq_t dX9_dreams_5 (t := 25) rfl (by decide) ?_
    refine w_lo dX9_dreams_25 rfl rfl rfl rfl ?_
    refine w_ic dX9_dreams_26 zi_2 ?_
    refine w_iv dX9_dreams_27 rfl rfl (As := [.int 2]) rfl rfl hU109.1 rfl (Nat.le_of_ble_eq_true rfl) ?_
    refine ZV.of (ini := false) rfl (Nat.le_of_ble_eq_true rfl) (by decide +kernel) ?_
    show ZW _ 9 9 false (some .int) cX9_refuses _ (0, [some (.ref 386), some (.int 2)], [], M108)
    refine w_lo dX9_refuses_0 rfl rfl rfl rfl ?_
    refine w_gf dX9_refuses_1 rfl hU109.1 rfl ((hU109).2 386 46 rfl |>.trans zq_386_46) ?_
    refine w_lo dX9_refuses_4 rfl rfl rfl rfl ?_
    refine w_pu dX9_refuses_5 rfl rfl ?_
    refine w_ia dX9_refuses_6 hU109.1 rfl (k := 2) zt_2 ((hU109).2 415 2 rfl |>.trans zq_415_2) ?_
    refine w_ic dX9_refuses_7 zi_1 ?_
    refine w_pu (st' := [.int 1, .int 2, .ref 415]) dX9_refuses_8 rfl rfl ?_
    refine w_is dX9_refuses_9 hU109 rfl (k := 2) zt_2 (Nat.le_of_ble_eq_true rfl) ?_
    intro M112 hU113 hv114 hn115
    have f116 := (hn115 385 2 (by decide)).trans hv110
    refine w_ic dX9_refuses_10 zi_m1 ?_
    refine w_en dX9_refuses_11 rfl ?_
    show ZW _ 10 9 false (some .int) cX9_dreams _ (30, [some (.ref 386), some (.int a1), some (.int a2)], [.int (-1)], M112)
    refine w_en dX9_dreams_30 rfl ?_
    exact ⟨rfl, hU109.1, hU113.1⟩
theorem zp_14 (a1 a2 : Int32) : ∃ (v : Int32) (M1 M2 : zM), ZC [] 11 2076 [.ref 0, .int a1, .int a2] zM0 (some (.int v), M1) ∧ ZC [] 11 2392 [.ref 386, .int a1, .int a2] M1 (some (.int v), M2) ∧ zSh M1 ∧ zSh M2 := by
  refine zp_of ?_
  refine ZV.of (ini := false) rfl (Nat.le_of_ble_eq_true rfl) (by decide +kernel) ?_
  show ZW _ 10 8 false (some .boolean) cX8_wake _ (0, [some (.ref 0), some (.int a1), some (.int a2)], [], zM0)
  refine w_lo dX8_wake_0 rfl rfl rfl rfl ?_
  refine w_lo dX8_wake_1 rfl rfl rfl rfl ?_
  refine w_iv dX8_wake_2 rfl rfl (As := [.int a1]) rfl rfl zU_0.1 rfl (Nat.le_of_ble_eq_true rfl) ?_
  refine ZV.of (ini := false) rfl (Nat.le_of_ble_eq_true rfl) (by decide +kernel) ?_
  show ZW _ 9 8 false (some .boolean) cX8_isBoy _ (0, [some (.ref 0), some (.int a1)], [], zM0)
  refine w_lo dX8_isBoy_0 rfl rfl rfl rfl ?_
  rcases zcut a1.toInt (0) with h117 | h117
  · skip
    refine w_ilt_t dX8_isBoy_1 (t := 19) rfl (by omega) ?_
    refine w_ic dX8_isBoy_19 zi_0 ?_
    refine w_en dX8_isBoy_20 rfl ?_
    show ZW _ 10 8 false (some .boolean) cX8_wake _ (5, [some (.ref 0), some (.int a1), some (.int a2)], [.int 0], zM0)
    refine w_ieq_t dX8_wake_5 (t := 21) rfl (by decide) ?_
    refine w_lo dX8_wake_21 rfl rfl rfl rfl ?_
    refine w_ic dX8_wake_22 zi_2 ?_
    refine w_iv dX8_wake_23 rfl rfl (As := [.int 2]) rfl rfl zU_0.1 rfl (Nat.le_of_ble_eq_true rfl) ?_
    refine ZV.of (ini := false) rfl (Nat.le_of_ble_eq_true rfl) (by decide +kernel) ?_
    show ZW _ 9 8 false none cX8_refuse _ (0, [some (.ref 0), some (.int 2)], [], zM0)
    refine w_lo dX8_refuse_0 rfl rfl rfl rfl ?_
    refine w_ilt_f dX8_refuse_1 (t := 20) rfl (by decide) ?_
    refine w_lo dX8_refuse_4 rfl rfl rfl rfl ?_
    refine w_bi dX8_refuse_5 (c := 6) (by decide) ?_
    refine w_cge_f dX8_refuse_7 (t := 20) rfl (by decide) ?_
    refine w_lo dX8_refuse_10 rfl rfl rfl rfl ?_
    refine w_gf dX8_refuse_11 rfl zU_0.1 rfl ((zU_0).2 0 14 rfl |>.trans zq_0_14) ?_
    refine w_lo dX8_refuse_14 rfl rfl rfl rfl ?_
    refine w_pu dX8_refuse_15 rfl rfl ?_
    refine w_ia dX8_refuse_16 zU_0.1 rfl (k := 2) zt_2 ((zU_0).2 385 2 rfl |>.trans zq_385_2) ?_
    refine w_ic dX8_refuse_17 zi_1 ?_
    refine w_pu (st' := [.int 1, .int 2, .ref 385]) dX8_refuse_18 rfl rfl ?_
    refine w_is dX8_refuse_19 zU_0 rfl (k := 2) zt_2 (Nat.le_of_ble_eq_true rfl) ?_
    intro M118 hU119 hv120 hn121
    refine w_en dX8_refuse_20 rfl ?_
    show ZW _ 10 8 false (some .boolean) cX8_wake _ (26, [some (.ref 0), some (.int a1), some (.int a2)], [], M118)
    refine w_ic dX8_wake_26 zi_0 ?_
    refine w_en dX8_wake_27 rfl ?_
    refine ⟨_, rfl, ?_⟩
    refine ZV.of (ini := false) rfl (Nat.le_of_ble_eq_true rfl) (by decide +kernel) ?_
    show ZW _ 10 9 false (some .boolean) cX9_wake _ (0, [some (.ref 386), some (.int a1), some (.int a2)], [], M118)
    refine w_lo dX9_wake_0 rfl rfl rfl rfl ?_
    refine w_lo dX9_wake_1 rfl rfl rfl rfl ?_
    refine w_iv dX9_wake_2 rfl rfl (As := [.int a1]) rfl rfl hU119.1 rfl (Nat.le_of_ble_eq_true rfl) ?_
    refine ZV.of (ini := false) rfl (Nat.le_of_ble_eq_true rfl) (by decide +kernel) ?_
    show ZW _ 9 9 false (some .boolean) cX9_isBoy _ (0, [some (.ref 386), some (.int a1)], [], M118)
    refine w_lo dX9_isBoy_0 rfl rfl rfl rfl ?_
    refine w_ilt_t dX9_isBoy_1 (t := 21) rfl (by omega) ?_
    refine w_ic dX9_isBoy_21 zi_0 ?_
    refine w_en dX9_isBoy_22 rfl ?_
    show ZW _ 10 9 false (some .boolean) cX9_wake _ (5, [some (.ref 386), some (.int a1), some (.int a2)], [.int 0], M118)
    refine w_ieq_t dX9_wake_5 (t := 26) rfl (by decide) ?_
    refine w_lo dX9_wake_26 rfl rfl rfl rfl ?_
    refine w_ic dX9_wake_27 zi_2 ?_
    refine w_iv dX9_wake_28 rfl rfl (As := [.int 2]) rfl rfl hU119.1 rfl (Nat.le_of_ble_eq_true rfl) ?_
    refine ZV.of (ini := false) rfl (Nat.le_of_ble_eq_true rfl) (by decide +kernel) ?_
    show ZW _ 9 9 false (some .int) cX9_refuses _ (0, [some (.ref 386), some (.int 2)], [], M118)
    refine w_lo dX9_refuses_0 rfl rfl rfl rfl ?_
    refine w_gf dX9_refuses_1 rfl hU119.1 rfl ((hU119).2 386 46 rfl |>.trans zq_386_46) ?_
    refine w_lo dX9_refuses_4 rfl rfl rfl rfl ?_
    refine w_pu dX9_refuses_5 rfl rfl ?_
    refine w_ia dX9_refuses_6 hU119.1 rfl (k := 2) zt_2 ((hU119).2 415 2 rfl |>.trans zq_415_2) ?_
    refine w_ic dX9_refuses_7 zi_1 ?_
    refine w_pu (st' := [.int 1, .int 2, .ref 415]) dX9_refuses_8 rfl rfl ?_
    refine w_is dX9_refuses_9 hU119 rfl (k := 2) zt_2 (Nat.le_of_ble_eq_true rfl) ?_
    intro M122 hU123 hv124 hn125
    have f126 := (hn125 385 2 (by decide)).trans hv120
    refine w_ic dX9_refuses_10 zi_m1 ?_
    refine w_en dX9_refuses_11 rfl ?_
    show ZW _ 10 9 false (some .boolean) cX9_wake _ (31, [some (.ref 386), some (.int a1), some (.int a2)], [.int (-1)], M122)
    refine w_ilt_t dX9_wake_31 (t := 38) rfl (by decide) ?_
    refine w_ic dX9_wake_38 zi_0 ?_
    refine w_en dX9_wake_39 rfl ?_
    exact ⟨rfl, hU119.1, hU123.1⟩
  · skip
    refine w_ilt_f dX8_isBoy_1 (t := 19) rfl (by omega) ?_
    refine w_lo dX8_isBoy_4 rfl rfl rfl rfl ?_
    refine w_lo dX8_isBoy_5 rfl rfl rfl rfl ?_
    refine w_gf dX8_isBoy_6 rfl zU_0.1 rfl ((zU_0).2 0 3 rfl |>.trans zq_0_3) ?_
    refine w_gf dX8_isBoy_9 rfl zU_0.1 rfl ((zU_0).2 28 1 rfl |>.trans zq_28_1) ?_
    refine w_cge_t dX8_isBoy_12 (t := 19) rfl (by have := zt_0; omega) ?_
    refine w_ic dX8_isBoy_19 zi_0 ?_
    refine w_en dX8_isBoy_20 rfl ?_
    show ZW _ 10 8 false (some .boolean) cX8_wake _ (5, [some (.ref 0), some (.int a1), some (.int a2)], [.int 0], zM0)
    refine w_ieq_t dX8_wake_5 (t := 21) rfl (by decide) ?_
    refine w_lo dX8_wake_21 rfl rfl rfl rfl ?_
    refine w_ic dX8_wake_22 zi_2 ?_
    refine w_iv dX8_wake_23 rfl rfl (As := [.int 2]) rfl rfl zU_0.1 rfl (Nat.le_of_ble_eq_true rfl) ?_
    refine ZV.of (ini := false) rfl (Nat.le_of_ble_eq_true rfl) (by decide +kernel) ?_
    show ZW _ 9 8 false none cX8_refuse _ (0, [some (.ref 0), some (.int 2)], [], zM0)
    refine w_lo dX8_refuse_0 rfl rfl rfl rfl ?_
    refine w_ilt_f dX8_refuse_1 (t := 20) rfl (by decide) ?_
    refine w_lo dX8_refuse_4 rfl rfl rfl rfl ?_
    refine w_bi dX8_refuse_5 (c := 6) (by decide) ?_
    refine w_cge_f dX8_refuse_7 (t := 20) rfl (by decide) ?_
    refine w_lo dX8_refuse_10 rfl rfl rfl rfl ?_
    refine w_gf dX8_refuse_11 rfl zU_0.1 rfl ((zU_0).2 0 14 rfl |>.trans zq_0_14) ?_
    refine w_lo dX8_refuse_14 rfl rfl rfl rfl ?_
    refine w_pu dX8_refuse_15 rfl rfl ?_
    refine w_ia dX8_refuse_16 zU_0.1 rfl (k := 2) zt_2 ((zU_0).2 385 2 rfl |>.trans zq_385_2) ?_
    refine w_ic dX8_refuse_17 zi_1 ?_
    refine w_pu (st' := [.int 1, .int 2, .ref 385]) dX8_refuse_18 rfl rfl ?_
    refine w_is dX8_refuse_19 zU_0 rfl (k := 2) zt_2 (Nat.le_of_ble_eq_true rfl) ?_
    intro M127 hU128 hv129 hn130
    refine w_en dX8_refuse_20 rfl ?_
    show ZW _ 10 8 false (some .boolean) cX8_wake _ (26, [some (.ref 0), some (.int a1), some (.int a2)], [], M127)
    refine w_ic dX8_wake_26 zi_0 ?_
    refine w_en dX8_wake_27 rfl ?_
    refine ⟨_, rfl, ?_⟩
    refine ZV.of (ini := false) rfl (Nat.le_of_ble_eq_true rfl) (by decide +kernel) ?_
    show ZW _ 10 9 false (some .boolean) cX9_wake _ (0, [some (.ref 386), some (.int a1), some (.int a2)], [], M127)
    refine w_lo dX9_wake_0 rfl rfl rfl rfl ?_
    refine w_lo dX9_wake_1 rfl rfl rfl rfl ?_
    refine w_iv dX9_wake_2 rfl rfl (As := [.int a1]) rfl rfl hU128.1 rfl (Nat.le_of_ble_eq_true rfl) ?_
    refine ZV.of (ini := false) rfl (Nat.le_of_ble_eq_true rfl) (by decide +kernel) ?_
    show ZW _ 9 9 false (some .boolean) cX9_isBoy _ (0, [some (.ref 386), some (.int a1)], [], M127)
    refine w_lo dX9_isBoy_0 rfl rfl rfl rfl ?_
    refine w_ilt_f dX9_isBoy_1 (t := 21) rfl (by omega) ?_
    refine w_lo dX9_isBoy_4 rfl rfl rfl rfl ?_
    refine w_lo dX9_isBoy_5 rfl rfl rfl rfl ?_
    refine w_gf dX9_isBoy_6 rfl hU128.1 rfl ((hU128).2 386 13 rfl |>.trans zq_386_13) ?_
    refine w_lo dX9_isBoy_9 rfl rfl rfl rfl ?_
    refine w_gf dX9_isBoy_10 rfl hU128.1 rfl ((hU128).2 386 12 rfl |>.trans zq_386_12) ?_
    refine w_ia dX9_isBoy_13 hU128.1 rfl (k := 0) zt_0 ((hU128).2 388 0 rfl |>.trans zq_388_0) ?_
    refine w_cge_t dX9_isBoy_14 (t := 21) rfl (by have := zt_0; omega) ?_
    refine w_ic dX9_isBoy_21 zi_0 ?_
    refine w_en dX9_isBoy_22 rfl ?_
    show ZW _ 10 9 false (some .boolean) cX9_wake _ (5, [some (.ref 386), some (.int a1), some (.int a2)], [.int 0], M127)
    refine w_ieq_t dX9_wake_5 (t := 26) rfl (by decide) ?_
    refine w_lo dX9_wake_26 rfl rfl rfl rfl ?_
    refine w_ic dX9_wake_27 zi_2 ?_
    refine w_iv dX9_wake_28 rfl rfl (As := [.int 2]) rfl rfl hU128.1 rfl (Nat.le_of_ble_eq_true rfl) ?_
    refine ZV.of (ini := false) rfl (Nat.le_of_ble_eq_true rfl) (by decide +kernel) ?_
    show ZW _ 9 9 false (some .int) cX9_refuses _ (0, [some (.ref 386), some (.int 2)], [], M127)
    refine w_lo dX9_refuses_0 rfl rfl rfl rfl ?_
    refine w_gf dX9_refuses_1 rfl hU128.1 rfl ((hU128).2 386 46 rfl |>.trans zq_386_46) ?_
    refine w_lo dX9_refuses_4 rfl rfl rfl rfl ?_
    refine w_pu dX9_refuses_5 rfl rfl ?_
    refine w_ia dX9_refuses_6 hU128.1 rfl (k := 2) zt_2 ((hU128).2 415 2 rfl |>.trans zq_415_2) ?_
    refine w_ic dX9_refuses_7 zi_1 ?_
    refine w_pu (st' := [.int 1, .int 2, .ref 415]) dX9_refuses_8 rfl rfl ?_
    refine w_is dX9_refuses_9 hU128 rfl (k := 2) zt_2 (Nat.le_of_ble_eq_true rfl) ?_
    intro M131 hU132 hv133 hn134
    have f135 := (hn134 385 2 (by decide)).trans hv129
    refine w_ic dX9_refuses_10 zi_m1 ?_
    refine w_en dX9_refuses_11 rfl ?_
    show ZW _ 10 9 false (some .boolean) cX9_wake _ (31, [some (.ref 386), some (.int a1), some (.int a2)], [.int (-1)], M131)
    refine w_ilt_t dX9_wake_31 (t := 38) rfl (by decide) ?_
    refine w_ic dX9_wake_38 zi_0 ?_
    refine w_en dX9_wake_39 rfl ?_
    exact ⟨rfl, hU128.1, hU132.1⟩
theorem zp_15 (a1 a2 : Int32) : ∃ (v : Int32) (M1 M2 : zM), ZC [] 11 2077 [.ref 0, .int a1, .int a2] zM0 (some (.int v), M1) ∧ ZC [] 11 2393 [.ref 386, .int a1, .int a2] M1 (some (.int v), M2) ∧ zSh M1 ∧ zSh M2 := by
  refine zp_of ?_
  refine ZV.of (ini := false) rfl (Nat.le_of_ble_eq_true rfl) (by decide +kernel) ?_
  show ZW _ 10 8 false (some .boolean) cX8_tie _ (0, [some (.ref 0), some (.int a1), some (.int a2)], [], zM0)
  refine w_lo dX8_tie_0 rfl rfl rfl rfl ?_
  refine w_lo dX8_tie_1 rfl rfl rfl rfl ?_
  refine w_iv dX8_tie_2 rfl rfl (As := [.int a1]) rfl rfl zU_0.1 rfl (Nat.le_of_ble_eq_true rfl) ?_
  refine ZV.of (ini := false) rfl (Nat.le_of_ble_eq_true rfl) (by decide +kernel) ?_
  show ZW _ 9 8 false (some .boolean) cX8_isKnot _ (0, [some (.ref 0), some (.int a1)], [], zM0)
  refine w_lo dX8_isKnot_0 rfl rfl rfl rfl ?_
  rcases zcut a1.toInt (0) with h136 | h136
  · skip
    refine w_ilt_t dX8_isKnot_1 (t := 21) rfl (by omega) ?_
    refine w_ic dX8_isKnot_21 zi_0 ?_
    refine w_en dX8_isKnot_22 rfl ?_
    show ZW _ 10 8 false (some .boolean) cX8_tie _ (5, [some (.ref 0), some (.int a1), some (.int a2)], [.int 0], zM0)
    refine w_ieq_t dX8_tie_5 (t := 21) rfl (by decide) ?_
    refine w_lo dX8_tie_21 rfl rfl rfl rfl ?_
    refine w_ic dX8_tie_22 zi_3 ?_
    refine w_iv dX8_tie_23 rfl rfl (As := [.int 3]) rfl rfl zU_0.1 rfl (Nat.le_of_ble_eq_true rfl) ?_
    refine ZV.of (ini := false) rfl (Nat.le_of_ble_eq_true rfl) (by decide +kernel) ?_
    show ZW _ 9 8 false none cX8_refuse _ (0, [some (.ref 0), some (.int 3)], [], zM0)
    refine w_lo dX8_refuse_0 rfl rfl rfl rfl ?_
    refine w_ilt_f dX8_refuse_1 (t := 20) rfl (by decide) ?_
    refine w_lo dX8_refuse_4 rfl rfl rfl rfl ?_
    refine w_bi dX8_refuse_5 (c := 6) (by decide) ?_
    refine w_cge_f dX8_refuse_7 (t := 20) rfl (by decide) ?_
    refine w_lo dX8_refuse_10 rfl rfl rfl rfl ?_
    refine w_gf dX8_refuse_11 rfl zU_0.1 rfl ((zU_0).2 0 14 rfl |>.trans zq_0_14) ?_
    refine w_lo dX8_refuse_14 rfl rfl rfl rfl ?_
    refine w_pu dX8_refuse_15 rfl rfl ?_
    refine w_ia dX8_refuse_16 zU_0.1 rfl (k := 3) zt_3 ((zU_0).2 385 3 rfl |>.trans zq_385_3) ?_
    refine w_ic dX8_refuse_17 zi_1 ?_
    refine w_pu (st' := [.int 1, .int 3, .ref 385]) dX8_refuse_18 rfl rfl ?_
    refine w_is dX8_refuse_19 zU_0 rfl (k := 3) zt_3 (Nat.le_of_ble_eq_true rfl) ?_
    intro M137 hU138 hv139 hn140
    refine w_en dX8_refuse_20 rfl ?_
    show ZW _ 10 8 false (some .boolean) cX8_tie _ (26, [some (.ref 0), some (.int a1), some (.int a2)], [], M137)
    refine w_ic dX8_tie_26 zi_0 ?_
    refine w_en dX8_tie_27 rfl ?_
    refine ⟨_, rfl, ?_⟩
    refine ZV.of (ini := false) rfl (Nat.le_of_ble_eq_true rfl) (by decide +kernel) ?_
    show ZW _ 10 9 false (some .boolean) cX9_tie _ (0, [some (.ref 386), some (.int a1), some (.int a2)], [], M137)
    refine w_lo dX9_tie_0 rfl rfl rfl rfl ?_
    refine w_lo dX9_tie_1 rfl rfl rfl rfl ?_
    refine w_iv dX9_tie_2 rfl rfl (As := [.int a1]) rfl rfl hU138.1 rfl (Nat.le_of_ble_eq_true rfl) ?_
    refine ZV.of (ini := false) rfl (Nat.le_of_ble_eq_true rfl) (by decide +kernel) ?_
    show ZW _ 9 9 false (some .boolean) cX9_isKnot _ (0, [some (.ref 386), some (.int a1)], [], M137)
    refine w_lo dX9_isKnot_0 rfl rfl rfl rfl ?_
    refine w_ilt_t dX9_isKnot_1 (t := 23) rfl (by omega) ?_
    refine w_ic dX9_isKnot_23 zi_0 ?_
    refine w_en dX9_isKnot_24 rfl ?_
    show ZW _ 10 9 false (some .boolean) cX9_tie _ (5, [some (.ref 386), some (.int a1), some (.int a2)], [.int 0], M137)
    refine w_ieq_t dX9_tie_5 (t := 27) rfl (by decide) ?_
    refine w_lo dX9_tie_27 rfl rfl rfl rfl ?_
    refine w_ic dX9_tie_28 zi_3 ?_
    refine w_iv dX9_tie_29 rfl rfl (As := [.int 3]) rfl rfl hU138.1 rfl (Nat.le_of_ble_eq_true rfl) ?_
    refine ZV.of (ini := false) rfl (Nat.le_of_ble_eq_true rfl) (by decide +kernel) ?_
    show ZW _ 9 9 false (some .int) cX9_refuses _ (0, [some (.ref 386), some (.int 3)], [], M137)
    refine w_lo dX9_refuses_0 rfl rfl rfl rfl ?_
    refine w_gf dX9_refuses_1 rfl hU138.1 rfl ((hU138).2 386 46 rfl |>.trans zq_386_46) ?_
    refine w_lo dX9_refuses_4 rfl rfl rfl rfl ?_
    refine w_pu dX9_refuses_5 rfl rfl ?_
    refine w_ia dX9_refuses_6 hU138.1 rfl (k := 3) zt_3 ((hU138).2 415 3 rfl |>.trans zq_415_3) ?_
    refine w_ic dX9_refuses_7 zi_1 ?_
    refine w_pu (st' := [.int 1, .int 3, .ref 415]) dX9_refuses_8 rfl rfl ?_
    refine w_is dX9_refuses_9 hU138 rfl (k := 3) zt_3 (Nat.le_of_ble_eq_true rfl) ?_
    intro M141 hU142 hv143 hn144
    have f145 := (hn144 385 3 (by decide)).trans hv139
    refine w_ic dX9_refuses_10 zi_m1 ?_
    refine w_en dX9_refuses_11 rfl ?_
    show ZW _ 10 9 false (some .boolean) cX9_tie _ (32, [some (.ref 386), some (.int a1), some (.int a2)], [.int (-1)], M141)
    refine w_ilt_t dX9_tie_32 (t := 39) rfl (by decide) ?_
    refine w_ic dX9_tie_39 zi_0 ?_
    refine w_en dX9_tie_40 rfl ?_
    exact ⟨rfl, hU138.1, hU142.1⟩
  · skip
    refine w_ilt_f dX8_isKnot_1 (t := 21) rfl (by omega) ?_
    refine w_lo dX8_isKnot_4 rfl rfl rfl rfl ?_
    refine w_lo dX8_isKnot_5 rfl rfl rfl rfl ?_
    refine w_gf dX8_isKnot_6 rfl zU_0.1 rfl ((zU_0).2 0 4 rfl |>.trans zq_0_4) ?_
    refine w_gf dX8_isKnot_9 rfl zU_0.1 rfl ((zU_0).2 49 0 rfl |>.trans zq_49_0) ?_
    refine w_ic dX8_isKnot_12 zi_1 ?_
    refine w_pu (st' := [.int (-1), .int a1]) dX8_isKnot_13 rfl rfl ?_
    refine w_cge_t dX8_isKnot_14 (t := 21) rfl (by have := zt_m1; omega) ?_
    refine w_ic dX8_isKnot_21 zi_0 ?_
    refine w_en dX8_isKnot_22 rfl ?_
    show ZW _ 10 8 false (some .boolean) cX8_tie _ (5, [some (.ref 0), some (.int a1), some (.int a2)], [.int 0], zM0)
    refine w_ieq_t dX8_tie_5 (t := 21) rfl (by decide) ?_
    refine w_lo dX8_tie_21 rfl rfl rfl rfl ?_
    refine w_ic dX8_tie_22 zi_3 ?_
    refine w_iv dX8_tie_23 rfl rfl (As := [.int 3]) rfl rfl zU_0.1 rfl (Nat.le_of_ble_eq_true rfl) ?_
    refine ZV.of (ini := false) rfl (Nat.le_of_ble_eq_true rfl) (by decide +kernel) ?_
    show ZW _ 9 8 false none cX8_refuse _ (0, [some (.ref 0), some (.int 3)], [], zM0)
    refine w_lo dX8_refuse_0 rfl rfl rfl rfl ?_
    refine w_ilt_f dX8_refuse_1 (t := 20) rfl (by decide) ?_
    refine w_lo dX8_refuse_4 rfl rfl rfl rfl ?_
    refine w_bi dX8_refuse_5 (c := 6) (by decide) ?_
    refine w_cge_f dX8_refuse_7 (t := 20) rfl (by decide) ?_
    refine w_lo dX8_refuse_10 rfl rfl rfl rfl ?_
    refine w_gf dX8_refuse_11 rfl zU_0.1 rfl ((zU_0).2 0 14 rfl |>.trans zq_0_14) ?_
    refine w_lo dX8_refuse_14 rfl rfl rfl rfl ?_
    refine w_pu dX8_refuse_15 rfl rfl ?_
    refine w_ia dX8_refuse_16 zU_0.1 rfl (k := 3) zt_3 ((zU_0).2 385 3 rfl |>.trans zq_385_3) ?_
    refine w_ic dX8_refuse_17 zi_1 ?_
    refine w_pu (st' := [.int 1, .int 3, .ref 385]) dX8_refuse_18 rfl rfl ?_
    refine w_is dX8_refuse_19 zU_0 rfl (k := 3) zt_3 (Nat.le_of_ble_eq_true rfl) ?_
    intro M146 hU147 hv148 hn149
    refine w_en dX8_refuse_20 rfl ?_
    show ZW _ 10 8 false (some .boolean) cX8_tie _ (26, [some (.ref 0), some (.int a1), some (.int a2)], [], M146)
    refine w_ic dX8_tie_26 zi_0 ?_
    refine w_en dX8_tie_27 rfl ?_
    refine ⟨_, rfl, ?_⟩
    refine ZV.of (ini := false) rfl (Nat.le_of_ble_eq_true rfl) (by decide +kernel) ?_
    show ZW _ 10 9 false (some .boolean) cX9_tie _ (0, [some (.ref 386), some (.int a1), some (.int a2)], [], M146)
    refine w_lo dX9_tie_0 rfl rfl rfl rfl ?_
    refine w_lo dX9_tie_1 rfl rfl rfl rfl ?_
    refine w_iv dX9_tie_2 rfl rfl (As := [.int a1]) rfl rfl hU147.1 rfl (Nat.le_of_ble_eq_true rfl) ?_
    refine ZV.of (ini := false) rfl (Nat.le_of_ble_eq_true rfl) (by decide +kernel) ?_
    show ZW _ 9 9 false (some .boolean) cX9_isKnot _ (0, [some (.ref 386), some (.int a1)], [], M146)
    refine w_lo dX9_isKnot_0 rfl rfl rfl rfl ?_
    refine w_ilt_f dX9_isKnot_1 (t := 23) rfl (by omega) ?_
    refine w_lo dX9_isKnot_4 rfl rfl rfl rfl ?_
    refine w_lo dX9_isKnot_5 rfl rfl rfl rfl ?_
    refine w_gf dX9_isKnot_6 rfl hU147.1 rfl ((hU147).2 386 13 rfl |>.trans zq_386_13) ?_
    refine w_lo dX9_isKnot_9 rfl rfl rfl rfl ?_
    refine w_gf dX9_isKnot_10 rfl hU147.1 rfl ((hU147).2 386 12 rfl |>.trans zq_386_12) ?_
    refine w_ia dX9_isKnot_13 hU147.1 rfl (k := 0) zt_0 ((hU147).2 388 0 rfl |>.trans zq_388_0) ?_
    refine w_ic dX9_isKnot_14 zi_1 ?_
    refine w_pu (st' := [.int (-1), .int a1]) dX9_isKnot_15 rfl rfl ?_
    refine w_cge_t dX9_isKnot_16 (t := 23) rfl (by have := zt_m1; omega) ?_
    refine w_ic dX9_isKnot_23 zi_0 ?_
    refine w_en dX9_isKnot_24 rfl ?_
    show ZW _ 10 9 false (some .boolean) cX9_tie _ (5, [some (.ref 386), some (.int a1), some (.int a2)], [.int 0], M146)
    refine w_ieq_t dX9_tie_5 (t := 27) rfl (by decide) ?_
    refine w_lo dX9_tie_27 rfl rfl rfl rfl ?_
    refine w_ic dX9_tie_28 zi_3 ?_
    refine w_iv dX9_tie_29 rfl rfl (As := [.int 3]) rfl rfl hU147.1 rfl (Nat.le_of_ble_eq_true rfl) ?_
    refine ZV.of (ini := false) rfl (Nat.le_of_ble_eq_true rfl) (by decide +kernel) ?_
    show ZW _ 9 9 false (some .int) cX9_refuses _ (0, [some (.ref 386), some (.int 3)], [], M146)
    refine w_lo dX9_refuses_0 rfl rfl rfl rfl ?_
    refine w_gf dX9_refuses_1 rfl hU147.1 rfl ((hU147).2 386 46 rfl |>.trans zq_386_46) ?_
    refine w_lo dX9_refuses_4 rfl rfl rfl rfl ?_
    refine w_pu dX9_refuses_5 rfl rfl ?_
    refine w_ia dX9_refuses_6 hU147.1 rfl (k := 3) zt_3 ((hU147).2 415 3 rfl |>.trans zq_415_3) ?_
    refine w_ic dX9_refuses_7 zi_1 ?_
    refine w_pu (st' := [.int 1, .int 3, .ref 415]) dX9_refuses_8 rfl rfl ?_
    refine w_is dX9_refuses_9 hU147 rfl (k := 3) zt_3 (Nat.le_of_ble_eq_true rfl) ?_
    intro M150 hU151 hv152 hn153
    have f154 := (hn153 385 3 (by decide)).trans hv148
    refine w_ic dX9_refuses_10 zi_m1 ?_
    refine w_en dX9_refuses_11 rfl ?_
    show ZW _ 10 9 false (some .boolean) cX9_tie _ (32, [some (.ref 386), some (.int a1), some (.int a2)], [.int (-1)], M150)
    refine w_ilt_t dX9_tie_32 (t := 39) rfl (by decide) ?_
    refine w_ic dX9_tie_39 zi_0 ?_
    refine w_en dX9_tie_40 rfl ?_
    exact ⟨rfl, hU147.1, hU151.1⟩
theorem zp_16 (a1 a2 : Int32) : ∃ (v : Int32) (M1 M2 : zM), ZC [] 11 2078 [.ref 0, .int a1, .int a2] zM0 (some (.int v), M1) ∧ ZC [] 11 2394 [.ref 386, .int a1, .int a2] M1 (some (.int v), M2) ∧ zSh M1 ∧ zSh M2 := by
  refine zp_of ?_
  refine ZV.of (ini := false) rfl (Nat.le_of_ble_eq_true rfl) (by decide +kernel) ?_
  show ZW _ 10 8 false (some .int) cX8_slack _ (0, [some (.ref 0), some (.int a1), some (.int a2), none], [], zM0)
  refine w_lo dX8_slack_0 rfl rfl rfl rfl ?_
  refine w_lo dX8_slack_1 rfl rfl rfl rfl ?_
  refine w_iv dX8_slack_2 rfl rfl (As := [.int a1]) rfl rfl zU_0.1 rfl (Nat.le_of_ble_eq_true rfl) ?_
  refine ZV.of (ini := false) rfl (Nat.le_of_ble_eq_true rfl) (by decide +kernel) ?_
  show ZW _ 9 8 false (some .boolean) cX8_isKnot _ (0, [some (.ref 0), some (.int a1)], [], zM0)
  refine w_lo dX8_isKnot_0 rfl rfl rfl rfl ?_
  rcases zcut a1.toInt (0) with h155 | h155
  · skip
    refine w_ilt_t dX8_isKnot_1 (t := 21) rfl (by omega) ?_
    refine w_ic dX8_isKnot_21 zi_0 ?_
    refine w_en dX8_isKnot_22 rfl ?_
    show ZW _ 10 8 false (some .int) cX8_slack _ (5, [some (.ref 0), some (.int a1), some (.int a2), none], [.int 0], zM0)
    refine w_ieq_t dX8_slack_5 (t := 18) rfl (by decide) ?_
    refine w_lo dX8_slack_18 rfl rfl rfl rfl ?_
    refine w_ic dX8_slack_19 zi_3 ?_
    refine w_iv dX8_slack_20 rfl rfl (As := [.int 3]) rfl rfl zU_0.1 rfl (Nat.le_of_ble_eq_true rfl) ?_
    refine ZV.of (ini := false) rfl (Nat.le_of_ble_eq_true rfl) (by decide +kernel) ?_
    show ZW _ 9 8 false none cX8_refuse _ (0, [some (.ref 0), some (.int 3)], [], zM0)
    refine w_lo dX8_refuse_0 rfl rfl rfl rfl ?_
    refine w_ilt_f dX8_refuse_1 (t := 20) rfl (by decide) ?_
    refine w_lo dX8_refuse_4 rfl rfl rfl rfl ?_
    refine w_bi dX8_refuse_5 (c := 6) (by decide) ?_
    refine w_cge_f dX8_refuse_7 (t := 20) rfl (by decide) ?_
    refine w_lo dX8_refuse_10 rfl rfl rfl rfl ?_
    refine w_gf dX8_refuse_11 rfl zU_0.1 rfl ((zU_0).2 0 14 rfl |>.trans zq_0_14) ?_
    refine w_lo dX8_refuse_14 rfl rfl rfl rfl ?_
    refine w_pu dX8_refuse_15 rfl rfl ?_
    refine w_ia dX8_refuse_16 zU_0.1 rfl (k := 3) zt_3 ((zU_0).2 385 3 rfl |>.trans zq_385_3) ?_
    refine w_ic dX8_refuse_17 zi_1 ?_
    refine w_pu (st' := [.int 1, .int 3, .ref 385]) dX8_refuse_18 rfl rfl ?_
    refine w_is dX8_refuse_19 zU_0 rfl (k := 3) zt_3 (Nat.le_of_ble_eq_true rfl) ?_
    intro M156 hU157 hv158 hn159
    refine w_en dX8_refuse_20 rfl ?_
    show ZW _ 10 8 false (some .int) cX8_slack _ (23, [some (.ref 0), some (.int a1), some (.int a2), none], [], M156)
    refine w_ic dX8_slack_23 zi_m1 ?_
    refine w_en dX8_slack_24 rfl ?_
    refine ⟨_, rfl, ?_⟩
    refine ZV.of (ini := false) rfl (Nat.le_of_ble_eq_true rfl) (by decide +kernel) ?_
    show ZW _ 10 9 false (some .int) cX9_slack _ (0, [some (.ref 386), some (.int a1), some (.int a2), none], [], M156)
    refine w_lo dX9_slack_0 rfl rfl rfl rfl ?_
    refine w_lo dX9_slack_1 rfl rfl rfl rfl ?_
    refine w_iv dX9_slack_2 rfl rfl (As := [.int a1]) rfl rfl hU157.1 rfl (Nat.le_of_ble_eq_true rfl) ?_
    refine ZV.of (ini := false) rfl (Nat.le_of_ble_eq_true rfl) (by decide +kernel) ?_
    show ZW _ 9 9 false (some .boolean) cX9_isKnot _ (0, [some (.ref 386), some (.int a1)], [], M156)
    refine w_lo dX9_isKnot_0 rfl rfl rfl rfl ?_
    refine w_ilt_t dX9_isKnot_1 (t := 23) rfl (by omega) ?_
    refine w_ic dX9_isKnot_23 zi_0 ?_
    refine w_en dX9_isKnot_24 rfl ?_
    show ZW _ 10 9 false (some .int) cX9_slack _ (5, [some (.ref 386), some (.int a1), some (.int a2), none], [.int 0], M156)
    refine w_ieq_t dX9_slack_5 (t := 18) rfl (by decide) ?_
    refine w_lo dX9_slack_18 rfl rfl rfl rfl ?_
    refine w_ic dX9_slack_19 zi_3 ?_
    refine w_iv dX9_slack_20 rfl rfl (As := [.int 3]) rfl rfl hU157.1 rfl (Nat.le_of_ble_eq_true rfl) ?_
    refine ZV.of (ini := false) rfl (Nat.le_of_ble_eq_true rfl) (by decide +kernel) ?_
    show ZW _ 9 9 false (some .int) cX9_refuses _ (0, [some (.ref 386), some (.int 3)], [], M156)
    refine w_lo dX9_refuses_0 rfl rfl rfl rfl ?_
    refine w_gf dX9_refuses_1 rfl hU157.1 rfl ((hU157).2 386 46 rfl |>.trans zq_386_46) ?_
    refine w_lo dX9_refuses_4 rfl rfl rfl rfl ?_
    refine w_pu dX9_refuses_5 rfl rfl ?_
    refine w_ia dX9_refuses_6 hU157.1 rfl (k := 3) zt_3 ((hU157).2 415 3 rfl |>.trans zq_415_3) ?_
    refine w_ic dX9_refuses_7 zi_1 ?_
    refine w_pu (st' := [.int 1, .int 3, .ref 415]) dX9_refuses_8 rfl rfl ?_
    refine w_is dX9_refuses_9 hU157 rfl (k := 3) zt_3 (Nat.le_of_ble_eq_true rfl) ?_
    intro M160 hU161 hv162 hn163
    have f164 := (hn163 385 3 (by decide)).trans hv158
    refine w_ic dX9_refuses_10 zi_m1 ?_
    refine w_en dX9_refuses_11 rfl ?_
    show ZW _ 10 9 false (some .int) cX9_slack _ (23, [some (.ref 386), some (.int a1), some (.int a2), none], [.int (-1)], M160)
    refine w_en dX9_slack_23 rfl ?_
    exact ⟨rfl, hU157.1, hU161.1⟩
  · skip
    refine w_ilt_f dX8_isKnot_1 (t := 21) rfl (by omega) ?_
    refine w_lo dX8_isKnot_4 rfl rfl rfl rfl ?_
    refine w_lo dX8_isKnot_5 rfl rfl rfl rfl ?_
    refine w_gf dX8_isKnot_6 rfl zU_0.1 rfl ((zU_0).2 0 4 rfl |>.trans zq_0_4) ?_
    refine w_gf dX8_isKnot_9 rfl zU_0.1 rfl ((zU_0).2 49 0 rfl |>.trans zq_49_0) ?_
    refine w_ic dX8_isKnot_12 zi_1 ?_
    refine w_pu (st' := [.int (-1), .int a1]) dX8_isKnot_13 rfl rfl ?_
    refine w_cge_t dX8_isKnot_14 (t := 21) rfl (by have := zt_m1; omega) ?_
    refine w_ic dX8_isKnot_21 zi_0 ?_
    refine w_en dX8_isKnot_22 rfl ?_
    show ZW _ 10 8 false (some .int) cX8_slack _ (5, [some (.ref 0), some (.int a1), some (.int a2), none], [.int 0], zM0)
    refine w_ieq_t dX8_slack_5 (t := 18) rfl (by decide) ?_
    refine w_lo dX8_slack_18 rfl rfl rfl rfl ?_
    refine w_ic dX8_slack_19 zi_3 ?_
    refine w_iv dX8_slack_20 rfl rfl (As := [.int 3]) rfl rfl zU_0.1 rfl (Nat.le_of_ble_eq_true rfl) ?_
    refine ZV.of (ini := false) rfl (Nat.le_of_ble_eq_true rfl) (by decide +kernel) ?_
    show ZW _ 9 8 false none cX8_refuse _ (0, [some (.ref 0), some (.int 3)], [], zM0)
    refine w_lo dX8_refuse_0 rfl rfl rfl rfl ?_
    refine w_ilt_f dX8_refuse_1 (t := 20) rfl (by decide) ?_
    refine w_lo dX8_refuse_4 rfl rfl rfl rfl ?_
    refine w_bi dX8_refuse_5 (c := 6) (by decide) ?_
    refine w_cge_f dX8_refuse_7 (t := 20) rfl (by decide) ?_
    refine w_lo dX8_refuse_10 rfl rfl rfl rfl ?_
    refine w_gf dX8_refuse_11 rfl zU_0.1 rfl ((zU_0).2 0 14 rfl |>.trans zq_0_14) ?_
    refine w_lo dX8_refuse_14 rfl rfl rfl rfl ?_
    refine w_pu dX8_refuse_15 rfl rfl ?_
    refine w_ia dX8_refuse_16 zU_0.1 rfl (k := 3) zt_3 ((zU_0).2 385 3 rfl |>.trans zq_385_3) ?_
    refine w_ic dX8_refuse_17 zi_1 ?_
    refine w_pu (st' := [.int 1, .int 3, .ref 385]) dX8_refuse_18 rfl rfl ?_
    refine w_is dX8_refuse_19 zU_0 rfl (k := 3) zt_3 (Nat.le_of_ble_eq_true rfl) ?_
    intro M165 hU166 hv167 hn168
    refine w_en dX8_refuse_20 rfl ?_
    show ZW _ 10 8 false (some .int) cX8_slack _ (23, [some (.ref 0), some (.int a1), some (.int a2), none], [], M165)
    refine w_ic dX8_slack_23 zi_m1 ?_
    refine w_en dX8_slack_24 rfl ?_
    refine ⟨_, rfl, ?_⟩
    refine ZV.of (ini := false) rfl (Nat.le_of_ble_eq_true rfl) (by decide +kernel) ?_
    show ZW _ 10 9 false (some .int) cX9_slack _ (0, [some (.ref 386), some (.int a1), some (.int a2), none], [], M165)
    refine w_lo dX9_slack_0 rfl rfl rfl rfl ?_
    refine w_lo dX9_slack_1 rfl rfl rfl rfl ?_
    refine w_iv dX9_slack_2 rfl rfl (As := [.int a1]) rfl rfl hU166.1 rfl (Nat.le_of_ble_eq_true rfl) ?_
    refine ZV.of (ini := false) rfl (Nat.le_of_ble_eq_true rfl) (by decide +kernel) ?_
    show ZW _ 9 9 false (some .boolean) cX9_isKnot _ (0, [some (.ref 386), some (.int a1)], [], M165)
    refine w_lo dX9_isKnot_0 rfl rfl rfl rfl ?_
    refine w_ilt_f dX9_isKnot_1 (t := 23) rfl (by omega) ?_
    refine w_lo dX9_isKnot_4 rfl rfl rfl rfl ?_
    refine w_lo dX9_isKnot_5 rfl rfl rfl rfl ?_
    refine w_gf dX9_isKnot_6 rfl hU166.1 rfl ((hU166).2 386 13 rfl |>.trans zq_386_13) ?_
    refine w_lo dX9_isKnot_9 rfl rfl rfl rfl ?_
    refine w_gf dX9_isKnot_10 rfl hU166.1 rfl ((hU166).2 386 12 rfl |>.trans zq_386_12) ?_
    refine w_ia dX9_isKnot_13 hU166.1 rfl (k := 0) zt_0 ((hU166).2 388 0 rfl |>.trans zq_388_0) ?_
    refine w_ic dX9_isKnot_14 zi_1 ?_
    refine w_pu (st' := [.int (-1), .int a1]) dX9_isKnot_15 rfl rfl ?_
    refine w_cge_t dX9_isKnot_16 (t := 23) rfl (by have := zt_m1; omega) ?_
    refine w_ic dX9_isKnot_23 zi_0 ?_
    refine w_en dX9_isKnot_24 rfl ?_
    show ZW _ 10 9 false (some .int) cX9_slack _ (5, [some (.ref 386), some (.int a1), some (.int a2), none], [.int 0], M165)
    refine w_ieq_t dX9_slack_5 (t := 18) rfl (by decide) ?_
    refine w_lo dX9_slack_18 rfl rfl rfl rfl ?_
    refine w_ic dX9_slack_19 zi_3 ?_
    refine w_iv dX9_slack_20 rfl rfl (As := [.int 3]) rfl rfl hU166.1 rfl (Nat.le_of_ble_eq_true rfl) ?_
    refine ZV.of (ini := false) rfl (Nat.le_of_ble_eq_true rfl) (by decide +kernel) ?_
    show ZW _ 9 9 false (some .int) cX9_refuses _ (0, [some (.ref 386), some (.int 3)], [], M165)
    refine w_lo dX9_refuses_0 rfl rfl rfl rfl ?_
    refine w_gf dX9_refuses_1 rfl hU166.1 rfl ((hU166).2 386 46 rfl |>.trans zq_386_46) ?_
    refine w_lo dX9_refuses_4 rfl rfl rfl rfl ?_
    refine w_pu dX9_refuses_5 rfl rfl ?_
    refine w_ia dX9_refuses_6 hU166.1 rfl (k := 3) zt_3 ((hU166).2 415 3 rfl |>.trans zq_415_3) ?_
    refine w_ic dX9_refuses_7 zi_1 ?_
    refine w_pu (st' := [.int 1, .int 3, .ref 415]) dX9_refuses_8 rfl rfl ?_
    refine w_is dX9_refuses_9 hU166 rfl (k := 3) zt_3 (Nat.le_of_ble_eq_true rfl) ?_
    intro M169 hU170 hv171 hn172
    have f173 := (hn172 385 3 (by decide)).trans hv167
    refine w_ic dX9_refuses_10 zi_m1 ?_
    refine w_en dX9_refuses_11 rfl ?_
    show ZW _ 10 9 false (some .int) cX9_slack _ (23, [some (.ref 386), some (.int a1), some (.int a2), none], [.int (-1)], M169)
    refine w_en dX9_slack_23 rfl ?_
    exact ⟨rfl, hU166.1, hU170.1⟩
theorem zp_17 (a1 a2 : Int32) : ∃ (v : Int32) (M1 M2 : zM), ZC [] 11 2079 [.ref 0, .int a1, .int a2] zM0 (some (.int v), M1) ∧ ZC [] 11 2395 [.ref 386, .int a1, .int a2] M1 (some (.int v), M2) ∧ zSh M1 ∧ zSh M2 := by
  refine zp_of ?_
  refine ZV.of (ini := false) rfl (Nat.le_of_ble_eq_true rfl) (by decide +kernel) ?_
  show ZW _ 10 8 false (some .boolean) cX8_swap _ (0, [some (.ref 0), some (.int a1), some (.int a2)], [], zM0)
  refine w_lo dX8_swap_0 rfl rfl rfl rfl ?_
  refine w_lo dX8_swap_1 rfl rfl rfl rfl ?_
  refine w_iv dX8_swap_2 rfl rfl (As := [.int a1]) rfl rfl zU_0.1 rfl (Nat.le_of_ble_eq_true rfl) ?_
  refine ZV.of (ini := false) rfl (Nat.le_of_ble_eq_true rfl) (by decide +kernel) ?_
  show ZW _ 9 8 false (some .boolean) cX8_isPlace _ (0, [some (.ref 0), some (.int a1)], [], zM0)
  refine w_lo dX8_isPlace_0 rfl rfl rfl rfl ?_
  rcases zcut a1.toInt (0) with h174 | h174
  · skip
    refine w_ilt_t dX8_isPlace_1 (t := 19) rfl (by omega) ?_
    refine w_ic dX8_isPlace_19 zi_0 ?_
    refine w_en dX8_isPlace_20 rfl ?_
    show ZW _ 10 8 false (some .boolean) cX8_swap _ (5, [some (.ref 0), some (.int a1), some (.int a2)], [.int 0], zM0)
    refine w_ieq_t dX8_swap_5 (t := 21) rfl (by decide) ?_
    refine w_lo dX8_swap_21 rfl rfl rfl rfl ?_
    refine w_ic dX8_swap_22 zi_3 ?_
    refine w_iv dX8_swap_23 rfl rfl (As := [.int 3]) rfl rfl zU_0.1 rfl (Nat.le_of_ble_eq_true rfl) ?_
    refine ZV.of (ini := false) rfl (Nat.le_of_ble_eq_true rfl) (by decide +kernel) ?_
    show ZW _ 9 8 false none cX8_refuse _ (0, [some (.ref 0), some (.int 3)], [], zM0)
    refine w_lo dX8_refuse_0 rfl rfl rfl rfl ?_
    refine w_ilt_f dX8_refuse_1 (t := 20) rfl (by decide) ?_
    refine w_lo dX8_refuse_4 rfl rfl rfl rfl ?_
    refine w_bi dX8_refuse_5 (c := 6) (by decide) ?_
    refine w_cge_f dX8_refuse_7 (t := 20) rfl (by decide) ?_
    refine w_lo dX8_refuse_10 rfl rfl rfl rfl ?_
    refine w_gf dX8_refuse_11 rfl zU_0.1 rfl ((zU_0).2 0 14 rfl |>.trans zq_0_14) ?_
    refine w_lo dX8_refuse_14 rfl rfl rfl rfl ?_
    refine w_pu dX8_refuse_15 rfl rfl ?_
    refine w_ia dX8_refuse_16 zU_0.1 rfl (k := 3) zt_3 ((zU_0).2 385 3 rfl |>.trans zq_385_3) ?_
    refine w_ic dX8_refuse_17 zi_1 ?_
    refine w_pu (st' := [.int 1, .int 3, .ref 385]) dX8_refuse_18 rfl rfl ?_
    refine w_is dX8_refuse_19 zU_0 rfl (k := 3) zt_3 (Nat.le_of_ble_eq_true rfl) ?_
    intro M175 hU176 hv177 hn178
    refine w_en dX8_refuse_20 rfl ?_
    show ZW _ 10 8 false (some .boolean) cX8_swap _ (26, [some (.ref 0), some (.int a1), some (.int a2)], [], M175)
    refine w_ic dX8_swap_26 zi_0 ?_
    refine w_en dX8_swap_27 rfl ?_
    refine ⟨_, rfl, ?_⟩
    refine ZV.of (ini := false) rfl (Nat.le_of_ble_eq_true rfl) (by decide +kernel) ?_
    show ZW _ 10 9 false (some .boolean) cX9_swap _ (0, [some (.ref 386), some (.int a1), some (.int a2), none], [], M175)
    refine w_lo dX9_swap_0 rfl rfl rfl rfl ?_
    refine w_lo dX9_swap_1 rfl rfl rfl rfl ?_
    refine w_iv dX9_swap_2 rfl rfl (As := [.int a1]) rfl rfl hU176.1 rfl (Nat.le_of_ble_eq_true rfl) ?_
    refine ZV.of (ini := false) rfl (Nat.le_of_ble_eq_true rfl) (by decide +kernel) ?_
    show ZW _ 9 9 false (some .boolean) cX9_isBoy _ (0, [some (.ref 386), some (.int a1)], [], M175)
    refine w_lo dX9_isBoy_0 rfl rfl rfl rfl ?_
    refine w_ilt_t dX9_isBoy_1 (t := 21) rfl (by omega) ?_
    refine w_ic dX9_isBoy_21 zi_0 ?_
    refine w_en dX9_isBoy_22 rfl ?_
    show ZW _ 10 9 false (some .boolean) cX9_swap _ (5, [some (.ref 386), some (.int a1), some (.int a2), none], [.int 0], M175)
    refine w_ieq_t dX9_swap_5 (t := 21) rfl (by decide) ?_
    refine w_lo dX9_swap_21 rfl rfl rfl rfl ?_
    refine w_ic dX9_swap_22 zi_3 ?_
    refine w_iv dX9_swap_23 rfl rfl (As := [.int 3]) rfl rfl hU176.1 rfl (Nat.le_of_ble_eq_true rfl) ?_
    refine ZV.of (ini := false) rfl (Nat.le_of_ble_eq_true rfl) (by decide +kernel) ?_
    show ZW _ 9 9 false (some .int) cX9_refuses _ (0, [some (.ref 386), some (.int 3)], [], M175)
    refine w_lo dX9_refuses_0 rfl rfl rfl rfl ?_
    refine w_gf dX9_refuses_1 rfl hU176.1 rfl ((hU176).2 386 46 rfl |>.trans zq_386_46) ?_
    refine w_lo dX9_refuses_4 rfl rfl rfl rfl ?_
    refine w_pu dX9_refuses_5 rfl rfl ?_
    refine w_ia dX9_refuses_6 hU176.1 rfl (k := 3) zt_3 ((hU176).2 415 3 rfl |>.trans zq_415_3) ?_
    refine w_ic dX9_refuses_7 zi_1 ?_
    refine w_pu (st' := [.int 1, .int 3, .ref 415]) dX9_refuses_8 rfl rfl ?_
    refine w_is dX9_refuses_9 hU176 rfl (k := 3) zt_3 (Nat.le_of_ble_eq_true rfl) ?_
    intro M179 hU180 hv181 hn182
    have f183 := (hn182 385 3 (by decide)).trans hv177
    refine w_ic dX9_refuses_10 zi_m1 ?_
    refine w_en dX9_refuses_11 rfl ?_
    show ZW _ 10 9 false (some .boolean) cX9_swap _ (26, [some (.ref 386), some (.int a1), some (.int a2), none], [.int (-1)], M179)
    refine w_ilt_t dX9_swap_26 (t := 33) rfl (by decide) ?_
    refine w_ic dX9_swap_33 zi_0 ?_
    refine w_en dX9_swap_34 rfl ?_
    exact ⟨rfl, hU176.1, hU180.1⟩
  · skip
    refine w_ilt_f dX8_isPlace_1 (t := 19) rfl (by omega) ?_
    refine w_lo dX8_isPlace_4 rfl rfl rfl rfl ?_
    refine w_lo dX8_isPlace_5 rfl rfl rfl rfl ?_
    refine w_gf dX8_isPlace_6 rfl zU_0.1 rfl ((zU_0).2 0 4 rfl |>.trans zq_0_4) ?_
    refine w_gf dX8_isPlace_9 rfl zU_0.1 rfl ((zU_0).2 49 0 rfl |>.trans zq_49_0) ?_
    refine w_cge_t dX8_isPlace_12 (t := 19) rfl (by have := zt_0; omega) ?_
    refine w_ic dX8_isPlace_19 zi_0 ?_
    refine w_en dX8_isPlace_20 rfl ?_
    show ZW _ 10 8 false (some .boolean) cX8_swap _ (5, [some (.ref 0), some (.int a1), some (.int a2)], [.int 0], zM0)
    refine w_ieq_t dX8_swap_5 (t := 21) rfl (by decide) ?_
    refine w_lo dX8_swap_21 rfl rfl rfl rfl ?_
    refine w_ic dX8_swap_22 zi_3 ?_
    refine w_iv dX8_swap_23 rfl rfl (As := [.int 3]) rfl rfl zU_0.1 rfl (Nat.le_of_ble_eq_true rfl) ?_
    refine ZV.of (ini := false) rfl (Nat.le_of_ble_eq_true rfl) (by decide +kernel) ?_
    show ZW _ 9 8 false none cX8_refuse _ (0, [some (.ref 0), some (.int 3)], [], zM0)
    refine w_lo dX8_refuse_0 rfl rfl rfl rfl ?_
    refine w_ilt_f dX8_refuse_1 (t := 20) rfl (by decide) ?_
    refine w_lo dX8_refuse_4 rfl rfl rfl rfl ?_
    refine w_bi dX8_refuse_5 (c := 6) (by decide) ?_
    refine w_cge_f dX8_refuse_7 (t := 20) rfl (by decide) ?_
    refine w_lo dX8_refuse_10 rfl rfl rfl rfl ?_
    refine w_gf dX8_refuse_11 rfl zU_0.1 rfl ((zU_0).2 0 14 rfl |>.trans zq_0_14) ?_
    refine w_lo dX8_refuse_14 rfl rfl rfl rfl ?_
    refine w_pu dX8_refuse_15 rfl rfl ?_
    refine w_ia dX8_refuse_16 zU_0.1 rfl (k := 3) zt_3 ((zU_0).2 385 3 rfl |>.trans zq_385_3) ?_
    refine w_ic dX8_refuse_17 zi_1 ?_
    refine w_pu (st' := [.int 1, .int 3, .ref 385]) dX8_refuse_18 rfl rfl ?_
    refine w_is dX8_refuse_19 zU_0 rfl (k := 3) zt_3 (Nat.le_of_ble_eq_true rfl) ?_
    intro M184 hU185 hv186 hn187
    refine w_en dX8_refuse_20 rfl ?_
    show ZW _ 10 8 false (some .boolean) cX8_swap _ (26, [some (.ref 0), some (.int a1), some (.int a2)], [], M184)
    refine w_ic dX8_swap_26 zi_0 ?_
    refine w_en dX8_swap_27 rfl ?_
    refine ⟨_, rfl, ?_⟩
    refine ZV.of (ini := false) rfl (Nat.le_of_ble_eq_true rfl) (by decide +kernel) ?_
    show ZW _ 10 9 false (some .boolean) cX9_swap _ (0, [some (.ref 386), some (.int a1), some (.int a2), none], [], M184)
    refine w_lo dX9_swap_0 rfl rfl rfl rfl ?_
    refine w_lo dX9_swap_1 rfl rfl rfl rfl ?_
    refine w_iv dX9_swap_2 rfl rfl (As := [.int a1]) rfl rfl hU185.1 rfl (Nat.le_of_ble_eq_true rfl) ?_
    refine ZV.of (ini := false) rfl (Nat.le_of_ble_eq_true rfl) (by decide +kernel) ?_
    show ZW _ 9 9 false (some .boolean) cX9_isBoy _ (0, [some (.ref 386), some (.int a1)], [], M184)
    refine w_lo dX9_isBoy_0 rfl rfl rfl rfl ?_
    refine w_ilt_f dX9_isBoy_1 (t := 21) rfl (by omega) ?_
    refine w_lo dX9_isBoy_4 rfl rfl rfl rfl ?_
    refine w_lo dX9_isBoy_5 rfl rfl rfl rfl ?_
    refine w_gf dX9_isBoy_6 rfl hU185.1 rfl ((hU185).2 386 13 rfl |>.trans zq_386_13) ?_
    refine w_lo dX9_isBoy_9 rfl rfl rfl rfl ?_
    refine w_gf dX9_isBoy_10 rfl hU185.1 rfl ((hU185).2 386 12 rfl |>.trans zq_386_12) ?_
    refine w_ia dX9_isBoy_13 hU185.1 rfl (k := 0) zt_0 ((hU185).2 388 0 rfl |>.trans zq_388_0) ?_
    refine w_cge_t dX9_isBoy_14 (t := 21) rfl (by have := zt_0; omega) ?_
    refine w_ic dX9_isBoy_21 zi_0 ?_
    refine w_en dX9_isBoy_22 rfl ?_
    show ZW _ 10 9 false (some .boolean) cX9_swap _ (5, [some (.ref 386), some (.int a1), some (.int a2), none], [.int 0], M184)
    refine w_ieq_t dX9_swap_5 (t := 21) rfl (by decide) ?_
    refine w_lo dX9_swap_21 rfl rfl rfl rfl ?_
    refine w_ic dX9_swap_22 zi_3 ?_
    refine w_iv dX9_swap_23 rfl rfl (As := [.int 3]) rfl rfl hU185.1 rfl (Nat.le_of_ble_eq_true rfl) ?_
    refine ZV.of (ini := false) rfl (Nat.le_of_ble_eq_true rfl) (by decide +kernel) ?_
    show ZW _ 9 9 false (some .int) cX9_refuses _ (0, [some (.ref 386), some (.int 3)], [], M184)
    refine w_lo dX9_refuses_0 rfl rfl rfl rfl ?_
    refine w_gf dX9_refuses_1 rfl hU185.1 rfl ((hU185).2 386 46 rfl |>.trans zq_386_46) ?_
    refine w_lo dX9_refuses_4 rfl rfl rfl rfl ?_
    refine w_pu dX9_refuses_5 rfl rfl ?_
    refine w_ia dX9_refuses_6 hU185.1 rfl (k := 3) zt_3 ((hU185).2 415 3 rfl |>.trans zq_415_3) ?_
    refine w_ic dX9_refuses_7 zi_1 ?_
    refine w_pu (st' := [.int 1, .int 3, .ref 415]) dX9_refuses_8 rfl rfl ?_
    refine w_is dX9_refuses_9 hU185 rfl (k := 3) zt_3 (Nat.le_of_ble_eq_true rfl) ?_
    intro M188 hU189 hv190 hn191
    have f192 := (hn191 385 3 (by decide)).trans hv186
    refine w_ic dX9_refuses_10 zi_m1 ?_
    refine w_en dX9_refuses_11 rfl ?_
    show ZW _ 10 9 false (some .boolean) cX9_swap _ (26, [some (.ref 386), some (.int a1), some (.int a2), none], [.int (-1)], M188)
    refine w_ilt_t dX9_swap_26 (t := 33) rfl (by decide) ?_
    refine w_ic dX9_swap_33 zi_0 ?_
    refine w_en dX9_swap_34 rfl ?_
    exact ⟨rfl, hU185.1, hU189.1⟩
theorem zp_19 (a1 : Int32) : ∃ (v : Int32) (M1 M2 : zM), ZC [] 11 2081 [.ref 0, .int a1] zM0 (some (.int v), M1) ∧ ZC [] 11 2396 [.ref 386, .int a1] M1 (some (.int v), M2) ∧ zSh M1 ∧ zSh M2 := by
  refine zp_of ?_
  refine ZV.of (ini := false) rfl (Nat.le_of_ble_eq_true rfl) (by decide +kernel) ?_
  show ZW _ 10 8 false (some .boolean) cX8_seed _ (0, [some (.ref 0), some (.int a1)], [], zM0)
  refine w_lo dX8_seed_0 rfl rfl rfl rfl ?_
  rcases zcut a1.toInt (0) with h193 | h193
  · skip
    refine w_ige_f dX8_seed_1 (t := 11) rfl (by omega) ?_
    refine w_lo dX8_seed_4 rfl rfl rfl rfl ?_
    refine w_ic dX8_seed_5 zi_5 ?_
    refine w_iv dX8_seed_6 rfl rfl (As := [.int 5]) rfl rfl zU_0.1 rfl (Nat.le_of_ble_eq_true rfl) ?_
    refine ZV.of (ini := false) rfl (Nat.le_of_ble_eq_true rfl) (by decide +kernel) ?_
    show ZW _ 9 8 false none cX8_refuse _ (0, [some (.ref 0), some (.int 5)], [], zM0)
    refine w_lo dX8_refuse_0 rfl rfl rfl rfl ?_
    refine w_ilt_f dX8_refuse_1 (t := 20) rfl (by decide) ?_
    refine w_lo dX8_refuse_4 rfl rfl rfl rfl ?_
    refine w_bi dX8_refuse_5 (c := 6) (by decide) ?_
    refine w_cge_f dX8_refuse_7 (t := 20) rfl (by decide) ?_
    refine w_lo dX8_refuse_10 rfl rfl rfl rfl ?_
    refine w_gf dX8_refuse_11 rfl zU_0.1 rfl ((zU_0).2 0 14 rfl |>.trans zq_0_14) ?_
    refine w_lo dX8_refuse_14 rfl rfl rfl rfl ?_
    refine w_pu dX8_refuse_15 rfl rfl ?_
    refine w_ia dX8_refuse_16 zU_0.1 rfl (k := 5) zt_5 ((zU_0).2 385 5 rfl |>.trans zq_385_5) ?_
    refine w_ic dX8_refuse_17 zi_1 ?_
    refine w_pu (st' := [.int 1, .int 5, .ref 385]) dX8_refuse_18 rfl rfl ?_
    refine w_is dX8_refuse_19 zU_0 rfl (k := 5) zt_5 (Nat.le_of_ble_eq_true rfl) ?_
    intro M194 hU195 hv196 hn197
    refine w_en dX8_refuse_20 rfl ?_
    show ZW _ 10 8 false (some .boolean) cX8_seed _ (9, [some (.ref 0), some (.int a1)], [], M194)
    refine w_ic dX8_seed_9 zi_0 ?_
    refine w_en dX8_seed_10 rfl ?_
    refine ⟨_, rfl, ?_⟩
    refine ZV.of (ini := false) rfl (Nat.le_of_ble_eq_true rfl) (by decide +kernel) ?_
    show ZW _ 10 9 false (some .boolean) cX9_seed _ (0, [some (.ref 386), some (.int a1)], [], M194)
    refine w_lo dX9_seed_0 rfl rfl rfl rfl ?_
    refine w_ige_f dX9_seed_1 (t := 18) rfl (by omega) ?_
    refine w_lo dX9_seed_4 rfl rfl rfl rfl ?_
    refine w_ic dX9_seed_5 zi_5 ?_
    refine w_iv dX9_seed_6 rfl rfl (As := [.int 5]) rfl rfl hU195.1 rfl (Nat.le_of_ble_eq_true rfl) ?_
    refine ZV.of (ini := false) rfl (Nat.le_of_ble_eq_true rfl) (by decide +kernel) ?_
    show ZW _ 9 9 false (some .int) cX9_refuses _ (0, [some (.ref 386), some (.int 5)], [], M194)
    refine w_lo dX9_refuses_0 rfl rfl rfl rfl ?_
    refine w_gf dX9_refuses_1 rfl hU195.1 rfl ((hU195).2 386 46 rfl |>.trans zq_386_46) ?_
    refine w_lo dX9_refuses_4 rfl rfl rfl rfl ?_
    refine w_pu dX9_refuses_5 rfl rfl ?_
    refine w_ia dX9_refuses_6 hU195.1 rfl (k := 5) zt_5 ((hU195).2 415 5 rfl |>.trans zq_415_5) ?_
    refine w_ic dX9_refuses_7 zi_1 ?_
    refine w_pu (st' := [.int 1, .int 5, .ref 415]) dX9_refuses_8 rfl rfl ?_
    refine w_is dX9_refuses_9 hU195 rfl (k := 5) zt_5 (Nat.le_of_ble_eq_true rfl) ?_
    intro M198 hU199 hv200 hn201
    have f202 := (hn201 385 5 (by decide)).trans hv196
    refine w_ic dX9_refuses_10 zi_m1 ?_
    refine w_en dX9_refuses_11 rfl ?_
    show ZW _ 10 9 false (some .boolean) cX9_seed _ (9, [some (.ref 386), some (.int a1)], [.int (-1)], M198)
    refine w_ilt_t dX9_seed_9 (t := 16) rfl (by decide) ?_
    refine w_ic dX9_seed_16 zi_0 ?_
    refine w_en dX9_seed_17 rfl ?_
    exact ⟨rfl, hU195.1, hU199.1⟩
  · skip
    refine w_ige_t dX8_seed_1 (t := 11) rfl (by omega) ?_
    refine w_lo dX8_seed_11 rfl rfl rfl rfl ?_
    refine w_gf dX8_seed_12 rfl zU_0.1 rfl ((zU_0).2 0 7 rfl |>.trans zq_0_7) ?_
    refine w_lo dX8_seed_15 rfl rfl rfl rfl ?_
    refine w_pf dX8_seed_16 rfl zU_0 rfl (Nat.le_of_ble_eq_true rfl) rfl rfl rfl ?_
    intro M203 hU204 hv205 hn206
    refine w_ic dX8_seed_19 zi_1 ?_
    refine w_en dX8_seed_20 rfl ?_
    refine ⟨_, rfl, ?_⟩
    refine ZV.of (ini := false) rfl (Nat.le_of_ble_eq_true rfl) (by decide +kernel) ?_
    show ZW _ 10 9 false (some .boolean) cX9_seed _ (0, [some (.ref 386), some (.int a1)], [], M203)
    refine w_lo dX9_seed_0 rfl rfl rfl rfl ?_
    refine w_ige_t dX9_seed_1 (t := 18) rfl (by omega) ?_
    refine w_lo dX9_seed_18 rfl rfl rfl rfl ?_
    refine w_lo dX9_seed_19 rfl rfl rfl rfl ?_
    refine w_pu dX9_seed_20 rfl rfl ?_
    refine w_pf dX9_seed_21 rfl hU204 rfl (Nat.le_of_ble_eq_true rfl) rfl rfl rfl ?_
    intro M207 hU208 hv209 hn210
    have f211 := (hn210 359 0 (by decide)).trans hv205
    refine w_ic dX9_seed_24 zi_1 ?_
    refine w_en dX9_seed_25 rfl ?_
    exact ⟨rfl, hU204.1, hU208.1⟩
theorem zp_20 (a1 a2 a3 : Int32) : ∃ (v : Int32) (M1 M2 : zM), ZC [] 11 2082 [.ref 0, .int a1, .int a2, .int a3] zM0 (some (.int v), M1) ∧ ZC [] 11 2397 [.ref 386, .int a1, .int a2, .int a3] M1 (some (.int v), M2) ∧ zSh M1 ∧ zSh M2 := by
  refine zp_of ?_
  refine ZV.of (ini := false) rfl (Nat.le_of_ble_eq_true rfl) (by decide +kernel) ?_
  show ZW _ 10 8 false (some .int) cX8_feels _ (0, [some (.ref 0), some (.int a1), some (.int a2), some (.int a3)], [], zM0)
  refine w_lo dX8_feels_0 rfl rfl rfl rfl ?_
  refine w_lo dX8_feels_1 rfl rfl rfl rfl ?_
  refine w_iv dX8_feels_2 rfl rfl (As := [.int a1]) rfl rfl zU_0.1 rfl (Nat.le_of_ble_eq_true rfl) ?_
  refine ZV.of (ini := false) rfl (Nat.le_of_ble_eq_true rfl) (by decide +kernel) ?_
  show ZW _ 9 8 false (some .boolean) cX8_isPlace _ (0, [some (.ref 0), some (.int a1)], [], zM0)
  refine w_lo dX8_isPlace_0 rfl rfl rfl rfl ?_
  rcases zcut a1.toInt (0) with h212 | h212
  · skip
    refine w_ilt_t dX8_isPlace_1 (t := 19) rfl (by omega) ?_
    refine w_ic dX8_isPlace_19 zi_0 ?_
    refine w_en dX8_isPlace_20 rfl ?_
    show ZW _ 10 8 false (some .int) cX8_feels _ (5, [some (.ref 0), some (.int a1), some (.int a2), some (.int a3)], [.int 0], zM0)
    refine w_ieq_t dX8_feels_5 (t := 28) rfl (by decide) ?_
    refine w_ic dX8_feels_28 zi_m1 ?_
    refine w_en dX8_feels_29 rfl ?_
    refine ⟨_, rfl, ?_⟩
    refine ZV.of (ini := false) rfl (Nat.le_of_ble_eq_true rfl) (by decide +kernel) ?_
    show ZW _ 10 9 false (some .int) cX9_feels _ (0, [some (.ref 386), some (.int a1), some (.int a2), some (.int a3)], [], zM0)
    refine w_lo dX9_feels_0 rfl rfl rfl rfl ?_
    refine w_lo dX9_feels_1 rfl rfl rfl rfl ?_
    refine w_iv dX9_feels_2 rfl rfl (As := [.int a1]) rfl rfl zU_0.1 rfl (Nat.le_of_ble_eq_true rfl) ?_
    refine ZV.of (ini := false) rfl (Nat.le_of_ble_eq_true rfl) (by decide +kernel) ?_
    show ZW _ 9 9 false (some .boolean) cX9_isBoy _ (0, [some (.ref 386), some (.int a1)], [], zM0)
    refine w_lo dX9_isBoy_0 rfl rfl rfl rfl ?_
    refine w_ilt_t dX9_isBoy_1 (t := 21) rfl (by omega) ?_
    refine w_ic dX9_isBoy_21 zi_0 ?_
    refine w_en dX9_isBoy_22 rfl ?_
    show ZW _ 10 9 false (some .int) cX9_feels _ (5, [some (.ref 386), some (.int a1), some (.int a2), some (.int a3)], [.int 0], zM0)
    refine w_ieq_t dX9_feels_5 (t := 32) rfl (by decide) ?_
    refine w_ic dX9_feels_32 zi_m1 ?_
    refine w_en dX9_feels_33 rfl ?_
    exact ⟨rfl, zU_0.1, zU_0.1⟩
  · skip
    refine w_ilt_f dX8_isPlace_1 (t := 19) rfl (by omega) ?_
    refine w_lo dX8_isPlace_4 rfl rfl rfl rfl ?_
    refine w_lo dX8_isPlace_5 rfl rfl rfl rfl ?_
    refine w_gf dX8_isPlace_6 rfl zU_0.1 rfl ((zU_0).2 0 4 rfl |>.trans zq_0_4) ?_
    refine w_gf dX8_isPlace_9 rfl zU_0.1 rfl ((zU_0).2 49 0 rfl |>.trans zq_49_0) ?_
    refine w_cge_t dX8_isPlace_12 (t := 19) rfl (by have := zt_0; omega) ?_
    refine w_ic dX8_isPlace_19 zi_0 ?_
    refine w_en dX8_isPlace_20 rfl ?_
    show ZW _ 10 8 false (some .int) cX8_feels _ (5, [some (.ref 0), some (.int a1), some (.int a2), some (.int a3)], [.int 0], zM0)
    refine w_ieq_t dX8_feels_5 (t := 28) rfl (by decide) ?_
    refine w_ic dX8_feels_28 zi_m1 ?_
    refine w_en dX8_feels_29 rfl ?_
    refine ⟨_, rfl, ?_⟩
    refine ZV.of (ini := false) rfl (Nat.le_of_ble_eq_true rfl) (by decide +kernel) ?_
    show ZW _ 10 9 false (some .int) cX9_feels _ (0, [some (.ref 386), some (.int a1), some (.int a2), some (.int a3)], [], zM0)
    refine w_lo dX9_feels_0 rfl rfl rfl rfl ?_
    refine w_lo dX9_feels_1 rfl rfl rfl rfl ?_
    refine w_iv dX9_feels_2 rfl rfl (As := [.int a1]) rfl rfl zU_0.1 rfl (Nat.le_of_ble_eq_true rfl) ?_
    refine ZV.of (ini := false) rfl (Nat.le_of_ble_eq_true rfl) (by decide +kernel) ?_
    show ZW _ 9 9 false (some .boolean) cX9_isBoy _ (0, [some (.ref 386), some (.int a1)], [], zM0)
    refine w_lo dX9_isBoy_0 rfl rfl rfl rfl ?_
    refine w_ilt_f dX9_isBoy_1 (t := 21) rfl (by omega) ?_
    refine w_lo dX9_isBoy_4 rfl rfl rfl rfl ?_
    refine w_lo dX9_isBoy_5 rfl rfl rfl rfl ?_
    refine w_gf dX9_isBoy_6 rfl zU_0.1 rfl ((zU_0).2 386 13 rfl |>.trans zq_386_13) ?_
    refine w_lo dX9_isBoy_9 rfl rfl rfl rfl ?_
    refine w_gf dX9_isBoy_10 rfl zU_0.1 rfl ((zU_0).2 386 12 rfl |>.trans zq_386_12) ?_
    refine w_ia dX9_isBoy_13 zU_0.1 rfl (k := 0) zt_0 ((zU_0).2 388 0 rfl |>.trans zq_388_0) ?_
    refine w_cge_t dX9_isBoy_14 (t := 21) rfl (by have := zt_0; omega) ?_
    refine w_ic dX9_isBoy_21 zi_0 ?_
    refine w_en dX9_isBoy_22 rfl ?_
    show ZW _ 10 9 false (some .int) cX9_feels _ (5, [some (.ref 386), some (.int a1), some (.int a2), some (.int a3)], [.int 0], zM0)
    refine w_ieq_t dX9_feels_5 (t := 32) rfl (by decide) ?_
    refine w_ic dX9_feels_32 zi_m1 ?_
    refine w_en dX9_feels_33 rfl ?_
    exact ⟨rfl, zU_0.1, zU_0.1⟩
theorem zp_21 (a1 a2 : Int32) : ∃ (v : Int32) (M1 M2 : zM), ZC [] 11 2083 [.ref 0, .int a1, .int a2] zM0 (some (.int v), M1) ∧ ZC [] 11 2398 [.ref 386, .int a1, .int a2] M1 (some (.int v), M2) ∧ zSh M1 ∧ zSh M2 := by
  refine zp_of ?_
  refine ZV.of (ini := false) rfl (Nat.le_of_ble_eq_true rfl) (by decide +kernel) ?_
  show ZW _ 10 8 false (some .int) cX8_wakes _ (0, [some (.ref 0), some (.int a1), some (.int a2)], [], zM0)
  refine w_lo dX8_wakes_0 rfl rfl rfl rfl ?_
  refine w_lo dX8_wakes_1 rfl rfl rfl rfl ?_
  refine w_iv dX8_wakes_2 rfl rfl (As := [.int a1]) rfl rfl zU_0.1 rfl (Nat.le_of_ble_eq_true rfl) ?_
  refine ZV.of (ini := false) rfl (Nat.le_of_ble_eq_true rfl) (by decide +kernel) ?_
  show ZW _ 9 8 false (some .boolean) cX8_isPlace _ (0, [some (.ref 0), some (.int a1)], [], zM0)
  refine w_lo dX8_isPlace_0 rfl rfl rfl rfl ?_
  rcases zcut a1.toInt (0) with h213 | h213
  · skip
    refine w_ilt_t dX8_isPlace_1 (t := 19) rfl (by omega) ?_
    refine w_ic dX8_isPlace_19 zi_0 ?_
    refine w_en dX8_isPlace_20 rfl ?_
    show ZW _ 10 8 false (some .int) cX8_wakes _ (5, [some (.ref 0), some (.int a1), some (.int a2)], [.int 0], zM0)
    refine w_ieq_t dX8_wakes_5 (t := 15) rfl (by decide) ?_
    refine w_ic dX8_wakes_15 zi_m1 ?_
    refine w_en dX8_wakes_16 rfl ?_
    refine ⟨_, rfl, ?_⟩
    refine ZV.of (ini := false) rfl (Nat.le_of_ble_eq_true rfl) (by decide +kernel) ?_
    show ZW _ 10 9 false (some .int) cX9_wakes _ (0, [some (.ref 386), some (.int a1), some (.int a2)], [], zM0)
    refine w_lo dX9_wakes_0 rfl rfl rfl rfl ?_
    refine w_lo dX9_wakes_1 rfl rfl rfl rfl ?_
    refine w_iv dX9_wakes_2 rfl rfl (As := [.int a1]) rfl rfl zU_0.1 rfl (Nat.le_of_ble_eq_true rfl) ?_
    refine ZV.of (ini := false) rfl (Nat.le_of_ble_eq_true rfl) (by decide +kernel) ?_
    show ZW _ 9 9 false (some .boolean) cX9_isBoy _ (0, [some (.ref 386), some (.int a1)], [], zM0)
    refine w_lo dX9_isBoy_0 rfl rfl rfl rfl ?_
    refine w_ilt_t dX9_isBoy_1 (t := 21) rfl (by omega) ?_
    refine w_ic dX9_isBoy_21 zi_0 ?_
    refine w_en dX9_isBoy_22 rfl ?_
    show ZW _ 10 9 false (some .int) cX9_wakes _ (5, [some (.ref 386), some (.int a1), some (.int a2)], [.int 0], zM0)
    refine w_ieq_t dX9_wakes_5 (t := 19) rfl (by decide) ?_
    refine w_ic dX9_wakes_19 zi_m1 ?_
    refine w_en dX9_wakes_20 rfl ?_
    exact ⟨rfl, zU_0.1, zU_0.1⟩
  · skip
    refine w_ilt_f dX8_isPlace_1 (t := 19) rfl (by omega) ?_
    refine w_lo dX8_isPlace_4 rfl rfl rfl rfl ?_
    refine w_lo dX8_isPlace_5 rfl rfl rfl rfl ?_
    refine w_gf dX8_isPlace_6 rfl zU_0.1 rfl ((zU_0).2 0 4 rfl |>.trans zq_0_4) ?_
    refine w_gf dX8_isPlace_9 rfl zU_0.1 rfl ((zU_0).2 49 0 rfl |>.trans zq_49_0) ?_
    refine w_cge_t dX8_isPlace_12 (t := 19) rfl (by have := zt_0; omega) ?_
    refine w_ic dX8_isPlace_19 zi_0 ?_
    refine w_en dX8_isPlace_20 rfl ?_
    show ZW _ 10 8 false (some .int) cX8_wakes _ (5, [some (.ref 0), some (.int a1), some (.int a2)], [.int 0], zM0)
    refine w_ieq_t dX8_wakes_5 (t := 15) rfl (by decide) ?_
    refine w_ic dX8_wakes_15 zi_m1 ?_
    refine w_en dX8_wakes_16 rfl ?_
    refine ⟨_, rfl, ?_⟩
    refine ZV.of (ini := false) rfl (Nat.le_of_ble_eq_true rfl) (by decide +kernel) ?_
    show ZW _ 10 9 false (some .int) cX9_wakes _ (0, [some (.ref 386), some (.int a1), some (.int a2)], [], zM0)
    refine w_lo dX9_wakes_0 rfl rfl rfl rfl ?_
    refine w_lo dX9_wakes_1 rfl rfl rfl rfl ?_
    refine w_iv dX9_wakes_2 rfl rfl (As := [.int a1]) rfl rfl zU_0.1 rfl (Nat.le_of_ble_eq_true rfl) ?_
    refine ZV.of (ini := false) rfl (Nat.le_of_ble_eq_true rfl) (by decide +kernel) ?_
    show ZW _ 9 9 false (some .boolean) cX9_isBoy _ (0, [some (.ref 386), some (.int a1)], [], zM0)
    refine w_lo dX9_isBoy_0 rfl rfl rfl rfl ?_
    refine w_ilt_f dX9_isBoy_1 (t := 21) rfl (by omega) ?_
    refine w_lo dX9_isBoy_4 rfl rfl rfl rfl ?_
    refine w_lo dX9_isBoy_5 rfl rfl rfl rfl ?_
    refine w_gf dX9_isBoy_6 rfl zU_0.1 rfl ((zU_0).2 386 13 rfl |>.trans zq_386_13) ?_
    refine w_lo dX9_isBoy_9 rfl rfl rfl rfl ?_
    refine w_gf dX9_isBoy_10 rfl zU_0.1 rfl ((zU_0).2 386 12 rfl |>.trans zq_386_12) ?_
    refine w_ia dX9_isBoy_13 zU_0.1 rfl (k := 0) zt_0 ((zU_0).2 388 0 rfl |>.trans zq_388_0) ?_
    refine w_cge_t dX9_isBoy_14 (t := 21) rfl (by have := zt_0; omega) ?_
    refine w_ic dX9_isBoy_21 zi_0 ?_
    refine w_en dX9_isBoy_22 rfl ?_
    show ZW _ 10 9 false (some .int) cX9_wakes _ (5, [some (.ref 386), some (.int a1), some (.int a2)], [.int 0], zM0)
    refine w_ieq_t dX9_wakes_5 (t := 19) rfl (by decide) ?_
    refine w_ic dX9_wakes_19 zi_m1 ?_
    refine w_en dX9_wakes_20 rfl ?_
    exact ⟨rfl, zU_0.1, zU_0.1⟩
theorem zp_22 (a1 a2 : Int32) : ∃ (v : Int32) (M1 M2 : zM), ZC [] 11 2084 [.ref 0, .int a1, .int a2] zM0 (some (.int v), M1) ∧ ZC [] 11 2399 [.ref 386, .int a1, .int a2] M1 (some (.int v), M2) ∧ zSh M1 ∧ zSh M2 := by
  refine zp_of ?_
  refine ZV.of (ini := false) rfl (Nat.le_of_ble_eq_true rfl) (by decide +kernel) ?_
  show ZW _ 10 8 false (some .int) cX8_least _ (0, [some (.ref 0), some (.int a1), some (.int a2), none, none], [], zM0)
  refine w_lo dX8_least_0 rfl rfl rfl rfl ?_
  refine w_lo dX8_least_1 rfl rfl rfl rfl ?_
  refine w_iv dX8_least_2 rfl rfl (As := [.int a1]) rfl rfl zU_0.1 rfl (Nat.le_of_ble_eq_true rfl) ?_
  refine ZV.of (ini := false) rfl (Nat.le_of_ble_eq_true rfl) (by decide +kernel) ?_
  show ZW _ 9 8 false (some .boolean) cX8_isPlace _ (0, [some (.ref 0), some (.int a1)], [], zM0)
  refine w_lo dX8_isPlace_0 rfl rfl rfl rfl ?_
  rcases zcut a1.toInt (0) with h214 | h214
  · skip
    refine w_ilt_t dX8_isPlace_1 (t := 19) rfl (by omega) ?_
    refine w_ic dX8_isPlace_19 zi_0 ?_
    refine w_en dX8_isPlace_20 rfl ?_
    show ZW _ 10 8 false (some .int) cX8_least _ (5, [some (.ref 0), some (.int a1), some (.int a2), none, none], [.int 0], zM0)
    refine w_ieq_t dX8_least_5 (t := 21) rfl (by decide) ?_
    refine w_ic dX8_least_21 zi_m1 ?_
    refine w_en dX8_least_22 rfl ?_
    refine ⟨_, rfl, ?_⟩
    refine ZV.of (ini := false) rfl (Nat.le_of_ble_eq_true rfl) (by decide +kernel) ?_
    show ZW _ 10 9 false (some .int) cX9_least _ (0, [some (.ref 386), some (.int a1), some (.int a2), none], [], zM0)
    refine w_lo dX9_least_0 rfl rfl rfl rfl ?_
    refine w_lo dX9_least_1 rfl rfl rfl rfl ?_
    refine w_iv dX9_least_2 rfl rfl (As := [.int a1]) rfl rfl zU_0.1 rfl (Nat.le_of_ble_eq_true rfl) ?_
    refine ZV.of (ini := false) rfl (Nat.le_of_ble_eq_true rfl) (by decide +kernel) ?_
    show ZW _ 9 9 false (some .boolean) cX9_isBoy _ (0, [some (.ref 386), some (.int a1)], [], zM0)
    refine w_lo dX9_isBoy_0 rfl rfl rfl rfl ?_
    refine w_ilt_t dX9_isBoy_1 (t := 21) rfl (by omega) ?_
    refine w_ic dX9_isBoy_21 zi_0 ?_
    refine w_en dX9_isBoy_22 rfl ?_
    show ZW _ 10 9 false (some .int) cX9_least _ (5, [some (.ref 386), some (.int a1), some (.int a2), none], [.int 0], zM0)
    refine w_ieq_t dX9_least_5 (t := 21) rfl (by decide) ?_
    refine w_ic dX9_least_21 zi_m1 ?_
    refine w_en dX9_least_22 rfl ?_
    exact ⟨rfl, zU_0.1, zU_0.1⟩
  · skip
    refine w_ilt_f dX8_isPlace_1 (t := 19) rfl (by omega) ?_
    refine w_lo dX8_isPlace_4 rfl rfl rfl rfl ?_
    refine w_lo dX8_isPlace_5 rfl rfl rfl rfl ?_
    refine w_gf dX8_isPlace_6 rfl zU_0.1 rfl ((zU_0).2 0 4 rfl |>.trans zq_0_4) ?_
    refine w_gf dX8_isPlace_9 rfl zU_0.1 rfl ((zU_0).2 49 0 rfl |>.trans zq_49_0) ?_
    refine w_cge_t dX8_isPlace_12 (t := 19) rfl (by have := zt_0; omega) ?_
    refine w_ic dX8_isPlace_19 zi_0 ?_
    refine w_en dX8_isPlace_20 rfl ?_
    show ZW _ 10 8 false (some .int) cX8_least _ (5, [some (.ref 0), some (.int a1), some (.int a2), none, none], [.int 0], zM0)
    refine w_ieq_t dX8_least_5 (t := 21) rfl (by decide) ?_
    refine w_ic dX8_least_21 zi_m1 ?_
    refine w_en dX8_least_22 rfl ?_
    refine ⟨_, rfl, ?_⟩
    refine ZV.of (ini := false) rfl (Nat.le_of_ble_eq_true rfl) (by decide +kernel) ?_
    show ZW _ 10 9 false (some .int) cX9_least _ (0, [some (.ref 386), some (.int a1), some (.int a2), none], [], zM0)
    refine w_lo dX9_least_0 rfl rfl rfl rfl ?_
    refine w_lo dX9_least_1 rfl rfl rfl rfl ?_
    refine w_iv dX9_least_2 rfl rfl (As := [.int a1]) rfl rfl zU_0.1 rfl (Nat.le_of_ble_eq_true rfl) ?_
    refine ZV.of (ini := false) rfl (Nat.le_of_ble_eq_true rfl) (by decide +kernel) ?_
    show ZW _ 9 9 false (some .boolean) cX9_isBoy _ (0, [some (.ref 386), some (.int a1)], [], zM0)
    refine w_lo dX9_isBoy_0 rfl rfl rfl rfl ?_
    refine w_ilt_f dX9_isBoy_1 (t := 21) rfl (by omega) ?_
    refine w_lo dX9_isBoy_4 rfl rfl rfl rfl ?_
    refine w_lo dX9_isBoy_5 rfl rfl rfl rfl ?_
    refine w_gf dX9_isBoy_6 rfl zU_0.1 rfl ((zU_0).2 386 13 rfl |>.trans zq_386_13) ?_
    refine w_lo dX9_isBoy_9 rfl rfl rfl rfl ?_
    refine w_gf dX9_isBoy_10 rfl zU_0.1 rfl ((zU_0).2 386 12 rfl |>.trans zq_386_12) ?_
    refine w_ia dX9_isBoy_13 zU_0.1 rfl (k := 0) zt_0 ((zU_0).2 388 0 rfl |>.trans zq_388_0) ?_
    refine w_cge_t dX9_isBoy_14 (t := 21) rfl (by have := zt_0; omega) ?_
    refine w_ic dX9_isBoy_21 zi_0 ?_
    refine w_en dX9_isBoy_22 rfl ?_
    show ZW _ 10 9 false (some .int) cX9_least _ (5, [some (.ref 386), some (.int a1), some (.int a2), none], [.int 0], zM0)
    refine w_ieq_t dX9_least_5 (t := 21) rfl (by decide) ?_
    refine w_ic dX9_least_21 zi_m1 ?_
    refine w_en dX9_least_22 rfl ?_
    exact ⟨rfl, zU_0.1, zU_0.1⟩
theorem zp_24 (a1 : Int32) : ∃ (v : Int32) (M1 M2 : zM), ZC [] 11 2086 [.ref 0, .int a1] zM0 (some (.int v), M1) ∧ ZC [] 11 2402 [.ref 386, .int a1] M1 (some (.int v), M2) ∧ zSh M1 ∧ zSh M2 := by
  refine zp_of ?_
  refine ZV.of (ini := false) rfl (Nat.le_of_ble_eq_true rfl) (by decide +kernel) ?_
  show ZW _ 10 8 false (some .int) cX8_best _ (0, [some (.ref 0), some (.int a1)], [], zM0)
  refine w_lo dX8_best_0 rfl rfl rfl rfl ?_
  refine w_gf dX8_best_1 rfl zU_0.1 rfl ((zU_0).2 0 4 rfl |>.trans zq_0_4) ?_
  refine w_gf dX8_best_4 rfl zU_0.1 rfl ((zU_0).2 49 0 rfl |>.trans zq_49_0) ?_
  refine w_ic dX8_best_7 zi_1 ?_
  refine w_clt_t dX8_best_8 (t := 39) rfl (by decide) ?_
  refine w_ic dX8_best_39 zi_m1 ?_
  refine w_en dX8_best_40 rfl ?_
  refine ⟨_, rfl, ?_⟩
  refine ZV.of (ini := false) rfl (Nat.le_of_ble_eq_true rfl) (by decide +kernel) ?_
  show ZW _ 10 9 false (some .int) cX9_best _ (0, [some (.ref 386), some (.int a1), none, none, none, none, none], [], zM0)
  refine w_lo dX9_best_0 rfl rfl rfl rfl ?_
  refine w_iv dX9_best_1 rfl rfl (As := []) rfl rfl zU_0.1 rfl (Nat.le_of_ble_eq_true rfl) ?_
  refine ZV.of (ini := false) rfl (Nat.le_of_ble_eq_true rfl) (by decide +kernel) ?_
  show ZW _ 9 9 false (some .int) cX9_many _ (0, [some (.ref 386)], [], zM0)
  refine w_lo dX9_many_0 rfl rfl rfl rfl ?_
  refine w_gf dX9_many_1 rfl zU_0.1 rfl ((zU_0).2 386 13 rfl |>.trans zq_386_13) ?_
  refine w_lo dX9_many_4 rfl rfl rfl rfl ?_
  refine w_gf dX9_many_5 rfl zU_0.1 rfl ((zU_0).2 386 12 rfl |>.trans zq_386_12) ?_
  refine w_ia dX9_many_8 zU_0.1 rfl (k := 0) zt_0 ((zU_0).2 388 0 rfl |>.trans zq_388_0) ?_
  refine w_en dX9_many_9 rfl ?_
  show ZW _ 10 9 false (some .int) cX9_best _ (4, [some (.ref 386), some (.int a1), none, none, none, none, none], [.int 0], zM0)
  refine w_ic dX9_best_4 zi_1 ?_
  refine w_bi dX9_best_5 (c := 6) (by decide) ?_
  refine w_ss dX9_best_7 rfl rfl (As := [.int 0, .int 1, .int 6]) rfl rfl (Nat.le_of_ble_eq_true rfl) ?_
  refine ZV.of (ini := false) rfl (Nat.le_of_ble_eq_true rfl) (by decide +kernel) ?_
  show ZW _ 9 9 false (some .boolean) cX9_is _ (0, [some (.int 0), some (.int 1), some (.int 6)], [], zM0)
  refine w_lo dX9_is_0 rfl rfl rfl rfl ?_
  refine w_lo dX9_is_1 rfl rfl rfl rfl ?_
  refine w_clt_t dX9_is_2 (t := 14) rfl (by decide) ?_
  refine w_ic dX9_is_14 zi_0 ?_
  refine w_en dX9_is_15 rfl ?_
  show ZW _ 10 9 false (some .int) cX9_best _ (10, [some (.ref 386), some (.int a1), none, none, none, none, none], [.int 0], zM0)
  refine w_ieq_t dX9_best_10 (t := 26) rfl (by decide) ?_
  refine w_ic dX9_best_26 zi_m1 ?_
  refine w_en dX9_best_27 rfl ?_
  exact ⟨rfl, zU_0.1, zU_0.1⟩
theorem zp_25 (a1 : Int32) : ∃ (v : Int32) (M1 M2 : zM), ZC [] 11 2087 [.ref 0, .int a1] zM0 (some (.int v), M1) ∧ ZC [] 11 2405 [.ref 386, .int a1] M1 (some (.int v), M2) ∧ zSh M1 ∧ zSh M2 := by
  refine zp_of ?_
  refine ZV.of (ini := false) rfl (Nat.le_of_ble_eq_true rfl) (by decide +kernel) ?_
  show ZW _ 10 8 false (some .int) cX8_exchange _ (0, [some (.ref 0), some (.int a1), none], [], zM0)
  refine w_lo dX8_exchange_0 rfl rfl rfl rfl ?_
  refine w_ic dX8_exchange_1 zi_m1 ?_
  rcases zcut a1.toInt (-1) with h215 | h215
  · skip
    refine w_ceq_f dX8_exchange_2 (t := 19) rfl (by have := zt_m1; omega) ?_
    refine w_lo dX8_exchange_5 rfl rfl rfl rfl ?_
    refine w_bi dX8_exchange_6 (c := 20) (by decide) ?_
    refine w_ceq_f dX8_exchange_8 (t := 19) rfl (by have := zt_20; omega) ?_
    refine w_lo dX8_exchange_11 rfl rfl rfl rfl ?_
    refine w_lo dX8_exchange_12 rfl rfl rfl rfl ?_
    refine w_iv dX8_exchange_13 rfl rfl (As := [.int a1]) rfl rfl zU_0.1 rfl (Nat.le_of_ble_eq_true rfl) ?_
    refine ZV.of (ini := false) rfl (Nat.le_of_ble_eq_true rfl) (by decide +kernel) ?_
    show ZW _ 9 8 false (some .boolean) cX8_isPlace _ (0, [some (.ref 0), some (.int a1)], [], zM0)
    refine w_lo dX8_isPlace_0 rfl rfl rfl rfl ?_
    refine w_ilt_t dX8_isPlace_1 (t := 19) rfl (by omega) ?_
    refine w_ic dX8_isPlace_19 zi_0 ?_
    refine w_en dX8_isPlace_20 rfl ?_
    show ZW _ 10 8 false (some .int) cX8_exchange _ (16, [some (.ref 0), some (.int a1), none], [.int 0], zM0)
    refine w_ieq_t dX8_exchange_16 (t := 23) rfl (by decide) ?_
    refine w_ic dX8_exchange_23 zi_0 ?_
    refine w_lo dX8_exchange_24 rfl rfl rfl rfl ?_
    refine w_lo dX8_exchange_25 rfl rfl rfl rfl ?_
    refine w_gf dX8_exchange_26 rfl zU_0.1 rfl ((zU_0).2 0 4 rfl |>.trans zq_0_4) ?_
    refine w_gf dX8_exchange_29 rfl zU_0.1 rfl ((zU_0).2 49 0 rfl |>.trans zq_49_0) ?_
    refine w_ic dX8_exchange_32 zi_1 ?_
    refine w_clt_t dX8_exchange_33 (t := 40) rfl (by decide) ?_
    refine w_ic dX8_exchange_40 zi_m1 ?_
    refine w_en dX8_exchange_41 rfl ?_
    refine ⟨_, rfl, ?_⟩
    refine ZV.of (ini := false) rfl (Nat.le_of_ble_eq_true rfl) (by decide +kernel) ?_
    show ZW _ 10 9 false (some .int) cX9_exchange _ (0, [some (.ref 386), some (.int a1), none], [], zM0)
    refine w_lo dX9_exchange_0 rfl rfl rfl rfl ?_
    refine w_iv dX9_exchange_1 rfl rfl (As := []) rfl rfl zU_0.1 rfl (Nat.le_of_ble_eq_true rfl) ?_
    refine ZV.of (ini := false) rfl (Nat.le_of_ble_eq_true rfl) (by decide +kernel) ?_
    show ZW _ 9 9 false (some .int) cX9_many _ (0, [some (.ref 386)], [], zM0)
    refine w_lo dX9_many_0 rfl rfl rfl rfl ?_
    refine w_gf dX9_many_1 rfl zU_0.1 rfl ((zU_0).2 386 13 rfl |>.trans zq_386_13) ?_
    refine w_lo dX9_many_4 rfl rfl rfl rfl ?_
    refine w_gf dX9_many_5 rfl zU_0.1 rfl ((zU_0).2 386 12 rfl |>.trans zq_386_12) ?_
    refine w_ia dX9_many_8 zU_0.1 rfl (k := 0) zt_0 ((zU_0).2 388 0 rfl |>.trans zq_388_0) ?_
    refine w_en dX9_many_9 rfl ?_
    show ZW _ 10 9 false (some .int) cX9_exchange _ (4, [some (.ref 386), some (.int a1), none], [.int 0], zM0)
    refine w_ieq_t dX9_exchange_4 (t := 26) rfl (by decide) ?_
    refine w_ic dX9_exchange_26 zi_m1 ?_
    refine w_en dX9_exchange_27 rfl ?_
    exact ⟨rfl, zU_0.1, zU_0.1⟩
  · skip
    rcases zcut a1.toInt (0) with h216 | h216
    · skip
      have ea1 : a1 = (-1) := zpt (n := -1) zt_m1 (by omega)
      subst ea1
      refine w_ceq_t dX8_exchange_2 (t := 19) rfl (by decide) ?_
      refine w_ic dX8_exchange_19 zi_1 ?_
      refine w_gt dX8_exchange_20 (t := 24) rfl ?_
      refine w_lo dX8_exchange_24 rfl rfl rfl rfl ?_
      refine w_lo dX8_exchange_25 rfl rfl rfl rfl ?_
      refine w_gf dX8_exchange_26 rfl zU_0.1 rfl ((zU_0).2 0 4 rfl |>.trans zq_0_4) ?_
      refine w_gf dX8_exchange_29 rfl zU_0.1 rfl ((zU_0).2 49 0 rfl |>.trans zq_49_0) ?_
      refine w_ic dX8_exchange_32 zi_1 ?_
      refine w_clt_t dX8_exchange_33 (t := 40) rfl (by decide) ?_
      refine w_ic dX8_exchange_40 zi_m1 ?_
      refine w_en dX8_exchange_41 rfl ?_
      refine ⟨_, rfl, ?_⟩
      refine ZV.of (ini := false) rfl (Nat.le_of_ble_eq_true rfl) (by decide +kernel) ?_
      show ZW _ 10 9 false (some .int) cX9_exchange _ (0, [some (.ref 386), some (.int (-1)), none], [], zM0)
      refine w_lo dX9_exchange_0 rfl rfl rfl rfl ?_
      refine w_iv dX9_exchange_1 rfl rfl (As := []) rfl rfl zU_0.1 rfl (Nat.le_of_ble_eq_true rfl) ?_
      refine ZV.of (ini := false) rfl (Nat.le_of_ble_eq_true rfl) (by decide +kernel) ?_
      show ZW _ 9 9 false (some .int) cX9_many _ (0, [some (.ref 386)], [], zM0)
      refine w_lo dX9_many_0 rfl rfl rfl rfl ?_
      refine w_gf dX9_many_1 rfl zU_0.1 rfl ((zU_0).2 386 13 rfl |>.trans zq_386_13) ?_
      refine w_lo dX9_many_4 rfl rfl rfl rfl ?_
      refine w_gf dX9_many_5 rfl zU_0.1 rfl ((zU_0).2 386 12 rfl |>.trans zq_386_12) ?_
      refine w_ia dX9_many_8 zU_0.1 rfl (k := 0) zt_0 ((zU_0).2 388 0 rfl |>.trans zq_388_0) ?_
      refine w_en dX9_many_9 rfl ?_
      show ZW _ 10 9 false (some .int) cX9_exchange _ (4, [some (.ref 386), some (.int (-1)), none], [.int 0], zM0)
      refine w_ieq_t dX9_exchange_4 (t := 26) rfl (by decide) ?_
      refine w_ic dX9_exchange_26 zi_m1 ?_
      refine w_en dX9_exchange_27 rfl ?_
      exact ⟨rfl, zU_0.1, zU_0.1⟩
    · skip
      refine w_ceq_f dX8_exchange_2 (t := 19) rfl (by have := zt_m1; omega) ?_
      refine w_lo dX8_exchange_5 rfl rfl rfl rfl ?_
      refine w_bi dX8_exchange_6 (c := 20) (by decide) ?_
      rcases zcut a1.toInt (20) with h217 | h217
      · skip
        refine w_ceq_f dX8_exchange_8 (t := 19) rfl (by have := zt_20; omega) ?_
        refine w_lo dX8_exchange_11 rfl rfl rfl rfl ?_
        refine w_lo dX8_exchange_12 rfl rfl rfl rfl ?_
        refine w_iv dX8_exchange_13 rfl rfl (As := [.int a1]) rfl rfl zU_0.1 rfl (Nat.le_of_ble_eq_true rfl) ?_
        refine ZV.of (ini := false) rfl (Nat.le_of_ble_eq_true rfl) (by decide +kernel) ?_
        show ZW _ 9 8 false (some .boolean) cX8_isPlace _ (0, [some (.ref 0), some (.int a1)], [], zM0)
        refine w_lo dX8_isPlace_0 rfl rfl rfl rfl ?_
        refine w_ilt_f dX8_isPlace_1 (t := 19) rfl (by omega) ?_
        refine w_lo dX8_isPlace_4 rfl rfl rfl rfl ?_
        refine w_lo dX8_isPlace_5 rfl rfl rfl rfl ?_
        refine w_gf dX8_isPlace_6 rfl zU_0.1 rfl ((zU_0).2 0 4 rfl |>.trans zq_0_4) ?_
        refine w_gf dX8_isPlace_9 rfl zU_0.1 rfl ((zU_0).2 49 0 rfl |>.trans zq_49_0) ?_
        refine w_cge_t dX8_isPlace_12 (t := 19) rfl (by have := zt_0; omega) ?_
        refine w_ic dX8_isPlace_19 zi_0 ?_
        refine w_en dX8_isPlace_20 rfl ?_
        show ZW _ 10 8 false (some .int) cX8_exchange _ (16, [some (.ref 0), some (.int a1), none], [.int 0], zM0)
        refine w_ieq_t dX8_exchange_16 (t := 23) rfl (by decide) ?_
        refine w_ic dX8_exchange_23 zi_0 ?_
        refine w_lo dX8_exchange_24 rfl rfl rfl rfl ?_
        refine w_lo dX8_exchange_25 rfl rfl rfl rfl ?_
        refine w_gf dX8_exchange_26 rfl zU_0.1 rfl ((zU_0).2 0 4 rfl |>.trans zq_0_4) ?_
        refine w_gf dX8_exchange_29 rfl zU_0.1 rfl ((zU_0).2 49 0 rfl |>.trans zq_49_0) ?_
        refine w_ic dX8_exchange_32 zi_1 ?_
        refine w_clt_t dX8_exchange_33 (t := 40) rfl (by decide) ?_
        refine w_ic dX8_exchange_40 zi_m1 ?_
        refine w_en dX8_exchange_41 rfl ?_
        refine ⟨_, rfl, ?_⟩
        refine ZV.of (ini := false) rfl (Nat.le_of_ble_eq_true rfl) (by decide +kernel) ?_
        show ZW _ 10 9 false (some .int) cX9_exchange _ (0, [some (.ref 386), some (.int a1), none], [], zM0)
        refine w_lo dX9_exchange_0 rfl rfl rfl rfl ?_
        refine w_iv dX9_exchange_1 rfl rfl (As := []) rfl rfl zU_0.1 rfl (Nat.le_of_ble_eq_true rfl) ?_
        refine ZV.of (ini := false) rfl (Nat.le_of_ble_eq_true rfl) (by decide +kernel) ?_
        show ZW _ 9 9 false (some .int) cX9_many _ (0, [some (.ref 386)], [], zM0)
        refine w_lo dX9_many_0 rfl rfl rfl rfl ?_
        refine w_gf dX9_many_1 rfl zU_0.1 rfl ((zU_0).2 386 13 rfl |>.trans zq_386_13) ?_
        refine w_lo dX9_many_4 rfl rfl rfl rfl ?_
        refine w_gf dX9_many_5 rfl zU_0.1 rfl ((zU_0).2 386 12 rfl |>.trans zq_386_12) ?_
        refine w_ia dX9_many_8 zU_0.1 rfl (k := 0) zt_0 ((zU_0).2 388 0 rfl |>.trans zq_388_0) ?_
        refine w_en dX9_many_9 rfl ?_
        show ZW _ 10 9 false (some .int) cX9_exchange _ (4, [some (.ref 386), some (.int a1), none], [.int 0], zM0)
        refine w_ieq_t dX9_exchange_4 (t := 26) rfl (by decide) ?_
        refine w_ic dX9_exchange_26 zi_m1 ?_
        refine w_en dX9_exchange_27 rfl ?_
        exact ⟨rfl, zU_0.1, zU_0.1⟩
      · skip
        rcases zcut a1.toInt (21) with h218 | h218
        · skip
          have ea1 : a1 = 20 := zpt (n := 20) zt_20 (by omega)
          subst ea1
          refine w_ceq_t dX8_exchange_8 (t := 19) rfl (by decide) ?_
          refine w_ic dX8_exchange_19 zi_1 ?_
          refine w_gt dX8_exchange_20 (t := 24) rfl ?_
          refine w_lo dX8_exchange_24 rfl rfl rfl rfl ?_
          refine w_lo dX8_exchange_25 rfl rfl rfl rfl ?_
          refine w_gf dX8_exchange_26 rfl zU_0.1 rfl ((zU_0).2 0 4 rfl |>.trans zq_0_4) ?_
          refine w_gf dX8_exchange_29 rfl zU_0.1 rfl ((zU_0).2 49 0 rfl |>.trans zq_49_0) ?_
          refine w_ic dX8_exchange_32 zi_1 ?_
          refine w_clt_t dX8_exchange_33 (t := 40) rfl (by decide) ?_
          refine w_ic dX8_exchange_40 zi_m1 ?_
          refine w_en dX8_exchange_41 rfl ?_
          refine ⟨_, rfl, ?_⟩
          refine ZV.of (ini := false) rfl (Nat.le_of_ble_eq_true rfl) (by decide +kernel) ?_
          show ZW _ 10 9 false (some .int) cX9_exchange _ (0, [some (.ref 386), some (.int 20), none], [], zM0)
          refine w_lo dX9_exchange_0 rfl rfl rfl rfl ?_
          refine w_iv dX9_exchange_1 rfl rfl (As := []) rfl rfl zU_0.1 rfl (Nat.le_of_ble_eq_true rfl) ?_
          refine ZV.of (ini := false) rfl (Nat.le_of_ble_eq_true rfl) (by decide +kernel) ?_
          show ZW _ 9 9 false (some .int) cX9_many _ (0, [some (.ref 386)], [], zM0)
          refine w_lo dX9_many_0 rfl rfl rfl rfl ?_
          refine w_gf dX9_many_1 rfl zU_0.1 rfl ((zU_0).2 386 13 rfl |>.trans zq_386_13) ?_
          refine w_lo dX9_many_4 rfl rfl rfl rfl ?_
          refine w_gf dX9_many_5 rfl zU_0.1 rfl ((zU_0).2 386 12 rfl |>.trans zq_386_12) ?_
          refine w_ia dX9_many_8 zU_0.1 rfl (k := 0) zt_0 ((zU_0).2 388 0 rfl |>.trans zq_388_0) ?_
          refine w_en dX9_many_9 rfl ?_
          show ZW _ 10 9 false (some .int) cX9_exchange _ (4, [some (.ref 386), some (.int 20), none], [.int 0], zM0)
          refine w_ieq_t dX9_exchange_4 (t := 26) rfl (by decide) ?_
          refine w_ic dX9_exchange_26 zi_m1 ?_
          refine w_en dX9_exchange_27 rfl ?_
          exact ⟨rfl, zU_0.1, zU_0.1⟩
        · skip
          refine w_ceq_f dX8_exchange_8 (t := 19) rfl (by have := zt_20; omega) ?_
          refine w_lo dX8_exchange_11 rfl rfl rfl rfl ?_
          refine w_lo dX8_exchange_12 rfl rfl rfl rfl ?_
          refine w_iv dX8_exchange_13 rfl rfl (As := [.int a1]) rfl rfl zU_0.1 rfl (Nat.le_of_ble_eq_true rfl) ?_
          refine ZV.of (ini := false) rfl (Nat.le_of_ble_eq_true rfl) (by decide +kernel) ?_
          show ZW _ 9 8 false (some .boolean) cX8_isPlace _ (0, [some (.ref 0), some (.int a1)], [], zM0)
          refine w_lo dX8_isPlace_0 rfl rfl rfl rfl ?_
          refine w_ilt_f dX8_isPlace_1 (t := 19) rfl (by omega) ?_
          refine w_lo dX8_isPlace_4 rfl rfl rfl rfl ?_
          refine w_lo dX8_isPlace_5 rfl rfl rfl rfl ?_
          refine w_gf dX8_isPlace_6 rfl zU_0.1 rfl ((zU_0).2 0 4 rfl |>.trans zq_0_4) ?_
          refine w_gf dX8_isPlace_9 rfl zU_0.1 rfl ((zU_0).2 49 0 rfl |>.trans zq_49_0) ?_
          refine w_cge_t dX8_isPlace_12 (t := 19) rfl (by have := zt_0; omega) ?_
          refine w_ic dX8_isPlace_19 zi_0 ?_
          refine w_en dX8_isPlace_20 rfl ?_
          show ZW _ 10 8 false (some .int) cX8_exchange _ (16, [some (.ref 0), some (.int a1), none], [.int 0], zM0)
          refine w_ieq_t dX8_exchange_16 (t := 23) rfl (by decide) ?_
          refine w_ic dX8_exchange_23 zi_0 ?_
          refine w_lo dX8_exchange_24 rfl rfl rfl rfl ?_
          refine w_lo dX8_exchange_25 rfl rfl rfl rfl ?_
          refine w_gf dX8_exchange_26 rfl zU_0.1 rfl ((zU_0).2 0 4 rfl |>.trans zq_0_4) ?_
          refine w_gf dX8_exchange_29 rfl zU_0.1 rfl ((zU_0).2 49 0 rfl |>.trans zq_49_0) ?_
          refine w_ic dX8_exchange_32 zi_1 ?_
          refine w_clt_t dX8_exchange_33 (t := 40) rfl (by decide) ?_
          refine w_ic dX8_exchange_40 zi_m1 ?_
          refine w_en dX8_exchange_41 rfl ?_
          refine ⟨_, rfl, ?_⟩
          refine ZV.of (ini := false) rfl (Nat.le_of_ble_eq_true rfl) (by decide +kernel) ?_
          show ZW _ 10 9 false (some .int) cX9_exchange _ (0, [some (.ref 386), some (.int a1), none], [], zM0)
          refine w_lo dX9_exchange_0 rfl rfl rfl rfl ?_
          refine w_iv dX9_exchange_1 rfl rfl (As := []) rfl rfl zU_0.1 rfl (Nat.le_of_ble_eq_true rfl) ?_
          refine ZV.of (ini := false) rfl (Nat.le_of_ble_eq_true rfl) (by decide +kernel) ?_
          show ZW _ 9 9 false (some .int) cX9_many _ (0, [some (.ref 386)], [], zM0)
          refine w_lo dX9_many_0 rfl rfl rfl rfl ?_
          refine w_gf dX9_many_1 rfl zU_0.1 rfl ((zU_0).2 386 13 rfl |>.trans zq_386_13) ?_
          refine w_lo dX9_many_4 rfl rfl rfl rfl ?_
          refine w_gf dX9_many_5 rfl zU_0.1 rfl ((zU_0).2 386 12 rfl |>.trans zq_386_12) ?_
          refine w_ia dX9_many_8 zU_0.1 rfl (k := 0) zt_0 ((zU_0).2 388 0 rfl |>.trans zq_388_0) ?_
          refine w_en dX9_many_9 rfl ?_
          show ZW _ 10 9 false (some .int) cX9_exchange _ (4, [some (.ref 386), some (.int a1), none], [.int 0], zM0)
          refine w_ieq_t dX9_exchange_4 (t := 26) rfl (by decide) ?_
          refine w_ic dX9_exchange_26 zi_m1 ?_
          refine w_en dX9_exchange_27 rfl ?_
          exact ⟨rfl, zU_0.1, zU_0.1⟩
theorem zp_27 (a1 : Int32) : ∃ (v : Int32) (M1 M2 : zM), ZC [] 11 2089 [.ref 0, .int a1] zM0 (some (.int v), M1) ∧ ZC [] 11 2408 [.ref 386, .int a1] M1 (some (.int v), M2) ∧ zSh M1 ∧ zSh M2 := by
  refine zp_of ?_
  refine ZV.of (ini := false) rfl (Nat.le_of_ble_eq_true rfl) (by decide +kernel) ?_
  show ZW _ 10 8 false (some .int) cX8_two _ (0, [some (.ref 0), some (.int a1)], [], zM0)
  refine w_lo dX8_two_0 rfl rfl rfl rfl ?_
  refine w_gf dX8_two_1 rfl zU_0.1 rfl ((zU_0).2 0 4 rfl |>.trans zq_0_4) ?_
  refine w_gf dX8_two_4 rfl zU_0.1 rfl ((zU_0).2 49 0 rfl |>.trans zq_49_0) ?_
  refine w_ic dX8_two_7 zi_2 ?_
  refine w_clt_t dX8_two_8 (t := 32) rfl (by decide) ?_
  refine w_ic dX8_two_32 zi_m1 ?_
  refine w_en dX8_two_33 rfl ?_
  refine ⟨_, rfl, ?_⟩
  refine ZV.of (ini := false) rfl (Nat.le_of_ble_eq_true rfl) (by decide +kernel) ?_
  show ZW _ 10 9 false (some .int) cX9_two _ (0, [some (.ref 386), some (.int a1), none, none, none, none, none], [], zM0)
  refine w_lo dX9_two_0 rfl rfl rfl rfl ?_
  refine w_iv dX9_two_1 rfl rfl (As := []) rfl rfl zU_0.1 rfl (Nat.le_of_ble_eq_true rfl) ?_
  refine ZV.of (ini := false) rfl (Nat.le_of_ble_eq_true rfl) (by decide +kernel) ?_
  show ZW _ 9 9 false (some .int) cX9_many _ (0, [some (.ref 386)], [], zM0)
  refine w_lo dX9_many_0 rfl rfl rfl rfl ?_
  refine w_gf dX9_many_1 rfl zU_0.1 rfl ((zU_0).2 386 13 rfl |>.trans zq_386_13) ?_
  refine w_lo dX9_many_4 rfl rfl rfl rfl ?_
  refine w_gf dX9_many_5 rfl zU_0.1 rfl ((zU_0).2 386 12 rfl |>.trans zq_386_12) ?_
  refine w_ia dX9_many_8 zU_0.1 rfl (k := 0) zt_0 ((zU_0).2 388 0 rfl |>.trans zq_388_0) ?_
  refine w_en dX9_many_9 rfl ?_
  show ZW _ 10 9 false (some .int) cX9_two _ (4, [some (.ref 386), some (.int a1), none, none, none, none, none], [.int 0], zM0)
  refine w_ic dX9_two_4 zi_2 ?_
  refine w_bi dX9_two_5 (c := 8) (by decide) ?_
  refine w_ss dX9_two_7 rfl rfl (As := [.int 0, .int 2, .int 8]) rfl rfl (Nat.le_of_ble_eq_true rfl) ?_
  refine ZV.of (ini := false) rfl (Nat.le_of_ble_eq_true rfl) (by decide +kernel) ?_
  show ZW _ 9 9 false (some .boolean) cX9_is _ (0, [some (.int 0), some (.int 2), some (.int 8)], [], zM0)
  refine w_lo dX9_is_0 rfl rfl rfl rfl ?_
  refine w_lo dX9_is_1 rfl rfl rfl rfl ?_
  refine w_clt_t dX9_is_2 (t := 14) rfl (by decide) ?_
  refine w_ic dX9_is_14 zi_0 ?_
  refine w_en dX9_is_15 rfl ?_
  show ZW _ 10 9 false (some .int) cX9_two _ (10, [some (.ref 386), some (.int a1), none, none, none, none, none], [.int 0], zM0)
  refine w_ieq_t dX9_two_10 (t := 22) rfl (by decide) ?_
  refine w_ic dX9_two_22 zi_m1 ?_
  refine w_en dX9_two_23 rfl ?_
  exact ⟨rfl, zU_0.1, zU_0.1⟩
theorem zp_29 (a1 a2 : Int32) : ∃ (v : Int32) (M1 M2 : zM), ZC [] 11 2093 [.ref 0, .int a1, .int a2] zM0 (some (.int v), M1) ∧ ZC [] 11 2411 [.ref 386, .int a1, .int a2] M1 (some (.int v), M2) ∧ zSh M1 ∧ zSh M2 := by
  refine zp_of ?_
  refine ZV.of (ini := false) rfl (Nat.le_of_ble_eq_true rfl) (by decide +kernel) ?_
  show ZW _ 10 8 false (some .int) cX8_pulled _ (0, [some (.ref 0), some (.int a1), some (.int a2), none, none, none], [], zM0)
  refine w_lo dX8_pulled_0 rfl rfl rfl rfl ?_
  refine w_lo dX8_pulled_1 rfl rfl rfl rfl ?_
  refine w_iv dX8_pulled_2 rfl rfl (As := [.int a1]) rfl rfl zU_0.1 rfl (Nat.le_of_ble_eq_true rfl) ?_
  refine ZV.of (ini := false) rfl (Nat.le_of_ble_eq_true rfl) (by decide +kernel) ?_
  show ZW _ 9 8 false (some .boolean) cX8_isBoy _ (0, [some (.ref 0), some (.int a1)], [], zM0)
  refine w_lo dX8_isBoy_0 rfl rfl rfl rfl ?_
  rcases zcut a1.toInt (0) with h219 | h219
  · skip
    refine w_ilt_t dX8_isBoy_1 (t := 19) rfl (by omega) ?_
    refine w_ic dX8_isBoy_19 zi_0 ?_
    refine w_en dX8_isBoy_20 rfl ?_
    show ZW _ 10 8 false (some .int) cX8_pulled _ (5, [some (.ref 0), some (.int a1), some (.int a2), none, none, none], [.int 0], zM0)
    refine w_ieq_t dX8_pulled_5 (t := 28) rfl (by decide) ?_
    refine w_ic dX8_pulled_28 zi_m1 ?_
    refine w_en dX8_pulled_29 rfl ?_
    refine ⟨_, rfl, ?_⟩
    refine ZV.of (ini := false) rfl (Nat.le_of_ble_eq_true rfl) (by decide +kernel) ?_
    show ZW _ 10 9 false (some .int) cX9_pulled _ (0, [some (.ref 386), some (.int a1), some (.int a2), none, none, none], [], zM0)
    refine w_lo dX9_pulled_0 rfl rfl rfl rfl ?_
    refine w_lo dX9_pulled_1 rfl rfl rfl rfl ?_
    refine w_iv dX9_pulled_2 rfl rfl (As := [.int a1]) rfl rfl zU_0.1 rfl (Nat.le_of_ble_eq_true rfl) ?_
    refine ZV.of (ini := false) rfl (Nat.le_of_ble_eq_true rfl) (by decide +kernel) ?_
    show ZW _ 9 9 false (some .boolean) cX9_isBoy _ (0, [some (.ref 386), some (.int a1)], [], zM0)
    refine w_lo dX9_isBoy_0 rfl rfl rfl rfl ?_
    refine w_ilt_t dX9_isBoy_1 (t := 21) rfl (by omega) ?_
    refine w_ic dX9_isBoy_21 zi_0 ?_
    refine w_en dX9_isBoy_22 rfl ?_
    show ZW _ 10 9 false (some .int) cX9_pulled _ (5, [some (.ref 386), some (.int a1), some (.int a2), none, none, none], [.int 0], zM0)
    refine w_ieq_t dX9_pulled_5 (t := 28) rfl (by decide) ?_
    refine w_ic dX9_pulled_28 zi_m1 ?_
    refine w_en dX9_pulled_29 rfl ?_
    exact ⟨rfl, zU_0.1, zU_0.1⟩
  · skip
    refine w_ilt_f dX8_isBoy_1 (t := 19) rfl (by omega) ?_
    refine w_lo dX8_isBoy_4 rfl rfl rfl rfl ?_
    refine w_lo dX8_isBoy_5 rfl rfl rfl rfl ?_
    refine w_gf dX8_isBoy_6 rfl zU_0.1 rfl ((zU_0).2 0 3 rfl |>.trans zq_0_3) ?_
    refine w_gf dX8_isBoy_9 rfl zU_0.1 rfl ((zU_0).2 28 1 rfl |>.trans zq_28_1) ?_
    refine w_cge_t dX8_isBoy_12 (t := 19) rfl (by have := zt_0; omega) ?_
    refine w_ic dX8_isBoy_19 zi_0 ?_
    refine w_en dX8_isBoy_20 rfl ?_
    show ZW _ 10 8 false (some .int) cX8_pulled _ (5, [some (.ref 0), some (.int a1), some (.int a2), none, none, none], [.int 0], zM0)
    refine w_ieq_t dX8_pulled_5 (t := 28) rfl (by decide) ?_
    refine w_ic dX8_pulled_28 zi_m1 ?_
    refine w_en dX8_pulled_29 rfl ?_
    refine ⟨_, rfl, ?_⟩
    refine ZV.of (ini := false) rfl (Nat.le_of_ble_eq_true rfl) (by decide +kernel) ?_
    show ZW _ 10 9 false (some .int) cX9_pulled _ (0, [some (.ref 386), some (.int a1), some (.int a2), none, none, none], [], zM0)
    refine w_lo dX9_pulled_0 rfl rfl rfl rfl ?_
    refine w_lo dX9_pulled_1 rfl rfl rfl rfl ?_
    refine w_iv dX9_pulled_2 rfl rfl (As := [.int a1]) rfl rfl zU_0.1 rfl (Nat.le_of_ble_eq_true rfl) ?_
    refine ZV.of (ini := false) rfl (Nat.le_of_ble_eq_true rfl) (by decide +kernel) ?_
    show ZW _ 9 9 false (some .boolean) cX9_isBoy _ (0, [some (.ref 386), some (.int a1)], [], zM0)
    refine w_lo dX9_isBoy_0 rfl rfl rfl rfl ?_
    refine w_ilt_f dX9_isBoy_1 (t := 21) rfl (by omega) ?_
    refine w_lo dX9_isBoy_4 rfl rfl rfl rfl ?_
    refine w_lo dX9_isBoy_5 rfl rfl rfl rfl ?_
    refine w_gf dX9_isBoy_6 rfl zU_0.1 rfl ((zU_0).2 386 13 rfl |>.trans zq_386_13) ?_
    refine w_lo dX9_isBoy_9 rfl rfl rfl rfl ?_
    refine w_gf dX9_isBoy_10 rfl zU_0.1 rfl ((zU_0).2 386 12 rfl |>.trans zq_386_12) ?_
    refine w_ia dX9_isBoy_13 zU_0.1 rfl (k := 0) zt_0 ((zU_0).2 388 0 rfl |>.trans zq_388_0) ?_
    refine w_cge_t dX9_isBoy_14 (t := 21) rfl (by have := zt_0; omega) ?_
    refine w_ic dX9_isBoy_21 zi_0 ?_
    refine w_en dX9_isBoy_22 rfl ?_
    show ZW _ 10 9 false (some .int) cX9_pulled _ (5, [some (.ref 386), some (.int a1), some (.int a2), none, none, none], [.int 0], zM0)
    refine w_ieq_t dX9_pulled_5 (t := 28) rfl (by decide) ?_
    refine w_ic dX9_pulled_28 zi_m1 ?_
    refine w_en dX9_pulled_29 rfl ?_
    exact ⟨rfl, zU_0.1, zU_0.1⟩
theorem zp_30 (a1 a2 : Int32) : ∃ (v : Int32) (M1 M2 : zM), ZC [] 11 2095 [.ref 0, .int a1, .int a2] zM0 (some (.int v), M1) ∧ ZC [] 11 2414 [.ref 386, .int a1, .int a2] M1 (some (.int v), M2) ∧ zSh M1 ∧ zSh M2 := by
  refine zp_of ?_
  refine ZV.of (ini := false) rfl (Nat.le_of_ble_eq_true rfl) (by decide +kernel) ?_
  show ZW _ 10 8 false (some .int) cX8_cut _ (0, [some (.ref 0), some (.int a1), some (.int a2), none, none, none, none], [], zM0)
  refine w_lo dX8_cut_0 rfl rfl rfl rfl ?_
  rcases zcut a1.toInt (0) with h220 | h220
  · skip
    refine w_ilt_t dX8_cut_1 (t := 38) rfl (by omega) ?_
    refine w_ic dX8_cut_38 zi_m1 ?_
    refine w_en dX8_cut_39 rfl ?_
    refine ⟨_, rfl, ?_⟩
    refine ZV.of (ini := false) rfl (Nat.le_of_ble_eq_true rfl) (by decide +kernel) ?_
    show ZW _ 10 9 false (some .int) cX9_cut _ (0, [some (.ref 386), some (.int a1), some (.int a2), none, none, none, none], [], zM0)
    refine w_lo dX9_cut_0 rfl rfl rfl rfl ?_
    refine w_ic dX9_cut_1 zi_0 ?_
    refine w_ic dX9_cut_2 zi_4 ?_
    refine w_ss dX9_cut_3 rfl rfl (As := [.int a1, .int 0, .int 4]) rfl rfl (Nat.le_of_ble_eq_true rfl) ?_
    refine ZV.of (ini := false) rfl (Nat.le_of_ble_eq_true rfl) (by decide +kernel) ?_
    show ZW _ 9 9 false (some .boolean) cX9_is _ (0, [some (.int a1), some (.int 0), some (.int 4)], [], zM0)
    refine w_lo dX9_is_0 rfl rfl rfl rfl ?_
    refine w_lo dX9_is_1 rfl rfl rfl rfl ?_
    refine w_clt_t dX9_is_2 (t := 14) rfl (by have := zt_0; omega) ?_
    refine w_ic dX9_is_14 zi_0 ?_
    refine w_en dX9_is_15 rfl ?_
    show ZW _ 10 9 false (some .int) cX9_cut _ (6, [some (.ref 386), some (.int a1), some (.int a2), none, none, none, none], [.int 0], zM0)
    refine w_ieq_t dX9_cut_6 (t := 40) rfl (by decide) ?_
    refine w_ic dX9_cut_40 zi_m1 ?_
    refine w_en dX9_cut_41 rfl ?_
    exact ⟨rfl, zU_0.1, zU_0.1⟩
  · skip
    refine w_ilt_f dX8_cut_1 (t := 38) rfl (by omega) ?_
    refine w_lo dX8_cut_4 rfl rfl rfl rfl ?_
    refine w_ic dX8_cut_5 zi_4 ?_
    rcases zcut a1.toInt (5) with h221 | h221
    · skip
      refine w_cgt_f dX8_cut_6 (t := 38) rfl (by have := zt_4; omega) ?_
      refine w_lo dX8_cut_9 rfl rfl rfl rfl ?_
      refine w_gf dX8_cut_10 rfl zU_0.1 rfl ((zU_0).2 0 4 rfl |>.trans zq_0_4) ?_
      refine w_gf dX8_cut_13 rfl zU_0.1 rfl ((zU_0).2 49 0 rfl |>.trans zq_49_0) ?_
      refine w_ic dX8_cut_16 zi_1 ?_
      refine w_clt_t dX8_cut_17 (t := 38) rfl (by decide) ?_
      refine w_ic dX8_cut_38 zi_m1 ?_
      refine w_en dX8_cut_39 rfl ?_
      refine ⟨_, rfl, ?_⟩
      refine ZV.of (ini := false) rfl (Nat.le_of_ble_eq_true rfl) (by decide +kernel) ?_
      show ZW _ 10 9 false (some .int) cX9_cut _ (0, [some (.ref 386), some (.int a1), some (.int a2), none, none, none, none], [], zM0)
      refine w_lo dX9_cut_0 rfl rfl rfl rfl ?_
      refine w_ic dX9_cut_1 zi_0 ?_
      refine w_ic dX9_cut_2 zi_4 ?_
      refine w_ss dX9_cut_3 rfl rfl (As := [.int a1, .int 0, .int 4]) rfl rfl (Nat.le_of_ble_eq_true rfl) ?_
      refine ZV.of (ini := false) rfl (Nat.le_of_ble_eq_true rfl) (by decide +kernel) ?_
      show ZW _ 9 9 false (some .boolean) cX9_is _ (0, [some (.int a1), some (.int 0), some (.int 4)], [], zM0)
      refine w_lo dX9_is_0 rfl rfl rfl rfl ?_
      refine w_lo dX9_is_1 rfl rfl rfl rfl ?_
      refine w_clt_f dX9_is_2 (t := 14) rfl (by have := zt_0; omega) ?_
      refine w_lo dX9_is_5 rfl rfl rfl rfl ?_
      refine w_lo dX9_is_6 rfl rfl rfl rfl ?_
      refine w_cgt_f dX9_is_7 (t := 14) rfl (by have := zt_4; omega) ?_
      refine w_ic dX9_is_10 zi_1 ?_
      refine w_gt dX9_is_11 (t := 15) rfl ?_
      refine w_en dX9_is_15 rfl ?_
      show ZW _ 10 9 false (some .int) cX9_cut _ (6, [some (.ref 386), some (.int a1), some (.int a2), none, none, none, none], [.int 1], zM0)
      refine w_ieq_f dX9_cut_6 (t := 40) rfl (by decide) ?_
      refine w_lo dX9_cut_9 rfl rfl rfl rfl ?_
      refine w_iv dX9_cut_10 rfl rfl (As := []) rfl rfl zU_0.1 rfl (Nat.le_of_ble_eq_true rfl) ?_
      refine ZV.of (ini := false) rfl (Nat.le_of_ble_eq_true rfl) (by decide +kernel) ?_
      show ZW _ 9 9 false (some .int) cX9_many _ (0, [some (.ref 386)], [], zM0)
      refine w_lo dX9_many_0 rfl rfl rfl rfl ?_
      refine w_gf dX9_many_1 rfl zU_0.1 rfl ((zU_0).2 386 13 rfl |>.trans zq_386_13) ?_
      refine w_lo dX9_many_4 rfl rfl rfl rfl ?_
      refine w_gf dX9_many_5 rfl zU_0.1 rfl ((zU_0).2 386 12 rfl |>.trans zq_386_12) ?_
      refine w_ia dX9_many_8 zU_0.1 rfl (k := 0) zt_0 ((zU_0).2 388 0 rfl |>.trans zq_388_0) ?_
      refine w_en dX9_many_9 rfl ?_
      show ZW _ 10 9 false (some .int) cX9_cut _ (13, [some (.ref 386), some (.int a1), some (.int a2), none, none, none, none], [.int 0], zM0)
      refine w_ieq_t dX9_cut_13 (t := 40) rfl (by decide) ?_
      refine w_ic dX9_cut_40 zi_m1 ?_
      refine w_en dX9_cut_41 rfl ?_
      exact ⟨rfl, zU_0.1, zU_0.1⟩
    · skip
      refine w_cgt_t dX8_cut_6 (t := 38) rfl (by have := zt_4; omega) ?_
      refine w_ic dX8_cut_38 zi_m1 ?_
      refine w_en dX8_cut_39 rfl ?_
      refine ⟨_, rfl, ?_⟩
      refine ZV.of (ini := false) rfl (Nat.le_of_ble_eq_true rfl) (by decide +kernel) ?_
      show ZW _ 10 9 false (some .int) cX9_cut _ (0, [some (.ref 386), some (.int a1), some (.int a2), none, none, none, none], [], zM0)
      refine w_lo dX9_cut_0 rfl rfl rfl rfl ?_
      refine w_ic dX9_cut_1 zi_0 ?_
      refine w_ic dX9_cut_2 zi_4 ?_
      refine w_ss dX9_cut_3 rfl rfl (As := [.int a1, .int 0, .int 4]) rfl rfl (Nat.le_of_ble_eq_true rfl) ?_
      refine ZV.of (ini := false) rfl (Nat.le_of_ble_eq_true rfl) (by decide +kernel) ?_
      show ZW _ 9 9 false (some .boolean) cX9_is _ (0, [some (.int a1), some (.int 0), some (.int 4)], [], zM0)
      refine w_lo dX9_is_0 rfl rfl rfl rfl ?_
      refine w_lo dX9_is_1 rfl rfl rfl rfl ?_
      refine w_clt_f dX9_is_2 (t := 14) rfl (by have := zt_0; omega) ?_
      refine w_lo dX9_is_5 rfl rfl rfl rfl ?_
      refine w_lo dX9_is_6 rfl rfl rfl rfl ?_
      refine w_cgt_t dX9_is_7 (t := 14) rfl (by have := zt_4; omega) ?_
      refine w_ic dX9_is_14 zi_0 ?_
      refine w_en dX9_is_15 rfl ?_
      show ZW _ 10 9 false (some .int) cX9_cut _ (6, [some (.ref 386), some (.int a1), some (.int a2), none, none, none, none], [.int 0], zM0)
      refine w_ieq_t dX9_cut_6 (t := 40) rfl (by decide) ?_
      refine w_ic dX9_cut_40 zi_m1 ?_
      refine w_en dX9_cut_41 rfl ?_
      exact ⟨rfl, zU_0.1, zU_0.1⟩
theorem zp_31 (a1 : Int32) : ∃ (v : Int32) (M1 M2 : zM), ZC [] 11 2100 [.ref 0, .int a1] zM0 (some (.int v), M1) ∧ ZC [] 11 2420 [.ref 386, .int a1] M1 (some (.int v), M2) ∧ zSh M1 ∧ zSh M2 := by
  refine zp_of ?_
  refine ZV.of (ini := false) rfl (Nat.le_of_ble_eq_true rfl) (by decide +kernel) ?_
  show ZW _ 10 8 false (some .int) cX8_walk _ (0, [some (.ref 0), some (.int a1)], [], zM0)
  refine w_lo dX8_walk_0 rfl rfl rfl rfl ?_
  refine w_lo dX8_walk_1 rfl rfl rfl rfl ?_
  refine w_iv dX8_walk_2 rfl rfl (As := [.int a1]) rfl rfl zU_0.1 rfl (Nat.le_of_ble_eq_true rfl) ?_
  refine ZV.of (ini := false) rfl (Nat.le_of_ble_eq_true rfl) (by decide +kernel) ?_
  show ZW _ 9 8 false (some .boolean) cX8_isPlace _ (0, [some (.ref 0), some (.int a1)], [], zM0)
  refine w_lo dX8_isPlace_0 rfl rfl rfl rfl ?_
  rcases zcut a1.toInt (0) with h222 | h222
  · skip
    refine w_ilt_t dX8_isPlace_1 (t := 19) rfl (by omega) ?_
    refine w_ic dX8_isPlace_19 zi_0 ?_
    refine w_en dX8_isPlace_20 rfl ?_
    show ZW _ 10 8 false (some .int) cX8_walk _ (5, [some (.ref 0), some (.int a1)], [.int 0], zM0)
    refine w_ine_f dX8_walk_5 (t := 10) rfl (by decide) ?_
    refine w_ic dX8_walk_8 zi_m1 ?_
    refine w_en dX8_walk_9 rfl ?_
    refine ⟨_, rfl, ?_⟩
    refine ZV.of (ini := false) rfl (Nat.le_of_ble_eq_true rfl) (by decide +kernel) ?_
    show ZW _ 10 9 false (some .int) cX9_walk _ (0, [some (.ref 386), some (.int a1), none, none, none, none, none], [], zM0)
    refine w_lo dX9_walk_0 rfl rfl rfl rfl ?_
    refine w_lo dX9_walk_1 rfl rfl rfl rfl ?_
    refine w_iv dX9_walk_2 rfl rfl (As := [.int a1]) rfl rfl zU_0.1 rfl (Nat.le_of_ble_eq_true rfl) ?_
    refine ZV.of (ini := false) rfl (Nat.le_of_ble_eq_true rfl) (by decide +kernel) ?_
    show ZW _ 9 9 false (some .boolean) cX9_isBoy _ (0, [some (.ref 386), some (.int a1)], [], zM0)
    refine w_lo dX9_isBoy_0 rfl rfl rfl rfl ?_
    refine w_ilt_t dX9_isBoy_1 (t := 21) rfl (by omega) ?_
    refine w_ic dX9_isBoy_21 zi_0 ?_
    refine w_en dX9_isBoy_22 rfl ?_
    show ZW _ 10 9 false (some .int) cX9_walk _ (5, [some (.ref 386), some (.int a1), none, none, none, none, none], [.int 0], zM0)
    refine w_ine_f dX9_walk_5 (t := 10) rfl (by decide) ?_
    refine w_ic dX9_walk_8 zi_m1 ?_
    refine w_en dX9_walk_9 rfl ?_
    exact ⟨rfl, zU_0.1, zU_0.1⟩
  · skip
    refine w_ilt_f dX8_isPlace_1 (t := 19) rfl (by omega) ?_
    refine w_lo dX8_isPlace_4 rfl rfl rfl rfl ?_
    refine w_lo dX8_isPlace_5 rfl rfl rfl rfl ?_
    refine w_gf dX8_isPlace_6 rfl zU_0.1 rfl ((zU_0).2 0 4 rfl |>.trans zq_0_4) ?_
    refine w_gf dX8_isPlace_9 rfl zU_0.1 rfl ((zU_0).2 49 0 rfl |>.trans zq_49_0) ?_
    refine w_cge_t dX8_isPlace_12 (t := 19) rfl (by have := zt_0; omega) ?_
    refine w_ic dX8_isPlace_19 zi_0 ?_
    refine w_en dX8_isPlace_20 rfl ?_
    show ZW _ 10 8 false (some .int) cX8_walk _ (5, [some (.ref 0), some (.int a1)], [.int 0], zM0)
    refine w_ine_f dX8_walk_5 (t := 10) rfl (by decide) ?_
    refine w_ic dX8_walk_8 zi_m1 ?_
    refine w_en dX8_walk_9 rfl ?_
    refine ⟨_, rfl, ?_⟩
    refine ZV.of (ini := false) rfl (Nat.le_of_ble_eq_true rfl) (by decide +kernel) ?_
    show ZW _ 10 9 false (some .int) cX9_walk _ (0, [some (.ref 386), some (.int a1), none, none, none, none, none], [], zM0)
    refine w_lo dX9_walk_0 rfl rfl rfl rfl ?_
    refine w_lo dX9_walk_1 rfl rfl rfl rfl ?_
    refine w_iv dX9_walk_2 rfl rfl (As := [.int a1]) rfl rfl zU_0.1 rfl (Nat.le_of_ble_eq_true rfl) ?_
    refine ZV.of (ini := false) rfl (Nat.le_of_ble_eq_true rfl) (by decide +kernel) ?_
    show ZW _ 9 9 false (some .boolean) cX9_isBoy _ (0, [some (.ref 386), some (.int a1)], [], zM0)
    refine w_lo dX9_isBoy_0 rfl rfl rfl rfl ?_
    refine w_ilt_f dX9_isBoy_1 (t := 21) rfl (by omega) ?_
    refine w_lo dX9_isBoy_4 rfl rfl rfl rfl ?_
    refine w_lo dX9_isBoy_5 rfl rfl rfl rfl ?_
    refine w_gf dX9_isBoy_6 rfl zU_0.1 rfl ((zU_0).2 386 13 rfl |>.trans zq_386_13) ?_
    refine w_lo dX9_isBoy_9 rfl rfl rfl rfl ?_
    refine w_gf dX9_isBoy_10 rfl zU_0.1 rfl ((zU_0).2 386 12 rfl |>.trans zq_386_12) ?_
    refine w_ia dX9_isBoy_13 zU_0.1 rfl (k := 0) zt_0 ((zU_0).2 388 0 rfl |>.trans zq_388_0) ?_
    refine w_cge_t dX9_isBoy_14 (t := 21) rfl (by have := zt_0; omega) ?_
    refine w_ic dX9_isBoy_21 zi_0 ?_
    refine w_en dX9_isBoy_22 rfl ?_
    show ZW _ 10 9 false (some .int) cX9_walk _ (5, [some (.ref 386), some (.int a1), none, none, none, none, none], [.int 0], zM0)
    refine w_ine_f dX9_walk_5 (t := 10) rfl (by decide) ?_
    refine w_ic dX9_walk_8 zi_m1 ?_
    refine w_en dX9_walk_9 rfl ?_
    exact ⟨rfl, zU_0.1, zU_0.1⟩
theorem zp_32 (a1 a2 : Int32) : ∃ (v : Int32) (M1 M2 : zM), ZC [] 11 2102 [.ref 0, .int a1, .int a2] zM0 (some (.int v), M1) ∧ ZC [] 11 2421 [.ref 386, .int a1, .int a2] M1 (some (.int v), M2) ∧ zSh M1 ∧ zSh M2 := by
  refine zp_of ?_
  refine ZV.of (ini := false) rfl (Nat.le_of_ble_eq_true rfl) (by decide +kernel) ?_
  show ZW _ 10 8 false (some .int) cX8_beds _ (0, [some (.ref 0), some (.int a1), some (.int a2), none, none, none, none, none], [], zM0)
  refine w_lo dX8_beds_0 rfl rfl rfl rfl ?_
  refine w_ic dX8_beds_1 zi_1 ?_
  rcases zcut a1.toInt (1) with h223 | h223
  · skip
    refine w_clt_t dX8_beds_2 (t := 28) rfl (by have := zt_1; omega) ?_
    refine w_ic dX8_beds_28 zi_m1 ?_
    refine w_en dX8_beds_29 rfl ?_
    refine ⟨_, rfl, ?_⟩
    refine ZV.of (ini := false) rfl (Nat.le_of_ble_eq_true rfl) (by decide +kernel) ?_
    show ZW _ 10 9 false (some .int) cX9_beds _ (0, [some (.ref 386), some (.int a1), some (.int a2), none, none, none, none], [], zM0)
    refine w_lo dX9_beds_0 rfl rfl rfl rfl ?_
    refine w_ic dX9_beds_1 zi_1 ?_
    refine w_si dX9_beds_2 (c := 9999) (by decide) ?_
    refine w_ss dX9_beds_5 rfl rfl (As := [.int a1, .int 1, .int 9999]) rfl rfl (Nat.le_of_ble_eq_true rfl) ?_
    refine ZV.of (ini := false) rfl (Nat.le_of_ble_eq_true rfl) (by decide +kernel) ?_
    show ZW _ 9 9 false (some .boolean) cX9_is _ (0, [some (.int a1), some (.int 1), some (.int 9999)], [], zM0)
    refine w_lo dX9_is_0 rfl rfl rfl rfl ?_
    refine w_lo dX9_is_1 rfl rfl rfl rfl ?_
    refine w_clt_t dX9_is_2 (t := 14) rfl (by have := zt_1; omega) ?_
    refine w_ic dX9_is_14 zi_0 ?_
    refine w_en dX9_is_15 rfl ?_
    show ZW _ 10 9 false (some .int) cX9_beds _ (8, [some (.ref 386), some (.int a1), some (.int a2), none, none, none, none], [.int 0], zM0)
    refine w_ieq_t dX9_beds_8 (t := 23) rfl (by decide) ?_
    refine w_ic dX9_beds_23 zi_m1 ?_
    refine w_en dX9_beds_24 rfl ?_
    exact ⟨rfl, zU_0.1, zU_0.1⟩
  · skip
    refine w_clt_f dX8_beds_2 (t := 28) rfl (by have := zt_1; omega) ?_
    refine w_lo dX8_beds_5 rfl rfl rfl rfl ?_
    refine w_si dX8_beds_6 (c := 9999) (by decide) ?_
    rcases zcut a1.toInt (10000) with h224 | h224
    · skip
      refine w_cgt_f dX8_beds_9 (t := 28) rfl (by have := zt_9999; omega) ?_
      refine w_lo dX8_beds_12 rfl rfl rfl rfl ?_
      refine w_gf dX8_beds_13 rfl zU_0.1 rfl ((zU_0).2 0 4 rfl |>.trans zq_0_4) ?_
      refine w_gf dX8_beds_16 rfl zU_0.1 rfl ((zU_0).2 49 0 rfl |>.trans zq_49_0) ?_
      refine w_ic dX8_beds_19 zi_1 ?_
      refine w_clt_t dX8_beds_20 (t := 28) rfl (by decide) ?_
      refine w_ic dX8_beds_28 zi_m1 ?_
      refine w_en dX8_beds_29 rfl ?_
      refine ⟨_, rfl, ?_⟩
      refine ZV.of (ini := false) rfl (Nat.le_of_ble_eq_true rfl) (by decide +kernel) ?_
      show ZW _ 10 9 false (some .int) cX9_beds _ (0, [some (.ref 386), some (.int a1), some (.int a2), none, none, none, none], [], zM0)
      refine w_lo dX9_beds_0 rfl rfl rfl rfl ?_
      refine w_ic dX9_beds_1 zi_1 ?_
      refine w_si dX9_beds_2 (c := 9999) (by decide) ?_
      refine w_ss dX9_beds_5 rfl rfl (As := [.int a1, .int 1, .int 9999]) rfl rfl (Nat.le_of_ble_eq_true rfl) ?_
      refine ZV.of (ini := false) rfl (Nat.le_of_ble_eq_true rfl) (by decide +kernel) ?_
      show ZW _ 9 9 false (some .boolean) cX9_is _ (0, [some (.int a1), some (.int 1), some (.int 9999)], [], zM0)
      refine w_lo dX9_is_0 rfl rfl rfl rfl ?_
      refine w_lo dX9_is_1 rfl rfl rfl rfl ?_
      refine w_clt_f dX9_is_2 (t := 14) rfl (by have := zt_1; omega) ?_
      refine w_lo dX9_is_5 rfl rfl rfl rfl ?_
      refine w_lo dX9_is_6 rfl rfl rfl rfl ?_
      refine w_cgt_f dX9_is_7 (t := 14) rfl (by have := zt_9999; omega) ?_
      refine w_ic dX9_is_10 zi_1 ?_
      refine w_gt dX9_is_11 (t := 15) rfl ?_
      refine w_en dX9_is_15 rfl ?_
      show ZW _ 10 9 false (some .int) cX9_beds _ (8, [some (.ref 386), some (.int a1), some (.int a2), none, none, none, none], [.int 1], zM0)
      refine w_ieq_f dX9_beds_8 (t := 23) rfl (by decide) ?_
      refine w_lo dX9_beds_11 rfl rfl rfl rfl ?_
      refine w_iv dX9_beds_12 rfl rfl (As := []) rfl rfl zU_0.1 rfl (Nat.le_of_ble_eq_true rfl) ?_
      refine ZV.of (ini := false) rfl (Nat.le_of_ble_eq_true rfl) (by decide +kernel) ?_
      show ZW _ 9 9 false (some .int) cX9_many _ (0, [some (.ref 386)], [], zM0)
      refine w_lo dX9_many_0 rfl rfl rfl rfl ?_
      refine w_gf dX9_many_1 rfl zU_0.1 rfl ((zU_0).2 386 13 rfl |>.trans zq_386_13) ?_
      refine w_lo dX9_many_4 rfl rfl rfl rfl ?_
      refine w_gf dX9_many_5 rfl zU_0.1 rfl ((zU_0).2 386 12 rfl |>.trans zq_386_12) ?_
      refine w_ia dX9_many_8 zU_0.1 rfl (k := 0) zt_0 ((zU_0).2 388 0 rfl |>.trans zq_388_0) ?_
      refine w_en dX9_many_9 rfl ?_
      show ZW _ 10 9 false (some .int) cX9_beds _ (15, [some (.ref 386), some (.int a1), some (.int a2), none, none, none, none], [.int 0], zM0)
      refine w_ieq_t dX9_beds_15 (t := 23) rfl (by decide) ?_
      refine w_ic dX9_beds_23 zi_m1 ?_
      refine w_en dX9_beds_24 rfl ?_
      exact ⟨rfl, zU_0.1, zU_0.1⟩
    · skip
      refine w_cgt_t dX8_beds_9 (t := 28) rfl (by have := zt_9999; omega) ?_
      refine w_ic dX8_beds_28 zi_m1 ?_
      refine w_en dX8_beds_29 rfl ?_
      refine ⟨_, rfl, ?_⟩
      refine ZV.of (ini := false) rfl (Nat.le_of_ble_eq_true rfl) (by decide +kernel) ?_
      show ZW _ 10 9 false (some .int) cX9_beds _ (0, [some (.ref 386), some (.int a1), some (.int a2), none, none, none, none], [], zM0)
      refine w_lo dX9_beds_0 rfl rfl rfl rfl ?_
      refine w_ic dX9_beds_1 zi_1 ?_
      refine w_si dX9_beds_2 (c := 9999) (by decide) ?_
      refine w_ss dX9_beds_5 rfl rfl (As := [.int a1, .int 1, .int 9999]) rfl rfl (Nat.le_of_ble_eq_true rfl) ?_
      refine ZV.of (ini := false) rfl (Nat.le_of_ble_eq_true rfl) (by decide +kernel) ?_
      show ZW _ 9 9 false (some .boolean) cX9_is _ (0, [some (.int a1), some (.int 1), some (.int 9999)], [], zM0)
      refine w_lo dX9_is_0 rfl rfl rfl rfl ?_
      refine w_lo dX9_is_1 rfl rfl rfl rfl ?_
      refine w_clt_f dX9_is_2 (t := 14) rfl (by have := zt_1; omega) ?_
      refine w_lo dX9_is_5 rfl rfl rfl rfl ?_
      refine w_lo dX9_is_6 rfl rfl rfl rfl ?_
      refine w_cgt_t dX9_is_7 (t := 14) rfl (by have := zt_9999; omega) ?_
      refine w_ic dX9_is_14 zi_0 ?_
      refine w_en dX9_is_15 rfl ?_
      show ZW _ 10 9 false (some .int) cX9_beds _ (8, [some (.ref 386), some (.int a1), some (.int a2), none, none, none, none], [.int 0], zM0)
      refine w_ieq_t dX9_beds_8 (t := 23) rfl (by decide) ?_
      refine w_ic dX9_beds_23 zi_m1 ?_
      refine w_en dX9_beds_24 rfl ?_
      exact ⟨rfl, zU_0.1, zU_0.1⟩
theorem zp_33 (a1 a2 a3 : Int32) : ∃ (v : Int32) (M1 M2 : zM), ZC [] 11 2103 [.ref 0, .int a1, .int a2, .int a3] zM0 (some (.int v), M1) ∧ ZC [] 11 2422 [.ref 386, .int a1, .int a2, .int a3] M1 (some (.int v), M2) ∧ zSh M1 ∧ zSh M2 := by
  refine zp_of ?_
  refine ZV.of (ini := false) rfl (Nat.le_of_ble_eq_true rfl) (by decide +kernel) ?_
  show ZW _ 10 8 false (some .int) cX8_nights _ (0, [some (.ref 0), some (.int a1), some (.int a2), some (.int a3), none, none, none, none, none], [], zM0)
  refine w_lo dX8_nights_0 rfl rfl rfl rfl ?_
  refine w_ic dX8_nights_1 zi_1 ?_
  rcases zcut a1.toInt (1) with h225 | h225
  · skip
    refine w_clt_t dX8_nights_2 (t := 42) rfl (by have := zt_1; omega) ?_
    refine w_ic dX8_nights_42 zi_m1 ?_
    refine w_en dX8_nights_43 rfl ?_
    refine ⟨_, rfl, ?_⟩
    refine ZV.of (ini := false) rfl (Nat.le_of_ble_eq_true rfl) (by decide +kernel) ?_
    show ZW _ 10 9 false (some .int) cX9_nights _ (0, [some (.ref 386), some (.int a1), some (.int a2), some (.int a3), none, none, none, none, none], [], zM0)
    refine w_lo dX9_nights_0 rfl rfl rfl rfl ?_
    refine w_ic dX9_nights_1 zi_1 ?_
    refine w_bi dX9_nights_2 (c := 20) (by decide) ?_
    refine w_ss dX9_nights_4 rfl rfl (As := [.int a1, .int 1, .int 20]) rfl rfl (Nat.le_of_ble_eq_true rfl) ?_
    refine ZV.of (ini := false) rfl (Nat.le_of_ble_eq_true rfl) (by decide +kernel) ?_
    show ZW _ 9 9 false (some .boolean) cX9_is _ (0, [some (.int a1), some (.int 1), some (.int 20)], [], zM0)
    refine w_lo dX9_is_0 rfl rfl rfl rfl ?_
    refine w_lo dX9_is_1 rfl rfl rfl rfl ?_
    refine w_clt_t dX9_is_2 (t := 14) rfl (by have := zt_1; omega) ?_
    refine w_ic dX9_is_14 zi_0 ?_
    refine w_en dX9_is_15 rfl ?_
    show ZW _ 10 9 false (some .int) cX9_nights _ (7, [some (.ref 386), some (.int a1), some (.int a2), some (.int a3), none, none, none, none, none], [.int 0], zM0)
    refine w_ieq_t dX9_nights_7 (t := 36) rfl (by decide) ?_
    refine w_ic dX9_nights_36 zi_m1 ?_
    refine w_en dX9_nights_37 rfl ?_
    exact ⟨rfl, zU_0.1, zU_0.1⟩
  · skip
    refine w_clt_f dX8_nights_2 (t := 42) rfl (by have := zt_1; omega) ?_
    refine w_lo dX8_nights_5 rfl rfl rfl rfl ?_
    refine w_bi dX8_nights_6 (c := 20) (by decide) ?_
    rcases zcut a1.toInt (21) with h226 | h226
    · skip
      refine w_cgt_f dX8_nights_8 (t := 42) rfl (by have := zt_20; omega) ?_
      refine w_lo dX8_nights_11 rfl rfl rfl rfl ?_
      refine w_ic dX8_nights_12 zi_1 ?_
      rcases zcut a2.toInt (1) with h227 | h227
      · skip
        refine w_clt_t dX8_nights_13 (t := 42) rfl (by have := zt_1; omega) ?_
        refine w_ic dX8_nights_42 zi_m1 ?_
        refine w_en dX8_nights_43 rfl ?_
        refine ⟨_, rfl, ?_⟩
        refine ZV.of (ini := false) rfl (Nat.le_of_ble_eq_true rfl) (by decide +kernel) ?_
        show ZW _ 10 9 false (some .int) cX9_nights _ (0, [some (.ref 386), some (.int a1), some (.int a2), some (.int a3), none, none, none, none, none], [], zM0)
        refine w_lo dX9_nights_0 rfl rfl rfl rfl ?_
        refine w_ic dX9_nights_1 zi_1 ?_
        refine w_bi dX9_nights_2 (c := 20) (by decide) ?_
        refine w_ss dX9_nights_4 rfl rfl (As := [.int a1, .int 1, .int 20]) rfl rfl (Nat.le_of_ble_eq_true rfl) ?_
        refine ZV.of (ini := false) rfl (Nat.le_of_ble_eq_true rfl) (by decide +kernel) ?_
        show ZW _ 9 9 false (some .boolean) cX9_is _ (0, [some (.int a1), some (.int 1), some (.int 20)], [], zM0)
        refine w_lo dX9_is_0 rfl rfl rfl rfl ?_
        refine w_lo dX9_is_1 rfl rfl rfl rfl ?_
        refine w_clt_f dX9_is_2 (t := 14) rfl (by have := zt_1; omega) ?_
        refine w_lo dX9_is_5 rfl rfl rfl rfl ?_
        refine w_lo dX9_is_6 rfl rfl rfl rfl ?_
        refine w_cgt_f dX9_is_7 (t := 14) rfl (by have := zt_20; omega) ?_
        refine w_ic dX9_is_10 zi_1 ?_
        refine w_gt dX9_is_11 (t := 15) rfl ?_
        refine w_en dX9_is_15 rfl ?_
        show ZW _ 10 9 false (some .int) cX9_nights _ (7, [some (.ref 386), some (.int a1), some (.int a2), some (.int a3), none, none, none, none, none], [.int 1], zM0)
        refine w_ieq_f dX9_nights_7 (t := 36) rfl (by decide) ?_
        refine w_lo dX9_nights_10 rfl rfl rfl rfl ?_
        refine w_ic dX9_nights_11 zi_1 ?_
        refine w_bi dX9_nights_12 (c := 60) (by decide) ?_
        refine w_ss dX9_nights_14 rfl rfl (As := [.int a2, .int 1, .int 60]) rfl rfl (Nat.le_of_ble_eq_true rfl) ?_
        refine ZV.of (ini := false) rfl (Nat.le_of_ble_eq_true rfl) (by decide +kernel) ?_
        show ZW _ 9 9 false (some .boolean) cX9_is _ (0, [some (.int a2), some (.int 1), some (.int 60)], [], zM0)
        refine w_lo dX9_is_0 rfl rfl rfl rfl ?_
        refine w_lo dX9_is_1 rfl rfl rfl rfl ?_
        refine w_clt_t dX9_is_2 (t := 14) rfl (by have := zt_1; omega) ?_
        refine w_ic dX9_is_14 zi_0 ?_
        refine w_en dX9_is_15 rfl ?_
        show ZW _ 10 9 false (some .int) cX9_nights _ (17, [some (.ref 386), some (.int a1), some (.int a2), some (.int a3), none, none, none, none, none], [.int 0], zM0)
        refine w_ieq_t dX9_nights_17 (t := 36) rfl (by decide) ?_
        refine w_ic dX9_nights_36 zi_m1 ?_
        refine w_en dX9_nights_37 rfl ?_
        exact ⟨rfl, zU_0.1, zU_0.1⟩
      · skip
        refine w_clt_f dX8_nights_13 (t := 42) rfl (by have := zt_1; omega) ?_
        refine w_lo dX8_nights_16 rfl rfl rfl rfl ?_
        refine w_bi dX8_nights_17 (c := 60) (by decide) ?_
        rcases zcut a2.toInt (61) with h228 | h228
        · skip
          refine w_cgt_f dX8_nights_19 (t := 42) rfl (by have := zt_60; omega) ?_
          refine w_lo dX8_nights_22 rfl rfl rfl rfl ?_
          rcases zcut a3.toInt (0) with h229 | h229
          · skip
            refine w_ilt_t dX8_nights_23 (t := 42) rfl (by omega) ?_
            refine w_ic dX8_nights_42 zi_m1 ?_
            refine w_en dX8_nights_43 rfl ?_
            refine ⟨_, rfl, ?_⟩
            refine ZV.of (ini := false) rfl (Nat.le_of_ble_eq_true rfl) (by decide +kernel) ?_
            show ZW _ 10 9 false (some .int) cX9_nights _ (0, [some (.ref 386), some (.int a1), some (.int a2), some (.int a3), none, none, none, none, none], [], zM0)
            refine w_lo dX9_nights_0 rfl rfl rfl rfl ?_
            refine w_ic dX9_nights_1 zi_1 ?_
            refine w_bi dX9_nights_2 (c := 20) (by decide) ?_
            refine w_ss dX9_nights_4 rfl rfl (As := [.int a1, .int 1, .int 20]) rfl rfl (Nat.le_of_ble_eq_true rfl) ?_
            refine ZV.of (ini := false) rfl (Nat.le_of_ble_eq_true rfl) (by decide +kernel) ?_
            show ZW _ 9 9 false (some .boolean) cX9_is _ (0, [some (.int a1), some (.int 1), some (.int 20)], [], zM0)
            refine w_lo dX9_is_0 rfl rfl rfl rfl ?_
            refine w_lo dX9_is_1 rfl rfl rfl rfl ?_
            refine w_clt_f dX9_is_2 (t := 14) rfl (by have := zt_1; omega) ?_
            refine w_lo dX9_is_5 rfl rfl rfl rfl ?_
            refine w_lo dX9_is_6 rfl rfl rfl rfl ?_
            refine w_cgt_f dX9_is_7 (t := 14) rfl (by have := zt_20; omega) ?_
            refine w_ic dX9_is_10 zi_1 ?_
            refine w_gt dX9_is_11 (t := 15) rfl ?_
            refine w_en dX9_is_15 rfl ?_
            show ZW _ 10 9 false (some .int) cX9_nights _ (7, [some (.ref 386), some (.int a1), some (.int a2), some (.int a3), none, none, none, none, none], [.int 1], zM0)
            refine w_ieq_f dX9_nights_7 (t := 36) rfl (by decide) ?_
            refine w_lo dX9_nights_10 rfl rfl rfl rfl ?_
            refine w_ic dX9_nights_11 zi_1 ?_
            refine w_bi dX9_nights_12 (c := 60) (by decide) ?_
            refine w_ss dX9_nights_14 rfl rfl (As := [.int a2, .int 1, .int 60]) rfl rfl (Nat.le_of_ble_eq_true rfl) ?_
            refine ZV.of (ini := false) rfl (Nat.le_of_ble_eq_true rfl) (by decide +kernel) ?_
            show ZW _ 9 9 false (some .boolean) cX9_is _ (0, [some (.int a2), some (.int 1), some (.int 60)], [], zM0)
            refine w_lo dX9_is_0 rfl rfl rfl rfl ?_
            refine w_lo dX9_is_1 rfl rfl rfl rfl ?_
            refine w_clt_f dX9_is_2 (t := 14) rfl (by have := zt_1; omega) ?_
            refine w_lo dX9_is_5 rfl rfl rfl rfl ?_
            refine w_lo dX9_is_6 rfl rfl rfl rfl ?_
            refine w_cgt_f dX9_is_7 (t := 14) rfl (by have := zt_60; omega) ?_
            refine w_ic dX9_is_10 zi_1 ?_
            refine w_gt dX9_is_11 (t := 15) rfl ?_
            refine w_en dX9_is_15 rfl ?_
            show ZW _ 10 9 false (some .int) cX9_nights _ (17, [some (.ref 386), some (.int a1), some (.int a2), some (.int a3), none, none, none, none, none], [.int 1], zM0)
            refine w_ieq_f dX9_nights_17 (t := 36) rfl (by decide) ?_
            refine w_lo dX9_nights_20 rfl rfl rfl rfl ?_
            refine w_ic dX9_nights_21 zi_0 ?_
            refine w_ic dX9_nights_22 zi_2 ?_
            refine w_ss dX9_nights_23 rfl rfl (As := [.int a3, .int 0, .int 2]) rfl rfl (Nat.le_of_ble_eq_true rfl) ?_
            refine ZV.of (ini := false) rfl (Nat.le_of_ble_eq_true rfl) (by decide +kernel) ?_
            show ZW _ 9 9 false (some .boolean) cX9_is _ (0, [some (.int a3), some (.int 0), some (.int 2)], [], zM0)
            refine w_lo dX9_is_0 rfl rfl rfl rfl ?_
            refine w_lo dX9_is_1 rfl rfl rfl rfl ?_
            refine w_clt_t dX9_is_2 (t := 14) rfl (by have := zt_0; omega) ?_
            refine w_ic dX9_is_14 zi_0 ?_
            refine w_en dX9_is_15 rfl ?_
            show ZW _ 10 9 false (some .int) cX9_nights _ (26, [some (.ref 386), some (.int a1), some (.int a2), some (.int a3), none, none, none, none, none], [.int 0], zM0)
            refine w_ieq_t dX9_nights_26 (t := 36) rfl (by decide) ?_
            refine w_ic dX9_nights_36 zi_m1 ?_
            refine w_en dX9_nights_37 rfl ?_
            exact ⟨rfl, zU_0.1, zU_0.1⟩
          · skip
            refine w_ilt_f dX8_nights_23 (t := 42) rfl (by omega) ?_
            refine w_lo dX8_nights_26 rfl rfl rfl rfl ?_
            refine w_ic dX8_nights_27 zi_2 ?_
            rcases zcut a3.toInt (3) with h230 | h230
            · skip
              refine w_cgt_f dX8_nights_28 (t := 42) rfl (by have := zt_2; omega) ?_
              refine w_lo dX8_nights_31 rfl rfl rfl rfl ?_
              refine w_gf dX8_nights_32 rfl zU_0.1 rfl ((zU_0).2 0 4 rfl |>.trans zq_0_4) ?_
              refine w_gf dX8_nights_35 rfl zU_0.1 rfl ((zU_0).2 49 0 rfl |>.trans zq_49_0) ?_
              refine w_ic dX8_nights_38 zi_1 ?_
              refine w_cge_f dX8_nights_39 (t := 44) rfl (by decide) ?_
              refine w_ic dX8_nights_42 zi_m1 ?_
              refine w_en dX8_nights_43 rfl ?_
              refine ⟨_, rfl, ?_⟩
              refine ZV.of (ini := false) rfl (Nat.le_of_ble_eq_true rfl) (by decide +kernel) ?_
              show ZW _ 10 9 false (some .int) cX9_nights _ (0, [some (.ref 386), some (.int a1), some (.int a2), some (.int a3), none, none, none, none, none], [], zM0)
              refine w_lo dX9_nights_0 rfl rfl rfl rfl ?_
              refine w_ic dX9_nights_1 zi_1 ?_
              refine w_bi dX9_nights_2 (c := 20) (by decide) ?_
              refine w_ss dX9_nights_4 rfl rfl (As := [.int a1, .int 1, .int 20]) rfl rfl (Nat.le_of_ble_eq_true rfl) ?_
              refine ZV.of (ini := false) rfl (Nat.le_of_ble_eq_true rfl) (by decide +kernel) ?_
              show ZW _ 9 9 false (some .boolean) cX9_is _ (0, [some (.int a1), some (.int 1), some (.int 20)], [], zM0)
              refine w_lo dX9_is_0 rfl rfl rfl rfl ?_
              refine w_lo dX9_is_1 rfl rfl rfl rfl ?_
              refine w_clt_f dX9_is_2 (t := 14) rfl (by have := zt_1; omega) ?_
              refine w_lo dX9_is_5 rfl rfl rfl rfl ?_
              refine w_lo dX9_is_6 rfl rfl rfl rfl ?_
              refine w_cgt_f dX9_is_7 (t := 14) rfl (by have := zt_20; omega) ?_
              refine w_ic dX9_is_10 zi_1 ?_
              refine w_gt dX9_is_11 (t := 15) rfl ?_
              refine w_en dX9_is_15 rfl ?_
              show ZW _ 10 9 false (some .int) cX9_nights _ (7, [some (.ref 386), some (.int a1), some (.int a2), some (.int a3), none, none, none, none, none], [.int 1], zM0)
              refine w_ieq_f dX9_nights_7 (t := 36) rfl (by decide) ?_
              refine w_lo dX9_nights_10 rfl rfl rfl rfl ?_
              refine w_ic dX9_nights_11 zi_1 ?_
              refine w_bi dX9_nights_12 (c := 60) (by decide) ?_
              refine w_ss dX9_nights_14 rfl rfl (As := [.int a2, .int 1, .int 60]) rfl rfl (Nat.le_of_ble_eq_true rfl) ?_
              refine ZV.of (ini := false) rfl (Nat.le_of_ble_eq_true rfl) (by decide +kernel) ?_
              show ZW _ 9 9 false (some .boolean) cX9_is _ (0, [some (.int a2), some (.int 1), some (.int 60)], [], zM0)
              refine w_lo dX9_is_0 rfl rfl rfl rfl ?_
              refine w_lo dX9_is_1 rfl rfl rfl rfl ?_
              refine w_clt_f dX9_is_2 (t := 14) rfl (by have := zt_1; omega) ?_
              refine w_lo dX9_is_5 rfl rfl rfl rfl ?_
              refine w_lo dX9_is_6 rfl rfl rfl rfl ?_
              refine w_cgt_f dX9_is_7 (t := 14) rfl (by have := zt_60; omega) ?_
              refine w_ic dX9_is_10 zi_1 ?_
              refine w_gt dX9_is_11 (t := 15) rfl ?_
              refine w_en dX9_is_15 rfl ?_
              show ZW _ 10 9 false (some .int) cX9_nights _ (17, [some (.ref 386), some (.int a1), some (.int a2), some (.int a3), none, none, none, none, none], [.int 1], zM0)
              refine w_ieq_f dX9_nights_17 (t := 36) rfl (by decide) ?_
              refine w_lo dX9_nights_20 rfl rfl rfl rfl ?_
              refine w_ic dX9_nights_21 zi_0 ?_
              refine w_ic dX9_nights_22 zi_2 ?_
              refine w_ss dX9_nights_23 rfl rfl (As := [.int a3, .int 0, .int 2]) rfl rfl (Nat.le_of_ble_eq_true rfl) ?_
              refine ZV.of (ini := false) rfl (Nat.le_of_ble_eq_true rfl) (by decide +kernel) ?_
              show ZW _ 9 9 false (some .boolean) cX9_is _ (0, [some (.int a3), some (.int 0), some (.int 2)], [], zM0)
              refine w_lo dX9_is_0 rfl rfl rfl rfl ?_
              refine w_lo dX9_is_1 rfl rfl rfl rfl ?_
              refine w_clt_f dX9_is_2 (t := 14) rfl (by have := zt_0; omega) ?_
              refine w_lo dX9_is_5 rfl rfl rfl rfl ?_
              refine w_lo dX9_is_6 rfl rfl rfl rfl ?_
              refine w_cgt_f dX9_is_7 (t := 14) rfl (by have := zt_2; omega) ?_
              refine w_ic dX9_is_10 zi_1 ?_
              refine w_gt dX9_is_11 (t := 15) rfl ?_
              refine w_en dX9_is_15 rfl ?_
              show ZW _ 10 9 false (some .int) cX9_nights _ (26, [some (.ref 386), some (.int a1), some (.int a2), some (.int a3), none, none, none, none, none], [.int 1], zM0)
              refine w_ieq_f dX9_nights_26 (t := 36) rfl (by decide) ?_
              refine w_lo dX9_nights_29 rfl rfl rfl rfl ?_
              refine w_iv dX9_nights_30 rfl rfl (As := []) rfl rfl zU_0.1 rfl (Nat.le_of_ble_eq_true rfl) ?_
              refine ZV.of (ini := false) rfl (Nat.le_of_ble_eq_true rfl) (by decide +kernel) ?_
              show ZW _ 9 9 false (some .int) cX9_many _ (0, [some (.ref 386)], [], zM0)
              refine w_lo dX9_many_0 rfl rfl rfl rfl ?_
              refine w_gf dX9_many_1 rfl zU_0.1 rfl ((zU_0).2 386 13 rfl |>.trans zq_386_13) ?_
              refine w_lo dX9_many_4 rfl rfl rfl rfl ?_
              refine w_gf dX9_many_5 rfl zU_0.1 rfl ((zU_0).2 386 12 rfl |>.trans zq_386_12) ?_
              refine w_ia dX9_many_8 zU_0.1 rfl (k := 0) zt_0 ((zU_0).2 388 0 rfl |>.trans zq_388_0) ?_
              refine w_en dX9_many_9 rfl ?_
              show ZW _ 10 9 false (some .int) cX9_nights _ (33, [some (.ref 386), some (.int a1), some (.int a2), some (.int a3), none, none, none, none, none], [.int 0], zM0)
              refine w_ine_f dX9_nights_33 (t := 38) rfl (by decide) ?_
              refine w_ic dX9_nights_36 zi_m1 ?_
              refine w_en dX9_nights_37 rfl ?_
              exact ⟨rfl, zU_0.1, zU_0.1⟩
            · skip
              refine w_cgt_t dX8_nights_28 (t := 42) rfl (by have := zt_2; omega) ?_
              refine w_ic dX8_nights_42 zi_m1 ?_
              refine w_en dX8_nights_43 rfl ?_
              refine ⟨_, rfl, ?_⟩
              refine ZV.of (ini := false) rfl (Nat.le_of_ble_eq_true rfl) (by decide +kernel) ?_
              show ZW _ 10 9 false (some .int) cX9_nights _ (0, [some (.ref 386), some (.int a1), some (.int a2), some (.int a3), none, none, none, none, none], [], zM0)
              refine w_lo dX9_nights_0 rfl rfl rfl rfl ?_
              refine w_ic dX9_nights_1 zi_1 ?_
              refine w_bi dX9_nights_2 (c := 20) (by decide) ?_
              refine w_ss dX9_nights_4 rfl rfl (As := [.int a1, .int 1, .int 20]) rfl rfl (Nat.le_of_ble_eq_true rfl) ?_
              refine ZV.of (ini := false) rfl (Nat.le_of_ble_eq_true rfl) (by decide +kernel) ?_
              show ZW _ 9 9 false (some .boolean) cX9_is _ (0, [some (.int a1), some (.int 1), some (.int 20)], [], zM0)
              refine w_lo dX9_is_0 rfl rfl rfl rfl ?_
              refine w_lo dX9_is_1 rfl rfl rfl rfl ?_
              refine w_clt_f dX9_is_2 (t := 14) rfl (by have := zt_1; omega) ?_
              refine w_lo dX9_is_5 rfl rfl rfl rfl ?_
              refine w_lo dX9_is_6 rfl rfl rfl rfl ?_
              refine w_cgt_f dX9_is_7 (t := 14) rfl (by have := zt_20; omega) ?_
              refine w_ic dX9_is_10 zi_1 ?_
              refine w_gt dX9_is_11 (t := 15) rfl ?_
              refine w_en dX9_is_15 rfl ?_
              show ZW _ 10 9 false (some .int) cX9_nights _ (7, [some (.ref 386), some (.int a1), some (.int a2), some (.int a3), none, none, none, none, none], [.int 1], zM0)
              refine w_ieq_f dX9_nights_7 (t := 36) rfl (by decide) ?_
              refine w_lo dX9_nights_10 rfl rfl rfl rfl ?_
              refine w_ic dX9_nights_11 zi_1 ?_
              refine w_bi dX9_nights_12 (c := 60) (by decide) ?_
              refine w_ss dX9_nights_14 rfl rfl (As := [.int a2, .int 1, .int 60]) rfl rfl (Nat.le_of_ble_eq_true rfl) ?_
              refine ZV.of (ini := false) rfl (Nat.le_of_ble_eq_true rfl) (by decide +kernel) ?_
              show ZW _ 9 9 false (some .boolean) cX9_is _ (0, [some (.int a2), some (.int 1), some (.int 60)], [], zM0)
              refine w_lo dX9_is_0 rfl rfl rfl rfl ?_
              refine w_lo dX9_is_1 rfl rfl rfl rfl ?_
              refine w_clt_f dX9_is_2 (t := 14) rfl (by have := zt_1; omega) ?_
              refine w_lo dX9_is_5 rfl rfl rfl rfl ?_
              refine w_lo dX9_is_6 rfl rfl rfl rfl ?_
              refine w_cgt_f dX9_is_7 (t := 14) rfl (by have := zt_60; omega) ?_
              refine w_ic dX9_is_10 zi_1 ?_
              refine w_gt dX9_is_11 (t := 15) rfl ?_
              refine w_en dX9_is_15 rfl ?_
              show ZW _ 10 9 false (some .int) cX9_nights _ (17, [some (.ref 386), some (.int a1), some (.int a2), some (.int a3), none, none, none, none, none], [.int 1], zM0)
              refine w_ieq_f dX9_nights_17 (t := 36) rfl (by decide) ?_
              refine w_lo dX9_nights_20 rfl rfl rfl rfl ?_
              refine w_ic dX9_nights_21 zi_0 ?_
              refine w_ic dX9_nights_22 zi_2 ?_
              refine w_ss dX9_nights_23 rfl rfl (As := [.int a3, .int 0, .int 2]) rfl rfl (Nat.le_of_ble_eq_true rfl) ?_
              refine ZV.of (ini := false) rfl (Nat.le_of_ble_eq_true rfl) (by decide +kernel) ?_
              show ZW _ 9 9 false (some .boolean) cX9_is _ (0, [some (.int a3), some (.int 0), some (.int 2)], [], zM0)
              refine w_lo dX9_is_0 rfl rfl rfl rfl ?_
              refine w_lo dX9_is_1 rfl rfl rfl rfl ?_
              refine w_clt_f dX9_is_2 (t := 14) rfl (by have := zt_0; omega) ?_
              refine w_lo dX9_is_5 rfl rfl rfl rfl ?_
              refine w_lo dX9_is_6 rfl rfl rfl rfl ?_
              refine w_cgt_t dX9_is_7 (t := 14) rfl (by have := zt_2; omega) ?_
              refine w_ic dX9_is_14 zi_0 ?_
              refine w_en dX9_is_15 rfl ?_
              show ZW _ 10 9 false (some .int) cX9_nights _ (26, [some (.ref 386), some (.int a1), some (.int a2), some (.int a3), none, none, none, none, none], [.int 0], zM0)
              refine w_ieq_t dX9_nights_26 (t := 36) rfl (by decide) ?_
              refine w_ic dX9_nights_36 zi_m1 ?_
              refine w_en dX9_nights_37 rfl ?_
              exact ⟨rfl, zU_0.1, zU_0.1⟩
        · skip
          refine w_cgt_t dX8_nights_19 (t := 42) rfl (by have := zt_60; omega) ?_
          refine w_ic dX8_nights_42 zi_m1 ?_
          refine w_en dX8_nights_43 rfl ?_
          refine ⟨_, rfl, ?_⟩
          refine ZV.of (ini := false) rfl (Nat.le_of_ble_eq_true rfl) (by decide +kernel) ?_
          show ZW _ 10 9 false (some .int) cX9_nights _ (0, [some (.ref 386), some (.int a1), some (.int a2), some (.int a3), none, none, none, none, none], [], zM0)
          refine w_lo dX9_nights_0 rfl rfl rfl rfl ?_
          refine w_ic dX9_nights_1 zi_1 ?_
          refine w_bi dX9_nights_2 (c := 20) (by decide) ?_
          refine w_ss dX9_nights_4 rfl rfl (As := [.int a1, .int 1, .int 20]) rfl rfl (Nat.le_of_ble_eq_true rfl) ?_
          refine ZV.of (ini := false) rfl (Nat.le_of_ble_eq_true rfl) (by decide +kernel) ?_
          show ZW _ 9 9 false (some .boolean) cX9_is _ (0, [some (.int a1), some (.int 1), some (.int 20)], [], zM0)
          refine w_lo dX9_is_0 rfl rfl rfl rfl ?_
          refine w_lo dX9_is_1 rfl rfl rfl rfl ?_
          refine w_clt_f dX9_is_2 (t := 14) rfl (by have := zt_1; omega) ?_
          refine w_lo dX9_is_5 rfl rfl rfl rfl ?_
          refine w_lo dX9_is_6 rfl rfl rfl rfl ?_
          refine w_cgt_f dX9_is_7 (t := 14) rfl (by have := zt_20; omega) ?_
          refine w_ic dX9_is_10 zi_1 ?_
          refine w_gt dX9_is_11 (t := 15) rfl ?_
          refine w_en dX9_is_15 rfl ?_
          show ZW _ 10 9 false (some .int) cX9_nights _ (7, [some (.ref 386), some (.int a1), some (.int a2), some (.int a3), none, none, none, none, none], [.int 1], zM0)
          refine w_ieq_f dX9_nights_7 (t := 36) rfl (by decide) ?_
          refine w_lo dX9_nights_10 rfl rfl rfl rfl ?_
          refine w_ic dX9_nights_11 zi_1 ?_
          refine w_bi dX9_nights_12 (c := 60) (by decide) ?_
          refine w_ss dX9_nights_14 rfl rfl (As := [.int a2, .int 1, .int 60]) rfl rfl (Nat.le_of_ble_eq_true rfl) ?_
          refine ZV.of (ini := false) rfl (Nat.le_of_ble_eq_true rfl) (by decide +kernel) ?_
          show ZW _ 9 9 false (some .boolean) cX9_is _ (0, [some (.int a2), some (.int 1), some (.int 60)], [], zM0)
          refine w_lo dX9_is_0 rfl rfl rfl rfl ?_
          refine w_lo dX9_is_1 rfl rfl rfl rfl ?_
          refine w_clt_f dX9_is_2 (t := 14) rfl (by have := zt_1; omega) ?_
          refine w_lo dX9_is_5 rfl rfl rfl rfl ?_
          refine w_lo dX9_is_6 rfl rfl rfl rfl ?_
          refine w_cgt_t dX9_is_7 (t := 14) rfl (by have := zt_60; omega) ?_
          refine w_ic dX9_is_14 zi_0 ?_
          refine w_en dX9_is_15 rfl ?_
          show ZW _ 10 9 false (some .int) cX9_nights _ (17, [some (.ref 386), some (.int a1), some (.int a2), some (.int a3), none, none, none, none, none], [.int 0], zM0)
          refine w_ieq_t dX9_nights_17 (t := 36) rfl (by decide) ?_
          refine w_ic dX9_nights_36 zi_m1 ?_
          refine w_en dX9_nights_37 rfl ?_
          exact ⟨rfl, zU_0.1, zU_0.1⟩
    · skip
      refine w_cgt_t dX8_nights_8 (t := 42) rfl (by have := zt_20; omega) ?_
      refine w_ic dX8_nights_42 zi_m1 ?_
      refine w_en dX8_nights_43 rfl ?_
      refine ⟨_, rfl, ?_⟩
      refine ZV.of (ini := false) rfl (Nat.le_of_ble_eq_true rfl) (by decide +kernel) ?_
      show ZW _ 10 9 false (some .int) cX9_nights _ (0, [some (.ref 386), some (.int a1), some (.int a2), some (.int a3), none, none, none, none, none], [], zM0)
      refine w_lo dX9_nights_0 rfl rfl rfl rfl ?_
      refine w_ic dX9_nights_1 zi_1 ?_
      refine w_bi dX9_nights_2 (c := 20) (by decide) ?_
      refine w_ss dX9_nights_4 rfl rfl (As := [.int a1, .int 1, .int 20]) rfl rfl (Nat.le_of_ble_eq_true rfl) ?_
      refine ZV.of (ini := false) rfl (Nat.le_of_ble_eq_true rfl) (by decide +kernel) ?_
      show ZW _ 9 9 false (some .boolean) cX9_is _ (0, [some (.int a1), some (.int 1), some (.int 20)], [], zM0)
      refine w_lo dX9_is_0 rfl rfl rfl rfl ?_
      refine w_lo dX9_is_1 rfl rfl rfl rfl ?_
      refine w_clt_f dX9_is_2 (t := 14) rfl (by have := zt_1; omega) ?_
      refine w_lo dX9_is_5 rfl rfl rfl rfl ?_
      refine w_lo dX9_is_6 rfl rfl rfl rfl ?_
      refine w_cgt_t dX9_is_7 (t := 14) rfl (by have := zt_20; omega) ?_
      refine w_ic dX9_is_14 zi_0 ?_
      refine w_en dX9_is_15 rfl ?_
      show ZW _ 10 9 false (some .int) cX9_nights _ (7, [some (.ref 386), some (.int a1), some (.int a2), some (.int a3), none, none, none, none, none], [.int 0], zM0)
      refine w_ieq_t dX9_nights_7 (t := 36) rfl (by decide) ?_
      refine w_ic dX9_nights_36 zi_m1 ?_
      refine w_en dX9_nights_37 rfl ?_
      exact ⟨rfl, zU_0.1, zU_0.1⟩
theorem zp_35 (a1 : Int32) : ∃ (v : Int32) (M1 M2 : zM), ZC [] 11 2109 [.ref 0, .int a1] zM0 (some (.int v), M1) ∧ ZC [] 11 2425 [.ref 386, .int a1] M1 (some (.int v), M2) ∧ zSh M1 ∧ zSh M2 := by
  refine zp_of ?_
  refine ZV.of (ini := false) rfl (Nat.le_of_ble_eq_true rfl) (by decide +kernel) ?_
  show ZW _ 10 8 false (some .int) cX8_octet _ (0, [some (.ref 0), some (.int a1)], [], zM0)
  refine w_lo dX8_octet_0 rfl rfl rfl rfl ?_
  rcases zcut a1.toInt (0) with h231 | h231
  · skip
    refine w_ilt_t dX8_octet_1 (t := 12) rfl (by omega) ?_
    refine w_ic dX8_octet_12 zi_m1 ?_
    refine w_gt dX8_octet_13 (t := 22) rfl ?_
    refine w_en dX8_octet_22 rfl ?_
    refine ⟨_, rfl, ?_⟩
    refine ZV.of (ini := false) rfl (Nat.le_of_ble_eq_true rfl) (by decide +kernel) ?_
    show ZW _ 10 9 false (some .int) cX9_octet _ (0, [some (.ref 386), some (.int a1)], [], zM0)
    refine w_lo dX9_octet_0 rfl rfl rfl rfl ?_
    refine w_ic dX9_octet_1 zi_0 ?_
    refine w_lo dX9_octet_2 rfl rfl rfl rfl ?_
    refine w_gf dX9_octet_3 rfl zU_0.1 rfl ((zU_0).2 386 81 rfl |>.trans zq_386_81) ?_
    refine w_ic dX9_octet_6 zi_1 ?_
    refine w_pu (st' := [.int (-1), .int 0, .int a1]) dX9_octet_7 rfl rfl ?_
    refine w_ss dX9_octet_8 rfl rfl (As := [.int a1, .int 0, .int (-1)]) rfl rfl (Nat.le_of_ble_eq_true rfl) ?_
    refine ZV.of (ini := false) rfl (Nat.le_of_ble_eq_true rfl) (by decide +kernel) ?_
    show ZW _ 9 9 false (some .boolean) cX9_is _ (0, [some (.int a1), some (.int 0), some (.int (-1))], [], zM0)
    refine w_lo dX9_is_0 rfl rfl rfl rfl ?_
    refine w_lo dX9_is_1 rfl rfl rfl rfl ?_
    refine w_clt_t dX9_is_2 (t := 14) rfl (by have := zt_0; omega) ?_
    refine w_ic dX9_is_14 zi_0 ?_
    refine w_en dX9_is_15 rfl ?_
    show ZW _ 10 9 false (some .int) cX9_octet _ (11, [some (.ref 386), some (.int a1)], [.int 0], zM0)
    refine w_ieq_t dX9_octet_11 (t := 23) rfl (by decide) ?_
    refine w_ic dX9_octet_23 zi_m1 ?_
    refine w_en dX9_octet_24 rfl ?_
    exact ⟨rfl, zU_0.1, zU_0.1⟩
  · skip
    refine w_ilt_f dX8_octet_1 (t := 12) rfl (by omega) ?_
    refine w_lo dX8_octet_4 rfl rfl rfl rfl ?_
    refine w_lo dX8_octet_5 rfl rfl rfl rfl ?_
    refine w_gf dX8_octet_6 rfl zU_0.1 rfl ((zU_0).2 0 13 rfl |>.trans zq_0_13) ?_
    refine w_clt_f dX8_octet_9 (t := 16) rfl (by have := zt_0; omega) ?_
    refine w_ic dX8_octet_12 zi_m1 ?_
    refine w_gt dX8_octet_13 (t := 22) rfl ?_
    refine w_en dX8_octet_22 rfl ?_
    refine ⟨_, rfl, ?_⟩
    refine ZV.of (ini := false) rfl (Nat.le_of_ble_eq_true rfl) (by decide +kernel) ?_
    show ZW _ 10 9 false (some .int) cX9_octet _ (0, [some (.ref 386), some (.int a1)], [], zM0)
    refine w_lo dX9_octet_0 rfl rfl rfl rfl ?_
    refine w_ic dX9_octet_1 zi_0 ?_
    refine w_lo dX9_octet_2 rfl rfl rfl rfl ?_
    refine w_gf dX9_octet_3 rfl zU_0.1 rfl ((zU_0).2 386 81 rfl |>.trans zq_386_81) ?_
    refine w_ic dX9_octet_6 zi_1 ?_
    refine w_pu (st' := [.int (-1), .int 0, .int a1]) dX9_octet_7 rfl rfl ?_
    refine w_ss dX9_octet_8 rfl rfl (As := [.int a1, .int 0, .int (-1)]) rfl rfl (Nat.le_of_ble_eq_true rfl) ?_
    refine ZV.of (ini := false) rfl (Nat.le_of_ble_eq_true rfl) (by decide +kernel) ?_
    show ZW _ 9 9 false (some .boolean) cX9_is _ (0, [some (.int a1), some (.int 0), some (.int (-1))], [], zM0)
    refine w_lo dX9_is_0 rfl rfl rfl rfl ?_
    refine w_lo dX9_is_1 rfl rfl rfl rfl ?_
    refine w_clt_f dX9_is_2 (t := 14) rfl (by have := zt_0; omega) ?_
    refine w_lo dX9_is_5 rfl rfl rfl rfl ?_
    refine w_lo dX9_is_6 rfl rfl rfl rfl ?_
    refine w_cgt_t dX9_is_7 (t := 14) rfl (by have := zt_m1; omega) ?_
    refine w_ic dX9_is_14 zi_0 ?_
    refine w_en dX9_is_15 rfl ?_
    show ZW _ 10 9 false (some .int) cX9_octet _ (11, [some (.ref 386), some (.int a1)], [.int 0], zM0)
    refine w_ieq_t dX9_octet_11 (t := 23) rfl (by decide) ?_
    refine w_ic dX9_octet_23 zi_m1 ?_
    refine w_en dX9_octet_24 rfl ?_
    exact ⟨rfl, zU_0.1, zU_0.1⟩
theorem zp_37 (a1 : Int32) : ∃ (v : Int32) (M1 M2 : zM), ZC [] 11 2113 [.ref 0, .int a1] zM0 (some (.int v), M1) ∧ ZC [] 11 2344 [.ref 386, .int a1] M1 (some (.int v), M2) ∧ zSh M1 ∧ zSh M2 := by
  refine zp_of ?_
  refine ZV.of (ini := false) rfl (Nat.le_of_ble_eq_true rfl) (by decide +kernel) ?_
  show ZW _ 10 8 false (some .int) cX8_status _ (0, [some (.ref 0), some (.int a1)], [], zM0)
  refine w_lo dX8_status_0 rfl rfl rfl rfl ?_
  rcases zcut a1.toInt (0) with h232 | h232
  · skip
    refine w_ilt_t dX8_status_1 (t := 10) rfl (by omega) ?_
    refine w_ic dX8_status_10 zi_m1 ?_
    refine w_gt dX8_status_11 (t := 20) rfl ?_
    refine w_en dX8_status_20 rfl ?_
    refine ⟨_, rfl, ?_⟩
    refine ZV.of (ini := false) rfl (Nat.le_of_ble_eq_true rfl) (by decide +kernel) ?_
    show ZW _ 10 9 false (some .int) cX9_status _ (0, [some (.ref 386), some (.int a1)], [], zM0)
    refine w_lo dX9_status_0 rfl rfl rfl rfl ?_
    refine w_ic dX9_status_1 zi_0 ?_
    refine w_ic dX9_status_2 zi_5 ?_
    refine w_ss dX9_status_3 rfl rfl (As := [.int a1, .int 0, .int 5]) rfl rfl (Nat.le_of_ble_eq_true rfl) ?_
    refine ZV.of (ini := false) rfl (Nat.le_of_ble_eq_true rfl) (by decide +kernel) ?_
    show ZW _ 9 9 false (some .boolean) cX9_is _ (0, [some (.int a1), some (.int 0), some (.int 5)], [], zM0)
    refine w_lo dX9_is_0 rfl rfl rfl rfl ?_
    refine w_lo dX9_is_1 rfl rfl rfl rfl ?_
    refine w_clt_t dX9_is_2 (t := 14) rfl (by have := zt_0; omega) ?_
    refine w_ic dX9_is_14 zi_0 ?_
    refine w_en dX9_is_15 rfl ?_
    show ZW _ 10 9 false (some .int) cX9_status _ (6, [some (.ref 386), some (.int a1)], [.int 0], zM0)
    refine w_ieq_t dX9_status_6 (t := 18) rfl (by decide) ?_
    refine w_ic dX9_status_18 zi_m1 ?_
    refine w_en dX9_status_19 rfl ?_
    exact ⟨rfl, zU_0.1, zU_0.1⟩
  · skip
    refine w_ilt_f dX8_status_1 (t := 10) rfl (by omega) ?_
    refine w_lo dX8_status_4 rfl rfl rfl rfl ?_
    refine w_bi dX8_status_5 (c := 6) (by decide) ?_
    rcases zcut a1.toInt (6) with h233 | h233
    · skip
      refine w_clt_t dX8_status_7 (t := 14) rfl (by have := zt_6; omega) ?_
      refine w_lo dX8_status_14 rfl rfl rfl rfl ?_
      refine w_gf dX8_status_15 rfl zU_0.1 rfl ((zU_0).2 0 14 rfl |>.trans zq_0_14) ?_
      refine w_lo dX8_status_18 rfl rfl rfl rfl ?_
      rcases zcut a1.toInt (1) with h234 | h234
      · skip
        have ea1 : a1 = 0 := zpt (n := 0) zt_0 (by omega)
        subst ea1
        refine w_ia dX8_status_19 zU_0.1 rfl (k := 0) zt_0 ((zU_0).2 385 0 rfl |>.trans zq_385_0) ?_
        refine w_en dX8_status_20 rfl ?_
        refine ⟨_, rfl, ?_⟩
        refine ZV.of (ini := false) rfl (Nat.le_of_ble_eq_true rfl) (by decide +kernel) ?_
        show ZW _ 10 9 false (some .int) cX9_status _ (0, [some (.ref 386), some (.int 0)], [], zM0)
        refine w_lo dX9_status_0 rfl rfl rfl rfl ?_
        refine w_ic dX9_status_1 zi_0 ?_
        refine w_ic dX9_status_2 zi_5 ?_
        refine w_ss dX9_status_3 rfl rfl (As := [.int 0, .int 0, .int 5]) rfl rfl (Nat.le_of_ble_eq_true rfl) ?_
        refine ZV.of (ini := false) rfl (Nat.le_of_ble_eq_true rfl) (by decide +kernel) ?_
        show ZW _ 9 9 false (some .boolean) cX9_is _ (0, [some (.int 0), some (.int 0), some (.int 5)], [], zM0)
        refine w_lo dX9_is_0 rfl rfl rfl rfl ?_
        refine w_lo dX9_is_1 rfl rfl rfl rfl ?_
        refine w_clt_f dX9_is_2 (t := 14) rfl (by decide) ?_
        refine w_lo dX9_is_5 rfl rfl rfl rfl ?_
        refine w_lo dX9_is_6 rfl rfl rfl rfl ?_
        refine w_cgt_f dX9_is_7 (t := 14) rfl (by decide) ?_
        refine w_ic dX9_is_10 zi_1 ?_
        refine w_gt dX9_is_11 (t := 15) rfl ?_
        refine w_en dX9_is_15 rfl ?_
        show ZW _ 10 9 false (some .int) cX9_status _ (6, [some (.ref 386), some (.int 0)], [.int 1], zM0)
        refine w_ieq_f dX9_status_6 (t := 18) rfl (by decide) ?_
        refine w_lo dX9_status_9 rfl rfl rfl rfl ?_
        refine w_gf dX9_status_10 rfl zU_0.1 rfl ((zU_0).2 386 46 rfl |>.trans zq_386_46) ?_
        refine w_lo dX9_status_13 rfl rfl rfl rfl ?_
        refine w_ia dX9_status_14 zU_0.1 rfl (k := 0) zt_0 ((zU_0).2 415 0 rfl |>.trans zq_415_0) ?_
        refine w_gt dX9_status_15 (t := 19) rfl ?_
        refine w_en dX9_status_19 rfl ?_
        exact ⟨rfl, zU_0.1, zU_0.1⟩
      · skip
        rcases zcut a1.toInt (2) with h235 | h235
        · skip
          have ea1 : a1 = 1 := zpt (n := 1) zt_1 (by omega)
          subst ea1
          refine w_ia dX8_status_19 zU_0.1 rfl (k := 1) zt_1 ((zU_0).2 385 1 rfl |>.trans zq_385_1) ?_
          refine w_en dX8_status_20 rfl ?_
          refine ⟨_, rfl, ?_⟩
          refine ZV.of (ini := false) rfl (Nat.le_of_ble_eq_true rfl) (by decide +kernel) ?_
          show ZW _ 10 9 false (some .int) cX9_status _ (0, [some (.ref 386), some (.int 1)], [], zM0)
          refine w_lo dX9_status_0 rfl rfl rfl rfl ?_
          refine w_ic dX9_status_1 zi_0 ?_
          refine w_ic dX9_status_2 zi_5 ?_
          refine w_ss dX9_status_3 rfl rfl (As := [.int 1, .int 0, .int 5]) rfl rfl (Nat.le_of_ble_eq_true rfl) ?_
          refine ZV.of (ini := false) rfl (Nat.le_of_ble_eq_true rfl) (by decide +kernel) ?_
          show ZW _ 9 9 false (some .boolean) cX9_is _ (0, [some (.int 1), some (.int 0), some (.int 5)], [], zM0)
          refine w_lo dX9_is_0 rfl rfl rfl rfl ?_
          refine w_lo dX9_is_1 rfl rfl rfl rfl ?_
          refine w_clt_f dX9_is_2 (t := 14) rfl (by decide) ?_
          refine w_lo dX9_is_5 rfl rfl rfl rfl ?_
          refine w_lo dX9_is_6 rfl rfl rfl rfl ?_
          refine w_cgt_f dX9_is_7 (t := 14) rfl (by decide) ?_
          refine w_ic dX9_is_10 zi_1 ?_
          refine w_gt dX9_is_11 (t := 15) rfl ?_
          refine w_en dX9_is_15 rfl ?_
          show ZW _ 10 9 false (some .int) cX9_status _ (6, [some (.ref 386), some (.int 1)], [.int 1], zM0)
          refine w_ieq_f dX9_status_6 (t := 18) rfl (by decide) ?_
          refine w_lo dX9_status_9 rfl rfl rfl rfl ?_
          refine w_gf dX9_status_10 rfl zU_0.1 rfl ((zU_0).2 386 46 rfl |>.trans zq_386_46) ?_
          refine w_lo dX9_status_13 rfl rfl rfl rfl ?_
          refine w_ia dX9_status_14 zU_0.1 rfl (k := 1) zt_1 ((zU_0).2 415 1 rfl |>.trans zq_415_1) ?_
          refine w_gt dX9_status_15 (t := 19) rfl ?_
          refine w_en dX9_status_19 rfl ?_
          exact ⟨rfl, zU_0.1, zU_0.1⟩
        · skip
          rcases zcut a1.toInt (3) with h236 | h236
          · skip
            have ea1 : a1 = 2 := zpt (n := 2) zt_2 (by omega)
            subst ea1
            refine w_ia dX8_status_19 zU_0.1 rfl (k := 2) zt_2 ((zU_0).2 385 2 rfl |>.trans zq_385_2) ?_
            refine w_en dX8_status_20 rfl ?_
            refine ⟨_, rfl, ?_⟩
            refine ZV.of (ini := false) rfl (Nat.le_of_ble_eq_true rfl) (by decide +kernel) ?_
            show ZW _ 10 9 false (some .int) cX9_status _ (0, [some (.ref 386), some (.int 2)], [], zM0)
            refine w_lo dX9_status_0 rfl rfl rfl rfl ?_
            refine w_ic dX9_status_1 zi_0 ?_
            refine w_ic dX9_status_2 zi_5 ?_
            refine w_ss dX9_status_3 rfl rfl (As := [.int 2, .int 0, .int 5]) rfl rfl (Nat.le_of_ble_eq_true rfl) ?_
            refine ZV.of (ini := false) rfl (Nat.le_of_ble_eq_true rfl) (by decide +kernel) ?_
            show ZW _ 9 9 false (some .boolean) cX9_is _ (0, [some (.int 2), some (.int 0), some (.int 5)], [], zM0)
            refine w_lo dX9_is_0 rfl rfl rfl rfl ?_
            refine w_lo dX9_is_1 rfl rfl rfl rfl ?_
            refine w_clt_f dX9_is_2 (t := 14) rfl (by decide) ?_
            refine w_lo dX9_is_5 rfl rfl rfl rfl ?_
            refine w_lo dX9_is_6 rfl rfl rfl rfl ?_
            refine w_cgt_f dX9_is_7 (t := 14) rfl (by decide) ?_
            refine w_ic dX9_is_10 zi_1 ?_
            refine w_gt dX9_is_11 (t := 15) rfl ?_
            refine w_en dX9_is_15 rfl ?_
            show ZW _ 10 9 false (some .int) cX9_status _ (6, [some (.ref 386), some (.int 2)], [.int 1], zM0)
            refine w_ieq_f dX9_status_6 (t := 18) rfl (by decide) ?_
            refine w_lo dX9_status_9 rfl rfl rfl rfl ?_
            refine w_gf dX9_status_10 rfl zU_0.1 rfl ((zU_0).2 386 46 rfl |>.trans zq_386_46) ?_
            refine w_lo dX9_status_13 rfl rfl rfl rfl ?_
            refine w_ia dX9_status_14 zU_0.1 rfl (k := 2) zt_2 ((zU_0).2 415 2 rfl |>.trans zq_415_2) ?_
            refine w_gt dX9_status_15 (t := 19) rfl ?_
            refine w_en dX9_status_19 rfl ?_
            exact ⟨rfl, zU_0.1, zU_0.1⟩
          · skip
            rcases zcut a1.toInt (4) with h237 | h237
            · skip
              have ea1 : a1 = 3 := zpt (n := 3) zt_3 (by omega)
              subst ea1
              refine w_ia dX8_status_19 zU_0.1 rfl (k := 3) zt_3 ((zU_0).2 385 3 rfl |>.trans zq_385_3) ?_
              refine w_en dX8_status_20 rfl ?_
              refine ⟨_, rfl, ?_⟩
              refine ZV.of (ini := false) rfl (Nat.le_of_ble_eq_true rfl) (by decide +kernel) ?_
              show ZW _ 10 9 false (some .int) cX9_status _ (0, [some (.ref 386), some (.int 3)], [], zM0)
              refine w_lo dX9_status_0 rfl rfl rfl rfl ?_
              refine w_ic dX9_status_1 zi_0 ?_
              refine w_ic dX9_status_2 zi_5 ?_
              refine w_ss dX9_status_3 rfl rfl (As := [.int 3, .int 0, .int 5]) rfl rfl (Nat.le_of_ble_eq_true rfl) ?_
              refine ZV.of (ini := false) rfl (Nat.le_of_ble_eq_true rfl) (by decide +kernel) ?_
              show ZW _ 9 9 false (some .boolean) cX9_is _ (0, [some (.int 3), some (.int 0), some (.int 5)], [], zM0)
              refine w_lo dX9_is_0 rfl rfl rfl rfl ?_
              refine w_lo dX9_is_1 rfl rfl rfl rfl ?_
              refine w_clt_f dX9_is_2 (t := 14) rfl (by decide) ?_
              refine w_lo dX9_is_5 rfl rfl rfl rfl ?_
              refine w_lo dX9_is_6 rfl rfl rfl rfl ?_
              refine w_cgt_f dX9_is_7 (t := 14) rfl (by decide) ?_
              refine w_ic dX9_is_10 zi_1 ?_
              refine w_gt dX9_is_11 (t := 15) rfl ?_
              refine w_en dX9_is_15 rfl ?_
              show ZW _ 10 9 false (some .int) cX9_status _ (6, [some (.ref 386), some (.int 3)], [.int 1], zM0)
              refine w_ieq_f dX9_status_6 (t := 18) rfl (by decide) ?_
              refine w_lo dX9_status_9 rfl rfl rfl rfl ?_
              refine w_gf dX9_status_10 rfl zU_0.1 rfl ((zU_0).2 386 46 rfl |>.trans zq_386_46) ?_
              refine w_lo dX9_status_13 rfl rfl rfl rfl ?_
              refine w_ia dX9_status_14 zU_0.1 rfl (k := 3) zt_3 ((zU_0).2 415 3 rfl |>.trans zq_415_3) ?_
              refine w_gt dX9_status_15 (t := 19) rfl ?_
              refine w_en dX9_status_19 rfl ?_
              exact ⟨rfl, zU_0.1, zU_0.1⟩
            · skip
              rcases zcut a1.toInt (5) with h238 | h238
              · skip
                have ea1 : a1 = 4 := zpt (n := 4) zt_4 (by omega)
                subst ea1
                refine w_ia dX8_status_19 zU_0.1 rfl (k := 4) zt_4 ((zU_0).2 385 4 rfl |>.trans zq_385_4) ?_
                refine w_en dX8_status_20 rfl ?_
                refine ⟨_, rfl, ?_⟩
                refine ZV.of (ini := false) rfl (Nat.le_of_ble_eq_true rfl) (by decide +kernel) ?_
                show ZW _ 10 9 false (some .int) cX9_status _ (0, [some (.ref 386), some (.int 4)], [], zM0)
                refine w_lo dX9_status_0 rfl rfl rfl rfl ?_
                refine w_ic dX9_status_1 zi_0 ?_
                refine w_ic dX9_status_2 zi_5 ?_
                refine w_ss dX9_status_3 rfl rfl (As := [.int 4, .int 0, .int 5]) rfl rfl (Nat.le_of_ble_eq_true rfl) ?_
                refine ZV.of (ini := false) rfl (Nat.le_of_ble_eq_true rfl) (by decide +kernel) ?_
                show ZW _ 9 9 false (some .boolean) cX9_is _ (0, [some (.int 4), some (.int 0), some (.int 5)], [], zM0)
                refine w_lo dX9_is_0 rfl rfl rfl rfl ?_
                refine w_lo dX9_is_1 rfl rfl rfl rfl ?_
                refine w_clt_f dX9_is_2 (t := 14) rfl (by decide) ?_
                refine w_lo dX9_is_5 rfl rfl rfl rfl ?_
                refine w_lo dX9_is_6 rfl rfl rfl rfl ?_
                refine w_cgt_f dX9_is_7 (t := 14) rfl (by decide) ?_
                refine w_ic dX9_is_10 zi_1 ?_
                refine w_gt dX9_is_11 (t := 15) rfl ?_
                refine w_en dX9_is_15 rfl ?_
                show ZW _ 10 9 false (some .int) cX9_status _ (6, [some (.ref 386), some (.int 4)], [.int 1], zM0)
                refine w_ieq_f dX9_status_6 (t := 18) rfl (by decide) ?_
                refine w_lo dX9_status_9 rfl rfl rfl rfl ?_
                refine w_gf dX9_status_10 rfl zU_0.1 rfl ((zU_0).2 386 46 rfl |>.trans zq_386_46) ?_
                refine w_lo dX9_status_13 rfl rfl rfl rfl ?_
                refine w_ia dX9_status_14 zU_0.1 rfl (k := 4) zt_4 ((zU_0).2 415 4 rfl |>.trans zq_415_4) ?_
                refine w_gt dX9_status_15 (t := 19) rfl ?_
                refine w_en dX9_status_19 rfl ?_
                exact ⟨rfl, zU_0.1, zU_0.1⟩
              · skip
                have ea1 : a1 = 5 := zpt (n := 5) zt_5 (by omega)
                subst ea1
                refine w_ia dX8_status_19 zU_0.1 rfl (k := 5) zt_5 ((zU_0).2 385 5 rfl |>.trans zq_385_5) ?_
                refine w_en dX8_status_20 rfl ?_
                refine ⟨_, rfl, ?_⟩
                refine ZV.of (ini := false) rfl (Nat.le_of_ble_eq_true rfl) (by decide +kernel) ?_
                show ZW _ 10 9 false (some .int) cX9_status _ (0, [some (.ref 386), some (.int 5)], [], zM0)
                refine w_lo dX9_status_0 rfl rfl rfl rfl ?_
                refine w_ic dX9_status_1 zi_0 ?_
                refine w_ic dX9_status_2 zi_5 ?_
                refine w_ss dX9_status_3 rfl rfl (As := [.int 5, .int 0, .int 5]) rfl rfl (Nat.le_of_ble_eq_true rfl) ?_
                refine ZV.of (ini := false) rfl (Nat.le_of_ble_eq_true rfl) (by decide +kernel) ?_
                show ZW _ 9 9 false (some .boolean) cX9_is _ (0, [some (.int 5), some (.int 0), some (.int 5)], [], zM0)
                refine w_lo dX9_is_0 rfl rfl rfl rfl ?_
                refine w_lo dX9_is_1 rfl rfl rfl rfl ?_
                refine w_clt_f dX9_is_2 (t := 14) rfl (by decide) ?_
                refine w_lo dX9_is_5 rfl rfl rfl rfl ?_
                refine w_lo dX9_is_6 rfl rfl rfl rfl ?_
                refine w_cgt_f dX9_is_7 (t := 14) rfl (by decide) ?_
                refine w_ic dX9_is_10 zi_1 ?_
                refine w_gt dX9_is_11 (t := 15) rfl ?_
                refine w_en dX9_is_15 rfl ?_
                show ZW _ 10 9 false (some .int) cX9_status _ (6, [some (.ref 386), some (.int 5)], [.int 1], zM0)
                refine w_ieq_f dX9_status_6 (t := 18) rfl (by decide) ?_
                refine w_lo dX9_status_9 rfl rfl rfl rfl ?_
                refine w_gf dX9_status_10 rfl zU_0.1 rfl ((zU_0).2 386 46 rfl |>.trans zq_386_46) ?_
                refine w_lo dX9_status_13 rfl rfl rfl rfl ?_
                refine w_ia dX9_status_14 zU_0.1 rfl (k := 5) zt_5 ((zU_0).2 415 5 rfl |>.trans zq_415_5) ?_
                refine w_gt dX9_status_15 (t := 19) rfl ?_
                refine w_en dX9_status_19 rfl ?_
                exact ⟨rfl, zU_0.1, zU_0.1⟩
    · skip
      refine w_clt_f dX8_status_7 (t := 14) rfl (by have := zt_6; omega) ?_
      refine w_ic dX8_status_10 zi_m1 ?_
      refine w_gt dX8_status_11 (t := 20) rfl ?_
      refine w_en dX8_status_20 rfl ?_
      refine ⟨_, rfl, ?_⟩
      refine ZV.of (ini := false) rfl (Nat.le_of_ble_eq_true rfl) (by decide +kernel) ?_
      show ZW _ 10 9 false (some .int) cX9_status _ (0, [some (.ref 386), some (.int a1)], [], zM0)
      refine w_lo dX9_status_0 rfl rfl rfl rfl ?_
      refine w_ic dX9_status_1 zi_0 ?_
      refine w_ic dX9_status_2 zi_5 ?_
      refine w_ss dX9_status_3 rfl rfl (As := [.int a1, .int 0, .int 5]) rfl rfl (Nat.le_of_ble_eq_true rfl) ?_
      refine ZV.of (ini := false) rfl (Nat.le_of_ble_eq_true rfl) (by decide +kernel) ?_
      show ZW _ 9 9 false (some .boolean) cX9_is _ (0, [some (.int a1), some (.int 0), some (.int 5)], [], zM0)
      refine w_lo dX9_is_0 rfl rfl rfl rfl ?_
      refine w_lo dX9_is_1 rfl rfl rfl rfl ?_
      refine w_clt_f dX9_is_2 (t := 14) rfl (by have := zt_0; omega) ?_
      refine w_lo dX9_is_5 rfl rfl rfl rfl ?_
      refine w_lo dX9_is_6 rfl rfl rfl rfl ?_
      refine w_cgt_t dX9_is_7 (t := 14) rfl (by have := zt_5; omega) ?_
      refine w_ic dX9_is_14 zi_0 ?_
      refine w_en dX9_is_15 rfl ?_
      show ZW _ 10 9 false (some .int) cX9_status _ (6, [some (.ref 386), some (.int a1)], [.int 0], zM0)
      refine w_ieq_t dX9_status_6 (t := 18) rfl (by decide) ?_
      refine w_ic dX9_status_18 zi_m1 ?_
      refine w_en dX9_status_19 rfl ?_
      exact ⟨rfl, zU_0.1, zU_0.1⟩
