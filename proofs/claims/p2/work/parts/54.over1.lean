/-! the reference's methods over private stubs (wip/safe/mks2.py) -/
theorem k_2371 {X : List Int32} {d N : Nat} {M0 : zM} (a0 : Int32) (ha00 : (0 : Int) ≤ a0.toInt) (ha01 : a0.toInt ≤ 1600) (a1 : Int32) (ha10 : (0 : Int) ≤ a1.toInt) (ha11 : a1.toInt ≤ 1600) (hN : N ≤ 600) (hB0 : zB N M0) : ZV X (d + 3) 2371 [.ref 386, .int a0, .int a1] M0 (zRG N [(416, 417, 1000)] M0 (fun _ _ => True)) := by
  sorry
theorem k_2328 {X : List Int32} {d N : Nat} {M0 : zM} (a0 : Int32) (ha00 : (0 : Int) ≤ a0.toInt) (ha01 : a0.toInt ≤ 1) (sz : Int32) (hfsz : zvl M0 (386) 2 = some (.int sz)) (hrsz0 : 0 ≤ sz.toInt) (hrsz1 : sz.toInt ≤ 1600) (sg : Int32) (hfsg : zvl M0 (386) 3 = some (.int sg)) (hrsg0 : 0 ≤ sg.toInt) (hrsg1 : sg.toInt ≤ 3) (se : Int32) (hfse : zvl M0 (386) 5 = some (.int se)) (hrse0 : 0 ≤ se.toInt) (hrse1 : se.toInt ≤ sz.toInt) (fk : Int32) (hffk : zvl M0 (386) 8 = some (.int fk)) (hrfk0 : 0 ≤ fk.toInt) (hrfk1 : fk.toInt ≤ 5) (hN : N ≤ 600) (hB0 : zB N M0) : ZV X (d + 5) 2328 [.ref 386, .int a0] M0 (zRV N [(407, 415, 1000), (386, 387, 3), (386, 387, 34), (386, 387, 4), (386, 387, 41), (386, 387, 42), (386, 387, 44), (386, 387, 45), (386, 387, 5), (386, 387, 6), (386, 387, 7), (386, 387, 8), (386, 387, 9)] M0 (fun M' => (∃ nz : Int32, zvl M' (386) 2 = some (.int nz) ∧ (nz.toInt = sz.toInt) ∧ (∃ ng : Int32, zvl M' (386) 3 = some (.int ng) ∧ (0 ≤ ng.toInt) ∧ (ng.toInt ≤ 3) ∧ (∃ ne : Int32, zvl M' (386) 5 = some (.int ne) ∧ (se.toInt ≤ ne.toInt) ∧ (ne.toInt ≤ sz.toInt) ∧ (4 * (sz.toInt - ne.toInt) + ng.toInt ≤ 4 * (sz.toInt - se.toInt) + sg.toInt) ∧ (∃ nk : Int32, zvl M' (386) 8 = some (.int nk) ∧ (fk.toInt ≤ nk.toInt) ∧ (nk.toInt ≤ 5) ∧ True)))))) := by
  sorry
theorem k_2389 {X : List Int32} {d N : Nat} {M0 : zM}  (hN : N ≤ 600) (hB0 : zB N M0) : ZV X (d + 2) 2389 [.ref 386] M0 (zRI N [(386, 387, 66)] M0 (0) (5) (fun _ _ => True)) := by
  sorry
set_option maxRecDepth 100000 in
theorem k_2327 {X : List Int32} {d N : Nat} {M0 : zM} (a0 : Int32) (ha00 : (0 : Int) ≤ a0.toInt) (ha01 : a0.toInt ≤ 1) (sz : Int32) (hfsz : zvl M0 (386) 2 = some (.int sz)) (hrsz0 : 0 ≤ sz.toInt) (hrsz1 : sz.toInt ≤ 1600) (sg : Int32) (hfsg : zvl M0 (386) 3 = some (.int sg)) (hrsg0 : 0 ≤ sg.toInt) (hrsg1 : sg.toInt ≤ 3) (se : Int32) (hfse : zvl M0 (386) 5 = some (.int se)) (hrse0 : 0 ≤ se.toInt) (hrse1 : se.toInt ≤ sz.toInt) (fk : Int32) (hffk : zvl M0 (386) 8 = some (.int fk)) (hrfk0 : 0 ≤ fk.toInt) (hrfk1 : fk.toInt ≤ 5) (hN : N ≤ 600) (hB0 : zB N M0) : ZV X (d + 6) 2327 [.ref 386, .int a0] M0 (zRV N [(402, 415, 1000), (386, 387, 3), (386, 387, 34), (386, 387, 4), (386, 387, 41), (386, 387, 42), (386, 387, 44), (386, 387, 45), (386, 387, 5), (386, 387, 6), (386, 387, 7), (386, 387, 8), (386, 387, 9)] M0 (fun M' => (∃ nz : Int32, zvl M' (386) 2 = some (.int nz) ∧ (nz.toInt = sz.toInt) ∧ (∃ ng : Int32, zvl M' (386) 3 = some (.int ng) ∧ (0 ≤ ng.toInt) ∧ (ng.toInt ≤ 3) ∧ (∃ ne : Int32, zvl M' (386) 5 = some (.int ne) ∧ (se.toInt ≤ ne.toInt) ∧ (ne.toInt ≤ sz.toInt) ∧ (4 * (sz.toInt - ne.toInt) + ng.toInt ≤ 4 * (sz.toInt - se.toInt) + sg.toInt) ∧ (∃ nk : Int32, zvl M' (386) 8 = some (.int nk) ∧ (fk.toInt ≤ nk.toInt) ∧ (nk.toInt ≤ 5) ∧ (1 ≤ nk.toInt ∨ sg.toInt = 0 ∨ 4 * (sz.toInt - ne.toInt) + ng.toInt + 1 ≤ 4 * (sz.toInt - se.toInt) + sg.toInt) ∧ True)))))) := by
  have hJ0 : zJ N [(402, 415, 1000), (386, 387, 3), (386, 387, 34), (386, 387, 4), (386, 387, 41), (386, 387, 42), (386, 387, 44), (386, 387, 45), (386, 387, 5), (386, 387, 6), (386, 387, 7), (386, 387, 8), (386, 387, 9)] M0 M0 := zJ_refl hB0
  refine ZV.of (ini := false) rfl (Nat.le_of_ble_eq_true rfl) (by decide +kernel) ?_
  show ZW _ _ _ _ _ _ _ (0, [some (.ref 386), some (.int a0), none], [], M0)
  refine w_lo dX9_lawing_0 rfl rfl rfl rfl ?_
  refine w_lo dX9_lawing_1 rfl rfl rfl rfl ?_
  refine w_gf dX9_lawing_2 rfl hJ0.1.1 zs_386 (zr_386_27 hJ0.1) ?_
  refine w_lo dX9_lawing_5 rfl rfl rfl rfl ?_
  refine w_gfi dX9_lawing_6 rfl hJ0.1 zs_386 (Nat.le_of_ble_eq_true rfl) zo_386_35 ?_
  intro x1 f2 h3 h4
  refine w_iai dX9_lawing_9 hJ0.1 zs_402 (by omega) (by omega) zu_402 ?_
  intro x8 f5 h6 h7
  refine w_bi dX9_lawing_10 (c := 8) (by decide) ?_
  rcases Int.decEq x8.toInt (8 : Int) with h9 | h9
  · skip
    refine w_cne_t dX9_lawing_12 (t := 19) rfl (by have := zt_8; omega) ?_
    refine w_ic dX9_lawing_19 zi_0 ?_
    refine w_iv dX9_lawing_20 rfl rfl (As := [.int 0]) rfl rfl hJ0.1.1 zs_386 (Nat.le_of_ble_eq_true rfl) ?_
    refine ZV.of (ini := false) rfl (Nat.le_of_ble_eq_true rfl) (by decide +kernel) ?_
    show ZW _ _ _ _ _ _ _ (0, [some (.ref 386), some (.int 0)], [], M0)
    refine w_lo dX9_counts_0 rfl rfl rfl rfl ?_
    refine w_gf dX9_counts_1 rfl hJ0.1.1 zs_386 hffk ?_
    rcases Int.decEq fk.toInt (0 : Int) with h10 | h10
    · skip
      refine w_ine_t dX9_counts_4 (t := 20) rfl (by omega) ?_
      refine w_lo dX9_counts_20 rfl rfl rfl rfl ?_
      refine w_gf dX9_counts_21 rfl hJ0.1.1 zs_386 hffk ?_
      refine w_ine_t dX9_counts_24 (t := 31) rfl (by omega) ?_
      refine w_lo dX9_counts_31 rfl rfl rfl rfl ?_
      refine w_gf dX9_counts_32 rfl hJ0.1.1 zs_386 hffk ?_
      refine w_ine_t dX9_counts_35 (t := 42) rfl (by omega) ?_
      refine w_ic dX9_counts_42 zi_0 ?_
      refine w_en dX9_counts_43 rfl ?_
      show ZW _ _ _ _ _ _ _ (23, [some (.ref 386), some (.int a0), none], [.int 0], M0)
      refine w_ine_f dX9_lawing_23 (t := 27) rfl (by have := zt_0; omega) ?_
      refine w_en dX9_lawing_26 rfl ?_
      exact ⟨_, rfl, hJ0, ⟨sz, hfsz, (by omega), sg, hfsg, (by omega), (by omega), se, hfse, (by omega), (by omega), (by omega), fk, hffk, (by omega), (by omega), (by omega), trivial⟩⟩
    · skip
      refine w_ine_f dX9_counts_4 (t := 20) rfl (by omega) ?_
      refine w_lo dX9_counts_7 rfl rfl rfl rfl ?_
      refine w_ieq_t dX9_counts_8 (t := 20) rfl (by have := zt_0; omega) ?_
      refine w_lo dX9_counts_20 rfl rfl rfl rfl ?_
      refine w_gf dX9_counts_21 rfl hJ0.1.1 zs_386 hffk ?_
      refine w_ine_f dX9_counts_24 (t := 31) rfl (by omega) ?_
      refine w_lo dX9_counts_27 rfl rfl rfl rfl ?_
      refine w_iv dX9_counts_28 rfl rfl (As := []) rfl rfl hJ0.1.1 zs_386 (Nat.le_of_ble_eq_true rfl) ?_
      refine ZV.imp (k_2310 sz hfsz (by omega) (by omega) sg hfsg (by omega) (by omega) se hfse (by omega) (by omega) fk hffk (by omega) (by omega) hN hJ0.1) ?_
      rintro _ ⟨M11, rfl, hJ12, hq13⟩
      have hJ14 := zJ_trans hJ0 hJ12 (zSub_cons (fun _ _ h h' hk => zIR_s (zIR_e (by omega) (by omega) hk)) (zSub_cons (fun _ _ h h' hk => zIR_s (zIR_s (zIR_s (zIR_e (by omega) (by omega) hk)))) (zSub_cons (fun _ _ h h' hk => zIR_s (zIR_s (zIR_s (zIR_s (zIR_s (zIR_s (zIR_s (zIR_s (zIR_e (by omega) (by omega) hk))))))))) (zSub_cons (fun _ _ h h' hk => zIR_s (zIR_s (zIR_s (zIR_s (zIR_s (zIR_s (zIR_s (zIR_s (zIR_s (zIR_e (by omega) (by omega) hk)))))))))) (zSub_cons (fun _ _ h h' hk => zIR_s (zIR_s (zIR_s (zIR_s (zIR_s (zIR_s (zIR_s (zIR_s (zIR_s (zIR_s (zIR_e (by omega) (by omega) hk))))))))))) (zSub_cons (fun _ _ h h' hk => zIR_s (zIR_s (zIR_s (zIR_s (zIR_s (zIR_s (zIR_s (zIR_s (zIR_s (zIR_s (zIR_s (zIR_e (by omega) (by omega) hk)))))))))))) (zSub_cons (fun _ _ h h' hk => zIR_s (zIR_s (zIR_s (zIR_s (zIR_s (zIR_s (zIR_s (zIR_s (zIR_s (zIR_s (zIR_s (zIR_s (zIR_e (by omega) (by omega) hk))))))))))))) zSub_nil)))))))
      obtain ⟨x15, f16, h17, x18, f19, h20, h21, x22, f23, h24, h25, x26, f27, h28, h29, h30, x31, f32, h33, h34, -⟩ := hq13
      show ZW _ _ _ _ _ _ _ (31, [some (.ref 386), some (.int 0)], [], M11)
      refine w_lo dX9_counts_31 rfl rfl rfl rfl ?_
      refine w_gf dX9_counts_32 rfl hJ14.1.1 zs_386 f32 ?_
      rcases Int.decEq x31.toInt (0 : Int) with h35 | h35
      · skip
        refine w_ine_t dX9_counts_35 (t := 42) rfl (by omega) ?_
        refine w_ic dX9_counts_42 zi_0 ?_
        refine w_en dX9_counts_43 rfl ?_
        show ZW _ _ _ _ _ _ _ (23, [some (.ref 386), some (.int a0), none], [.int 0], M11)
        refine w_ine_f dX9_lawing_23 (t := 27) rfl (by have := zt_0; omega) ?_
        refine w_en dX9_lawing_26 rfl ?_
        exact ⟨_, rfl, hJ14, ⟨x15, f16, (by omega), x18, f19, (by omega), (by omega), x26, f27, (by omega), (by omega), (by omega), x31, f32, (by omega), (by omega), (by omega), trivial⟩⟩
      · skip
        refine w_ine_f dX9_counts_35 (t := 42) rfl (by omega) ?_
        refine w_ic dX9_counts_38 zi_1 ?_
        refine w_gt dX9_counts_39 (t := 43) rfl ?_
        refine w_en dX9_counts_43 rfl ?_
        show ZW _ _ _ _ _ _ _ (23, [some (.ref 386), some (.int a0), none], [.int 1], M11)
        refine w_ine_t dX9_lawing_23 (t := 27) rfl (by have := zt_1; omega) ?_
        refine w_bi dX9_lawing_27 (c := 8) (by decide) ?_
        refine w_lo dX9_lawing_29 rfl rfl rfl rfl ?_
        have f36 := (hJ12.2 (386) 35 (zNI_k (by decide) (by decide) (zNI_k (by decide) (by decide) (zNI_k (by decide) (by decide) (zNI_k (by decide) (by decide) (zNI_k (by decide) (by decide) (zNI_k (by decide) (by decide) (zNI_k (by decide) (by decide) zNI_nil)))))))).trans (f2)
        refine w_gf dX9_lawing_30 rfl hJ14.1.1 zs_386 f36 ?_
        refine w_mulc dX9_lawing_33 zt_8 (by have := zt_8; omega) ?_
        intro x37 h38
        have := zt_8
        refine w_lo dX9_lawing_34 rfl rfl rfl rfl ?_
        refine w_gf dX9_lawing_35 rfl hJ14.1.1 zs_386 (zr_386_27 hJ14.1) ?_
        refine w_lo dX9_lawing_38 rfl rfl rfl rfl ?_
        refine w_gf dX9_lawing_39 rfl hJ14.1.1 zs_386 f36 ?_
        have f42 := (hJ12.2 (402) (x1 : Int32).toInt.toNat (zNI (by omega) (zNI (by omega) (zNI (by omega) (zNI (by omega) (zNI (by omega) (zNI (by omega) (zNI (by omega) zNI_nil)))))))).trans (f5)
        refine w_ia dX9_lawing_42 hJ14.1.1 zs_402 (znat (by omega)) f42 ?_
        refine w_add dX9_lawing_43 (by omega) ?_
        intro x43 h44
        refine w_lo (ml' := [some (.ref 386), some (.int a0), some (.int x43)]) dX9_lawing_44 rfl rfl rfl rfl ?_
        refine w_lo dX9_lawing_45 rfl rfl rfl rfl ?_
        refine w_gf dX9_lawing_46 rfl hJ14.1.1 zs_386 (zr_386_28 hJ14.1) ?_
        refine w_lo dX9_lawing_49 rfl rfl rfl rfl ?_
        refine w_lo dX9_lawing_50 rfl rfl rfl rfl ?_
        refine w_isi dX9_lawing_51 hJ14 zs_403 (by omega) (by omega) zu_403 (by omega) (by omega) (zIR_a (by omega) (by omega)) ?_
        intro M45 hJ46 f47 hn48
        refine w_lo dX9_lawing_52 rfl rfl rfl rfl ?_
        refine w_gf dX9_lawing_53 rfl hJ46.1.1 zs_386 (zr_386_29 hJ46.1) ?_
        refine w_lo dX9_lawing_56 rfl rfl rfl rfl ?_
        refine w_lo dX9_lawing_57 rfl rfl rfl rfl ?_
        refine w_gfi dX9_lawing_58 rfl hJ46.1 zs_386 (Nat.le_of_ble_eq_true rfl) zo_386_34 ?_
        intro x49 f50 h51 h52
        refine w_isi dX9_lawing_61 hJ46 zs_404 (by omega) (by omega) zu_404 (by omega) (by omega) (zIR_a (by omega) (by omega)) ?_
        intro M53 hJ54 f55 hn56
        refine w_lo dX9_lawing_62 rfl rfl rfl rfl ?_
        refine w_ic dX9_lawing_63 zi_0 ?_
        have f59 := (hn56 (386) 2 (Or.inl (by omega))).trans ((hn48 (386) 2 (Or.inl (by omega))).trans (f16))
        have f60 := (hn56 (386) 3 (Or.inl (by omega))).trans ((hn48 (386) 3 (Or.inl (by omega))).trans (f19))
        have f61 := (hn56 (386) 5 (Or.inl (by omega))).trans ((hn48 (386) 5 (Or.inl (by omega))).trans (f27))
        have f62 := (hn56 (386) 8 (Or.inl (by omega))).trans ((hn48 (386) 8 (Or.inl (by omega))).trans (f32))
        refine w_iv dX9_lawing_64 rfl rfl (As := [.int 0]) rfl rfl hJ54.1.1 zs_386 (Nat.le_of_ble_eq_true rfl) ?_
        refine ZV.imp (k_2328 0 (by have := zt_0; omega) (by have := zt_0; omega) x15 f59 (by have := zt_0; omega) (by have := zt_0; omega) x18 f60 (by have := zt_0; omega) (by have := zt_0; omega) x26 f61 (by have := zt_0; omega) (by have := zt_0; omega) x31 f62 (by have := zt_0; omega) (by have := zt_0; omega) hN hJ54.1) ?_
        rintro _ ⟨M57, rfl, hJ58, hq63⟩
        have hJ64 := zJ_trans hJ54 hJ58 (zSub_cons (fun _ _ h h' hk => zIR_a (by omega) (by omega)) (zSub_cons (fun _ _ h h' hk => zIR_s (zIR_e (by omega) (by omega) hk)) (zSub_cons (fun _ _ h h' hk => zIR_s (zIR_s (zIR_e (by omega) (by omega) hk))) (zSub_cons (fun _ _ h h' hk => zIR_s (zIR_s (zIR_s (zIR_e (by omega) (by omega) hk)))) (zSub_cons (fun _ _ h h' hk => zIR_s (zIR_s (zIR_s (zIR_s (zIR_e (by omega) (by omega) hk))))) (zSub_cons (fun _ _ h h' hk => zIR_s (zIR_s (zIR_s (zIR_s (zIR_s (zIR_e (by omega) (by omega) hk)))))) (zSub_cons (fun _ _ h h' hk => zIR_s (zIR_s (zIR_s (zIR_s (zIR_s (zIR_s (zIR_e (by omega) (by omega) hk))))))) (zSub_cons (fun _ _ h h' hk => zIR_s (zIR_s (zIR_s (zIR_s (zIR_s (zIR_s (zIR_s (zIR_e (by omega) (by omega) hk)))))))) (zSub_cons (fun _ _ h h' hk => zIR_s (zIR_s (zIR_s (zIR_s (zIR_s (zIR_s (zIR_s (zIR_s (zIR_e (by omega) (by omega) hk))))))))) (zSub_cons (fun _ _ h h' hk => zIR_s (zIR_s (zIR_s (zIR_s (zIR_s (zIR_s (zIR_s (zIR_s (zIR_s (zIR_e (by omega) (by omega) hk)))))))))) (zSub_cons (fun _ _ h h' hk => zIR_s (zIR_s (zIR_s (zIR_s (zIR_s (zIR_s (zIR_s (zIR_s (zIR_s (zIR_s (zIR_e (by omega) (by omega) hk))))))))))) (zSub_cons (fun _ _ h h' hk => zIR_s (zIR_s (zIR_s (zIR_s (zIR_s (zIR_s (zIR_s (zIR_s (zIR_s (zIR_s (zIR_s (zIR_e (by omega) (by omega) hk)))))))))))) (zSub_cons (fun _ _ h h' hk => zIR_s (zIR_s (zIR_s (zIR_s (zIR_s (zIR_s (zIR_s (zIR_s (zIR_s (zIR_s (zIR_s (zIR_s (zIR_e (by omega) (by omega) hk))))))))))))) zSub_nil)))))))))))))
        obtain ⟨x65, f66, h67, x68, f69, h70, h71, x72, f73, h74, h75, h76, x77, f78, h79, h80, -⟩ := hq63
        have := zt_0
        show ZW _ _ _ _ _ _ _ (67, [some (.ref 386), some (.int a0), some (.int x43)], [], M57)
        refine w_lo dX9_lawing_67 rfl rfl rfl rfl ?_
        refine w_gf dX9_lawing_68 rfl hJ64.1.1 zs_386 (zr_386_30 hJ64.1) ?_
        refine w_lo dX9_lawing_71 rfl rfl rfl rfl ?_
        refine w_lo dX9_lawing_72 rfl rfl rfl rfl ?_
        refine w_gfi dX9_lawing_73 rfl hJ64.1 zs_386 (Nat.le_of_ble_eq_true rfl) zo_386_34 ?_
        intro x81 f82 h83 h84
        refine w_isi dX9_lawing_76 hJ64 zs_405 (by omega) (by omega) zu_405 (by omega) (by omega) (zIR_a (by omega) (by omega)) ?_
        intro M85 hJ86 f87 hn88
        refine w_lo dX9_lawing_77 rfl rfl rfl rfl ?_
        refine w_me (st' := [.long (2003330414 : Int64), .ref 386]) dX9_lawing_78 rfl rfl rfl rfl rfl ?_
        have f91 := (hn88 (386) 2 (Or.inl (by omega))).trans (f66)
        have f92 := (hn88 (386) 3 (Or.inl (by omega))).trans (f69)
        have f93 := (hn88 (386) 5 (Or.inl (by omega))).trans (f73)
        have f94 := (hn88 (386) 8 (Or.inl (by omega))).trans (f78)
        refine w_iv dX9_lawing_81 rfl rfl (As := [.long (2003330414 : Int64)]) rfl rfl hJ86.1.1 zs_386 (Nat.le_of_ble_eq_true rfl) ?_
        refine ZV.imp (k_2321 (2003330414 : Int64) x65 f91 (by omega) (by omega) x68 f92 (by omega) (by omega) x72 f93 (by omega) (by omega) x77 f94 (by omega) (by omega) hN hJ86.1) ?_
        rintro _ ⟨M89, rfl, hJ90, hq95⟩
        have hJ96 := zJ_trans hJ86 hJ90 (zSub_cons (fun _ _ h h' hk => zIR_s (zIR_e (by omega) (by omega) hk)) (zSub_cons (fun _ _ h h' hk => zIR_s (zIR_s (zIR_s (zIR_e (by omega) (by omega) hk)))) (zSub_cons (fun _ _ h h' hk => zIR_s (zIR_s (zIR_s (zIR_s (zIR_s (zIR_s (zIR_s (zIR_s (zIR_e (by omega) (by omega) hk))))))))) (zSub_cons (fun _ _ h h' hk => zIR_s (zIR_s (zIR_s (zIR_s (zIR_s (zIR_s (zIR_s (zIR_s (zIR_s (zIR_e (by omega) (by omega) hk)))))))))) (zSub_cons (fun _ _ h h' hk => zIR_s (zIR_s (zIR_s (zIR_s (zIR_s (zIR_s (zIR_s (zIR_s (zIR_s (zIR_s (zIR_e (by omega) (by omega) hk))))))))))) (zSub_cons (fun _ _ h h' hk => zIR_s (zIR_s (zIR_s (zIR_s (zIR_s (zIR_s (zIR_s (zIR_s (zIR_s (zIR_s (zIR_s (zIR_e (by omega) (by omega) hk)))))))))))) (zSub_cons (fun _ _ h h' hk => zIR_s (zIR_s (zIR_s (zIR_s (zIR_s (zIR_s (zIR_s (zIR_s (zIR_s (zIR_s (zIR_s (zIR_s (zIR_e (by omega) (by omega) hk))))))))))))) zSub_nil)))))))
        obtain ⟨x97, f98, h99, x100, f101, h102, h103, x104, f105, h106, h107, h108, x109, f110, h111, h112, h113, -⟩ := hq95
        show ZW _ _ _ _ _ _ _ (84, [some (.ref 386), some (.int a0), some (.int x43)], [], M89)
        refine w_lo dX9_lawing_84 rfl rfl rfl rfl ?_
        refine w_ic dX9_lawing_85 zi_1 ?_
        refine w_iv dX9_lawing_86 rfl rfl (As := [.int 1]) rfl rfl hJ96.1.1 zs_386 (Nat.le_of_ble_eq_true rfl) ?_
        refine ZV.imp (k_2328 1 (by have := zt_1; omega) (by have := zt_1; omega) x97 f98 (by have := zt_1; omega) (by have := zt_1; omega) x100 f101 (by have := zt_1; omega) (by have := zt_1; omega) x104 f105 (by have := zt_1; omega) (by have := zt_1; omega) x109 f110 (by have := zt_1; omega) (by have := zt_1; omega) hN hJ96.1) ?_
        rintro _ ⟨M114, rfl, hJ115, hq116⟩
        have hJ117 := zJ_trans hJ96 hJ115 (zSub_cons (fun _ _ h h' hk => zIR_a (by omega) (by omega)) (zSub_cons (fun _ _ h h' hk => zIR_s (zIR_e (by omega) (by omega) hk)) (zSub_cons (fun _ _ h h' hk => zIR_s (zIR_s (zIR_e (by omega) (by omega) hk))) (zSub_cons (fun _ _ h h' hk => zIR_s (zIR_s (zIR_s (zIR_e (by omega) (by omega) hk)))) (zSub_cons (fun _ _ h h' hk => zIR_s (zIR_s (zIR_s (zIR_s (zIR_e (by omega) (by omega) hk))))) (zSub_cons (fun _ _ h h' hk => zIR_s (zIR_s (zIR_s (zIR_s (zIR_s (zIR_e (by omega) (by omega) hk)))))) (zSub_cons (fun _ _ h h' hk => zIR_s (zIR_s (zIR_s (zIR_s (zIR_s (zIR_s (zIR_e (by omega) (by omega) hk))))))) (zSub_cons (fun _ _ h h' hk => zIR_s (zIR_s (zIR_s (zIR_s (zIR_s (zIR_s (zIR_s (zIR_e (by omega) (by omega) hk)))))))) (zSub_cons (fun _ _ h h' hk => zIR_s (zIR_s (zIR_s (zIR_s (zIR_s (zIR_s (zIR_s (zIR_s (zIR_e (by omega) (by omega) hk))))))))) (zSub_cons (fun _ _ h h' hk => zIR_s (zIR_s (zIR_s (zIR_s (zIR_s (zIR_s (zIR_s (zIR_s (zIR_s (zIR_e (by omega) (by omega) hk)))))))))) (zSub_cons (fun _ _ h h' hk => zIR_s (zIR_s (zIR_s (zIR_s (zIR_s (zIR_s (zIR_s (zIR_s (zIR_s (zIR_s (zIR_e (by omega) (by omega) hk))))))))))) (zSub_cons (fun _ _ h h' hk => zIR_s (zIR_s (zIR_s (zIR_s (zIR_s (zIR_s (zIR_s (zIR_s (zIR_s (zIR_s (zIR_s (zIR_e (by omega) (by omega) hk)))))))))))) (zSub_cons (fun _ _ h h' hk => zIR_s (zIR_s (zIR_s (zIR_s (zIR_s (zIR_s (zIR_s (zIR_s (zIR_s (zIR_s (zIR_s (zIR_s (zIR_e (by omega) (by omega) hk))))))))))))) zSub_nil)))))))))))))
        obtain ⟨x118, f119, h120, x121, f122, h123, h124, x125, f126, h127, h128, h129, x130, f131, h132, h133, -⟩ := hq116
        have := zt_1
        show ZW _ _ _ _ _ _ _ (89, [some (.ref 386), some (.int a0), some (.int x43)], [], M114)
        refine w_lo dX9_lawing_89 rfl rfl rfl rfl ?_
        refine w_gf dX9_lawing_90 rfl hJ117.1.1 zs_386 (zr_386_31 hJ117.1) ?_
        refine w_lo dX9_lawing_93 rfl rfl rfl rfl ?_
        refine w_lo dX9_lawing_94 rfl rfl rfl rfl ?_
        refine w_gfi dX9_lawing_95 rfl hJ117.1 zs_386 (Nat.le_of_ble_eq_true rfl) zo_386_34 ?_
        intro x134 f135 h136 h137
        refine w_isi dX9_lawing_98 hJ117 zs_406 (by omega) (by omega) zu_406 (by omega) (by omega) (zIR_a (by omega) (by omega)) ?_
        intro M138 hJ139 f140 hn141
        refine w_lo dX9_lawing_99 rfl rfl rfl rfl ?_
        have f142 := (hn141 (386) 8 (Or.inl (by omega))).trans (f131)
        refine w_gf dX9_lawing_100 rfl hJ139.1.1 zs_386 f142 ?_
        rcases Int.decEq x130.toInt (0 : Int) with h143 | h143
        · skip
          refine w_ine_t dX9_lawing_103 (t := 119) rfl (by omega) ?_
          refine w_en dX9_lawing_119 rfl ?_
          have f144 := (hn141 (386) 2 (Or.inl (by omega))).trans (f119)
          have f145 := (hn141 (386) 3 (Or.inl (by omega))).trans (f122)
          have f146 := (hn141 (386) 5 (Or.inl (by omega))).trans (f126)
          exact ⟨_, rfl, hJ139, ⟨x118, f144, (by omega), x121, f145, (by omega), (by omega), x125, f146, (by omega), (by omega), (by omega), x130, f142, (by omega), (by omega), (by omega), trivial⟩⟩
        · skip
          refine w_ine_f dX9_lawing_103 (t := 119) rfl (by omega) ?_
          refine w_lo dX9_lawing_106 rfl rfl rfl rfl ?_
          refine w_gf dX9_lawing_107 rfl hJ139.1.1 zs_386 (zr_386_27 hJ139.1) ?_
          refine w_lo dX9_lawing_110 rfl rfl rfl rfl ?_
          have f147 := (hn141 (386) 35 (Or.inl (by omega))).trans ((hJ115.2 (386) 35 (zNI (by omega) (zNI_k (by decide) (by decide) (zNI_k (by decide) (by decide) (zNI_k (by decide) (by decide) (zNI_k (by decide) (by decide) (zNI_k (by decide) (by decide) (zNI_k (by decide) (by decide) (zNI_k (by decide) (by decide) (zNI_k (by decide) (by decide) (zNI_k (by decide) (by decide) (zNI_k (by decide) (by decide) (zNI_k (by decide) (by decide) (zNI_k (by decide) (by decide) zNI_nil)))))))))))))).trans ((hJ90.2 (386) 35 (zNI_k (by decide) (by decide) (zNI_k (by decide) (by decide) (zNI_k (by decide) (by decide) (zNI_k (by decide) (by decide) (zNI_k (by decide) (by decide) (zNI_k (by decide) (by decide) (zNI_k (by decide) (by decide) zNI_nil)))))))).trans ((hn88 (386) 35 (Or.inl (by omega))).trans ((hJ58.2 (386) 35 (zNI (by omega) (zNI_k (by decide) (by decide) (zNI_k (by decide) (by decide) (zNI_k (by decide) (by decide) (zNI_k (by decide) (by decide) (zNI_k (by decide) (by decide) (zNI_k (by decide) (by decide) (zNI_k (by decide) (by decide) (zNI_k (by decide) (by decide) (zNI_k (by decide) (by decide) (zNI_k (by decide) (by decide) (zNI_k (by decide) (by decide) (zNI_k (by decide) (by decide) zNI_nil)))))))))))))).trans ((hn56 (386) 35 (Or.inl (by omega))).trans ((hn48 (386) 35 (Or.inl (by omega))).trans (f36)))))))
          refine w_gf dX9_lawing_111 rfl hJ139.1.1 zs_386 f147 ?_
          refine w_pu dX9_lawing_114 rfl rfl ?_
          have f151 := (hn141 (402) (x1 : Int32).toInt.toNat (Or.inl (by omega))).trans ((hJ115.2 (402) (x1 : Int32).toInt.toNat (zNI (by omega) (zNI (by omega) (zNI (by omega) (zNI (by omega) (zNI (by omega) (zNI (by omega) (zNI (by omega) (zNI (by omega) (zNI (by omega) (zNI (by omega) (zNI (by omega) (zNI (by omega) (zNI (by omega) zNI_nil)))))))))))))).trans ((hJ90.2 (402) (x1 : Int32).toInt.toNat (zNI (by omega) (zNI (by omega) (zNI (by omega) (zNI (by omega) (zNI (by omega) (zNI (by omega) (zNI (by omega) zNI_nil)))))))).trans ((hn88 (402) (x1 : Int32).toInt.toNat (Or.inl (by omega))).trans ((hJ58.2 (402) (x1 : Int32).toInt.toNat (zNI (by omega) (zNI (by omega) (zNI (by omega) (zNI (by omega) (zNI (by omega) (zNI (by omega) (zNI (by omega) (zNI (by omega) (zNI (by omega) (zNI (by omega) (zNI (by omega) (zNI (by omega) (zNI (by omega) zNI_nil)))))))))))))).trans ((hn56 (402) (x1 : Int32).toInt.toNat (Or.inl (by omega))).trans ((hn48 (402) (x1 : Int32).toInt.toNat (Or.inl (by omega))).trans (f42)))))))
          refine w_ia dX9_lawing_115 hJ139.1.1 zs_402 (znat (by omega)) f151 ?_
          refine w_ic dX9_lawing_116 zi_1 ?_
          refine w_add dX9_lawing_117 (by have := zt_1; omega) ?_
          intro x152 h153
          have := zt_1
          refine w_isi dX9_lawing_118 hJ139 zs_402 (by omega) (by omega) zu_402 (by omega) (by omega) (zIR_a (by omega) (by omega)) ?_
          intro M154 hJ155 f156 hn157
          refine w_en dX9_lawing_119 rfl ?_
          have f158 := (hn157 (386) 2 (Or.inl (by omega))).trans ((hn141 (386) 2 (Or.inl (by omega))).trans (f119))
          have f159 := (hn157 (386) 3 (Or.inl (by omega))).trans ((hn141 (386) 3 (Or.inl (by omega))).trans (f122))
          have f160 := (hn157 (386) 5 (Or.inl (by omega))).trans ((hn141 (386) 5 (Or.inl (by omega))).trans (f126))
          have f161 := (hn157 (386) 8 (Or.inl (by omega))).trans (f142)
          exact ⟨_, rfl, hJ155, ⟨x118, f158, (by omega), x121, f159, (by omega), (by omega), x125, f160, (by omega), (by omega), (by omega), x130, f161, (by omega), (by omega), (by omega), trivial⟩⟩
  · skip
    refine w_cne_f dX9_lawing_12 (t := 19) rfl (by have := zt_8; omega) ?_
    refine w_ic dX9_lawing_15 zi_1 ?_
    refine w_gt dX9_lawing_16 (t := 20) rfl ?_
    refine w_iv dX9_lawing_20 rfl rfl (As := [.int 1]) rfl rfl hJ0.1.1 zs_386 (Nat.le_of_ble_eq_true rfl) ?_
    refine ZV.of (ini := false) rfl (Nat.le_of_ble_eq_true rfl) (by decide +kernel) ?_
    show ZW _ _ _ _ _ _ _ (0, [some (.ref 386), some (.int 1)], [], M0)
    refine w_lo dX9_counts_0 rfl rfl rfl rfl ?_
    refine w_gf dX9_counts_1 rfl hJ0.1.1 zs_386 hffk ?_
    rcases Int.decEq fk.toInt (0 : Int) with h162 | h162
    · skip
      refine w_ine_t dX9_counts_4 (t := 20) rfl (by omega) ?_
      refine w_lo dX9_counts_20 rfl rfl rfl rfl ?_
      refine w_gf dX9_counts_21 rfl hJ0.1.1 zs_386 hffk ?_
      refine w_ine_t dX9_counts_24 (t := 31) rfl (by omega) ?_
      refine w_lo dX9_counts_31 rfl rfl rfl rfl ?_
      refine w_gf dX9_counts_32 rfl hJ0.1.1 zs_386 hffk ?_
      refine w_ine_t dX9_counts_35 (t := 42) rfl (by omega) ?_
      refine w_ic dX9_counts_42 zi_0 ?_
      refine w_en dX9_counts_43 rfl ?_
      show ZW _ _ _ _ _ _ _ (23, [some (.ref 386), some (.int a0), none], [.int 0], M0)
      refine w_ine_f dX9_lawing_23 (t := 27) rfl (by have := zt_0; omega) ?_
      refine w_en dX9_lawing_26 rfl ?_
      exact ⟨_, rfl, hJ0, ⟨sz, hfsz, (by omega), sg, hfsg, (by omega), (by omega), se, hfse, (by omega), (by omega), (by omega), fk, hffk, (by omega), (by omega), (by omega), trivial⟩⟩
    · skip
      refine w_ine_f dX9_counts_4 (t := 20) rfl (by omega) ?_
      refine w_lo dX9_counts_7 rfl rfl rfl rfl ?_
      refine w_ieq_f dX9_counts_8 (t := 20) rfl (by have := zt_1; omega) ?_
      refine w_lo dX9_counts_11 rfl rfl rfl rfl ?_
      refine w_ic dX9_counts_12 zi_5 ?_
      refine w_lo dX9_counts_13 rfl rfl rfl rfl ?_
      refine w_gfi dX9_counts_14 rfl hJ0.1 zs_386 (Nat.le_of_ble_eq_true rfl) zo_386_4 ?_
      intro x163 f164 h165 h166
      refine w_iv dX9_counts_17 rfl rfl (As := [.int 5, .int x163]) rfl rfl hJ0.1.1 zs_386 (Nat.le_of_ble_eq_true rfl) ?_
      refine ZV.of (ini := false) rfl (Nat.le_of_ble_eq_true rfl) (by decide +kernel) ?_
      show ZW _ _ _ _ _ _ _ (0, [some (.ref 386), some (.int 5), some (.int x163)], [], M0)
      refine w_lo dX9_blame_0 rfl rfl rfl rfl ?_
      refine w_gf dX9_blame_1 rfl hJ0.1.1 zs_386 hffk ?_
      refine w_ile_t dX9_blame_4 (t := 8) rfl (by omega) ?_
      refine w_lo dX9_blame_8 rfl rfl rfl rfl ?_
      refine w_lo dX9_blame_9 rfl rfl rfl rfl ?_
      refine w_pfi dX9_blame_10 rfl hJ0 zs_386 (Nat.le_of_ble_eq_true rfl) zo_386_8 (by have := zt_5; omega) (by have := zt_5; omega) (zIR_s (zIR_s (zIR_s (zIR_s (zIR_s (zIR_s (zIR_s (zIR_s (zIR_s (zIR_s (zIR_s (zIR_k (by omega) (by omega))))))))))))) rfl rfl rfl ?_
      intro M167 hJ168 f169 hn170
      refine w_lo dX9_blame_13 rfl rfl rfl rfl ?_
      refine w_lo dX9_blame_14 rfl rfl rfl rfl ?_
      refine w_pfi dX9_blame_15 rfl hJ168 zs_386 (Nat.le_of_ble_eq_true rfl) zo_386_9 (by omega) (by omega) (zIR_s (zIR_s (zIR_s (zIR_s (zIR_s (zIR_s (zIR_s (zIR_s (zIR_s (zIR_s (zIR_s (zIR_s (zIR_k (by omega) (by omega)))))))))))))) rfl rfl rfl ?_
      intro M171 hJ172 f173 hn174
      refine w_en dX9_blame_18 rfl ?_
      show ZW _ _ _ _ _ _ _ (20, [some (.ref 386), some (.int 1)], [], M171)
      refine w_lo dX9_counts_20 rfl rfl rfl rfl ?_
      have f175 := (hn174 (386) 8 (Or.inr (by decide))).trans (f169)
      refine w_gf dX9_counts_21 rfl hJ172.1.1 zs_386 f175 ?_
      refine w_ine_t dX9_counts_24 (t := 31) rfl (by have := zt_5; omega) ?_
      refine w_lo dX9_counts_31 rfl rfl rfl rfl ?_
      refine w_gf dX9_counts_32 rfl hJ172.1.1 zs_386 f175 ?_
      refine w_ine_t dX9_counts_35 (t := 42) rfl (by have := zt_5; omega) ?_
      refine w_ic dX9_counts_42 zi_0 ?_
      refine w_en dX9_counts_43 rfl ?_
      show ZW _ _ _ _ _ _ _ (23, [some (.ref 386), some (.int a0), none], [.int 0], M171)
      refine w_ine_f dX9_lawing_23 (t := 27) rfl (by have := zt_0; omega) ?_
      refine w_en dX9_lawing_26 rfl ?_
      have f176 := (hn174 (386) 2 (Or.inr (by decide))).trans ((hn170 (386) 2 (Or.inr (by decide))).trans (hfsz))
      have f177 := (hn174 (386) 3 (Or.inr (by decide))).trans ((hn170 (386) 3 (Or.inr (by decide))).trans (hfsg))
      have f178 := (hn174 (386) 5 (Or.inr (by decide))).trans ((hn170 (386) 5 (Or.inr (by decide))).trans (hfse))
      exact ⟨_, rfl, hJ172, ⟨sz, f176, (by omega), sg, f177, (by omega), (by omega), se, f178, (by omega), (by omega), (by omega), 5, f175, (by have := zt_5; omega), (by have := zt_5; omega), (by have := zt_5; omega), trivial⟩⟩
set_option maxHeartbeats 20000000 in
set_option maxRecDepth 100000 in
theorem k_2314 {X : List Int32} {d N : Nat} {M0 : zM} (sz : Int32) (hfsz : zvl M0 (386) 2 = some (.int sz)) (hrsz0 : 0 ≤ sz.toInt) (hrsz1 : sz.toInt ≤ 1600) (sg : Int32) (hfsg : zvl M0 (386) 3 = some (.int sg)) (hrsg0 : 0 ≤ sg.toInt) (hrsg1 : sg.toInt ≤ 3) (se : Int32) (hfse : zvl M0 (386) 5 = some (.int se)) (hrse0 : 0 ≤ se.toInt) (hrse1 : se.toInt ≤ sz.toInt) (fk : Int32) (hffk : zvl M0 (386) 8 = some (.int fk)) (hrfk0 : 0 ≤ fk.toInt) (hrfk1 : fk.toInt ≤ 5) (hN : N ≤ 600) (hB0 : zB N M0) : ZV X (d + 7) 2314 [.ref 386] M0 (zRV N [(388, 415, 1000), (386, 387, 3), (386, 387, 34), (386, 387, 4), (386, 387, 41), (386, 387, 42), (386, 387, 44), (386, 387, 45), (386, 387, 5), (386, 387, 6), (386, 387, 7), (386, 387, 8), (386, 387, 9)] M0 (fun M' => (∃ nz : Int32, zvl M' (386) 2 = some (.int nz) ∧ (nz.toInt = sz.toInt) ∧ (∃ ng : Int32, zvl M' (386) 3 = some (.int ng) ∧ (0 ≤ ng.toInt) ∧ (ng.toInt ≤ 3) ∧ (∃ ne : Int32, zvl M' (386) 5 = some (.int ne) ∧ (se.toInt ≤ ne.toInt) ∧ (ne.toInt ≤ sz.toInt) ∧ (4 * (sz.toInt - ne.toInt) + ng.toInt ≤ 4 * (sz.toInt - se.toInt) + sg.toInt) ∧ (∃ nk : Int32, zvl M' (386) 8 = some (.int nk) ∧ (fk.toInt ≤ nk.toInt) ∧ (nk.toInt ≤ 5) ∧ (1 ≤ nk.toInt ∨ 4 * (sz.toInt - ne.toInt) + ng.toInt + 1 ≤ 4 * (sz.toInt - se.toInt) + sg.toInt) ∧ True)))))) := by
  have hJ0 : zJ N [(388, 415, 1000), (386, 387, 3), (386, 387, 34), (386, 387, 4), (386, 387, 41), (386, 387, 42), (386, 387, 44), (386, 387, 45), (386, 387, 5), (386, 387, 6), (386, 387, 7), (386, 387, 8), (386, 387, 9)] M0 M0 := zJ_refl hB0
  refine ZV.of (ini := false) rfl (Nat.le_of_ble_eq_true rfl) (by decide +kernel) ?_
  show ZW _ _ _ _ _ _ _ (0, [some (.ref 386)], [], M0)
  refine w_lo dX9_statement_0 rfl rfl rfl rfl ?_
  refine w_me (st' := [.long (6451065 : Int64), .ref 386]) dX9_statement_1 rfl rfl rfl rfl rfl ?_
  refine w_iv dX9_statement_4 rfl rfl (As := [.long (6451065 : Int64)]) rfl rfl hJ0.1.1 zs_386 (Nat.le_of_ble_eq_true rfl) ?_
  refine ZV.of (ini := false) rfl (Nat.le_of_ble_eq_true rfl) (by decide +kernel) ?_
  show ZW _ _ _ _ _ _ _ (0, [some (.ref 386), some (.long (6451065 : Int64)), none], [], M0)
  refine w_lo dX9_isWord_0 rfl rfl rfl rfl ?_
  refine w_gf dX9_isWord_1 rfl hJ0.1.1 zs_386 hfsg ?_
  refine w_ic dX9_isWord_4 zi_1 ?_
  rcases Int.decEq sg.toInt (1 : Int) with h1 | h1
  · skip
    refine w_cne_t dX9_isWord_5 (t := 21) rfl (by have := zt_1; omega) ?_
    refine w_ic dX9_isWord_21 zi_0 ?_
    refine w_en dX9_isWord_22 rfl ?_
    show ZW _ _ _ _ _ _ _ (7, [some (.ref 386)], [.int 0], M0)
    refine w_ieq_t dX9_statement_7 (t := 17) rfl (by have := zt_0; omega) ?_
    refine w_lo dX9_statement_17 rfl rfl rfl rfl ?_
    refine w_me (st' := [.long (495739560811 : Int64), .ref 386]) dX9_statement_18 rfl rfl rfl rfl rfl ?_
    refine w_iv dX9_statement_21 rfl rfl (As := [.long (495739560811 : Int64)]) rfl rfl hJ0.1.1 zs_386 (Nat.le_of_ble_eq_true rfl) ?_
    refine ZV.of (ini := false) rfl (Nat.le_of_ble_eq_true rfl) (by decide +kernel) ?_
    show ZW _ _ _ _ _ _ _ (0, [some (.ref 386), some (.long (495739560811 : Int64)), none], [], M0)
    refine w_lo dX9_isWord_0 rfl rfl rfl rfl ?_
    refine w_gf dX9_isWord_1 rfl hJ0.1.1 zs_386 hfsg ?_
    refine w_ic dX9_isWord_4 zi_1 ?_
    rcases Int.decEq sg.toInt (1 : Int) with h2 | h2
    · skip
      refine w_cne_t dX9_isWord_5 (t := 21) rfl (by have := zt_1; omega) ?_
      refine w_ic dX9_isWord_21 zi_0 ?_
      refine w_en dX9_isWord_22 rfl ?_
      show ZW _ _ _ _ _ _ _ (24, [some (.ref 386)], [.int 0], M0)
      refine w_ieq_t dX9_statement_24 (t := 34) rfl (by have := zt_0; omega) ?_
      refine w_lo dX9_statement_34 rfl rfl rfl rfl ?_
      refine w_me (st' := [.long (431415976301 : Int64), .ref 386]) dX9_statement_35 rfl rfl rfl rfl rfl ?_
      refine w_iv dX9_statement_38 rfl rfl (As := [.long (431415976301 : Int64)]) rfl rfl hJ0.1.1 zs_386 (Nat.le_of_ble_eq_true rfl) ?_
      refine ZV.of (ini := false) rfl (Nat.le_of_ble_eq_true rfl) (by decide +kernel) ?_
      show ZW _ _ _ _ _ _ _ (0, [some (.ref 386), some (.long (431415976301 : Int64)), none], [], M0)
      refine w_lo dX9_isWord_0 rfl rfl rfl rfl ?_
      refine w_gf dX9_isWord_1 rfl hJ0.1.1 zs_386 hfsg ?_
      refine w_ic dX9_isWord_4 zi_1 ?_
      rcases Int.decEq sg.toInt (1 : Int) with h3 | h3
      · skip
        refine w_cne_t dX9_isWord_5 (t := 21) rfl (by have := zt_1; omega) ?_
        refine w_ic dX9_isWord_21 zi_0 ?_
        refine w_en dX9_isWord_22 rfl ?_
        show ZW _ _ _ _ _ _ _ (41, [some (.ref 386)], [.int 0], M0)
        refine w_ieq_t dX9_statement_41 (t := 51) rfl (by have := zt_0; omega) ?_
        refine w_lo dX9_statement_51 rfl rfl rfl rfl ?_
        refine w_me (st' := [.long (1885434739 : Int64), .ref 386]) dX9_statement_52 rfl rfl rfl rfl rfl ?_
        refine w_iv dX9_statement_55 rfl rfl (As := [.long (1885434739 : Int64)]) rfl rfl hJ0.1.1 zs_386 (Nat.le_of_ble_eq_true rfl) ?_
        refine ZV.of (ini := false) rfl (Nat.le_of_ble_eq_true rfl) (by decide +kernel) ?_
        show ZW _ _ _ _ _ _ _ (0, [some (.ref 386), some (.long (1885434739 : Int64)), none], [], M0)
        refine w_lo dX9_isWord_0 rfl rfl rfl rfl ?_
        refine w_gf dX9_isWord_1 rfl hJ0.1.1 zs_386 hfsg ?_
        refine w_ic dX9_isWord_4 zi_1 ?_
        rcases Int.decEq sg.toInt (1 : Int) with h4 | h4
        · skip
          refine w_cne_t dX9_isWord_5 (t := 21) rfl (by have := zt_1; omega) ?_
          refine w_ic dX9_isWord_21 zi_0 ?_
          refine w_en dX9_isWord_22 rfl ?_
          show ZW _ _ _ _ _ _ _ (58, [some (.ref 386)], [.int 0], M0)
          refine w_ieq_t dX9_statement_58 (t := 69) rfl (by have := zt_0; omega) ?_
          refine w_lo dX9_statement_69 rfl rfl rfl rfl ?_
          refine w_me (st' := [.long (1684366704 : Int64), .ref 386]) dX9_statement_70 rfl rfl rfl rfl rfl ?_
          refine w_iv dX9_statement_73 rfl rfl (As := [.long (1684366704 : Int64)]) rfl rfl hJ0.1.1 zs_386 (Nat.le_of_ble_eq_true rfl) ?_
          refine ZV.of (ini := false) rfl (Nat.le_of_ble_eq_true rfl) (by decide +kernel) ?_
          show ZW _ _ _ _ _ _ _ (0, [some (.ref 386), some (.long (1684366704 : Int64)), none], [], M0)
          refine w_lo dX9_isWord_0 rfl rfl rfl rfl ?_
          refine w_gf dX9_isWord_1 rfl hJ0.1.1 zs_386 hfsg ?_
          refine w_ic dX9_isWord_4 zi_1 ?_
          rcases Int.decEq sg.toInt (1 : Int) with h5 | h5
          · skip
            refine w_cne_t dX9_isWord_5 (t := 21) rfl (by have := zt_1; omega) ?_
            refine w_ic dX9_isWord_21 zi_0 ?_
            refine w_en dX9_isWord_22 rfl ?_
            show ZW _ _ _ _ _ _ _ (76, [some (.ref 386)], [.int 0], M0)
            refine w_ieq_t dX9_statement_76 (t := 87) rfl (by have := zt_0; omega) ?_
            refine w_lo dX9_statement_87 rfl rfl rfl rfl ?_
            refine w_ic dX9_statement_88 zi_1 ?_
            refine w_lo dX9_statement_89 rfl rfl rfl rfl ?_
            refine w_gfi dX9_statement_90 rfl hJ0.1 zs_386 (Nat.le_of_ble_eq_true rfl) zo_386_4 ?_
            intro x6 f7 h8 h9
            refine w_iv dX9_statement_93 rfl rfl (As := [.int 1, .int x6]) rfl rfl hJ0.1.1 zs_386 (Nat.le_of_ble_eq_true rfl) ?_
            refine ZV.of (ini := false) rfl (Nat.le_of_ble_eq_true rfl) (by decide +kernel) ?_
            show ZW _ _ _ _ _ _ _ (0, [some (.ref 386), some (.int 1), some (.int x6)], [], M0)
            refine w_lo dX9_blame_0 rfl rfl rfl rfl ?_
            refine w_gf dX9_blame_1 rfl hJ0.1.1 zs_386 hffk ?_
            rcases zcut (0 : Int) fk.toInt with h10 | h10
            · skip
              refine w_ile_f dX9_blame_4 (t := 8) rfl (by omega) ?_
              refine w_en dX9_blame_7 rfl ?_
              show ZW _ _ _ _ _ _ _ (96, [some (.ref 386)], [], M0)
              refine w_en dX9_statement_96 rfl ?_
              exact ⟨_, rfl, hJ0, ⟨sz, hfsz, (by omega), sg, hfsg, (by omega), (by omega), se, hfse, (by omega), (by omega), (by omega), fk, hffk, (by omega), (by omega), (by omega), trivial⟩⟩
            · skip
              refine w_ile_t dX9_blame_4 (t := 8) rfl (by omega) ?_
              refine w_lo dX9_blame_8 rfl rfl rfl rfl ?_
              refine w_lo dX9_blame_9 rfl rfl rfl rfl ?_
              refine w_pfi dX9_blame_10 rfl hJ0 zs_386 (Nat.le_of_ble_eq_true rfl) zo_386_8 (by have := zt_1; omega) (by have := zt_1; omega) (zIR_s (zIR_s (zIR_s (zIR_s (zIR_s (zIR_s (zIR_s (zIR_s (zIR_s (zIR_s (zIR_s (zIR_k (by omega) (by omega))))))))))))) rfl rfl rfl ?_
              intro M11 hJ12 f13 hn14
              refine w_lo dX9_blame_13 rfl rfl rfl rfl ?_
              refine w_lo dX9_blame_14 rfl rfl rfl rfl ?_
              refine w_pfi dX9_blame_15 rfl hJ12 zs_386 (Nat.le_of_ble_eq_true rfl) zo_386_9 (by omega) (by omega) (zIR_s (zIR_s (zIR_s (zIR_s (zIR_s (zIR_s (zIR_s (zIR_s (zIR_s (zIR_s (zIR_s (zIR_s (zIR_k (by omega) (by omega)))))))))))))) rfl rfl rfl ?_
              intro M15 hJ16 f17 hn18
              refine w_en dX9_blame_18 rfl ?_
              show ZW _ _ _ _ _ _ _ (96, [some (.ref 386)], [], M15)
              refine w_en dX9_statement_96 rfl ?_
              have f19 := (hn18 (386) 2 (Or.inr (by decide))).trans ((hn14 (386) 2 (Or.inr (by decide))).trans (hfsz))
              have f20 := (hn18 (386) 3 (Or.inr (by decide))).trans ((hn14 (386) 3 (Or.inr (by decide))).trans (hfsg))
              have f21 := (hn18 (386) 5 (Or.inr (by decide))).trans ((hn14 (386) 5 (Or.inr (by decide))).trans (hfse))
              have f22 := (hn18 (386) 8 (Or.inr (by decide))).trans (f13)
              exact ⟨_, rfl, hJ16, ⟨sz, f19, (by omega), sg, f20, (by omega), (by omega), se, f21, (by omega), (by omega), (by omega), 1, f22, (by have := zt_1; omega), (by have := zt_1; omega), (by have := zt_1; omega), trivial⟩⟩
          · skip
            refine w_cne_f dX9_isWord_5 (t := 21) rfl (by have := zt_1; omega) ?_
            refine w_lo dX9_isWord_8 rfl rfl rfl rfl ?_
            refine w_gfl dX9_isWord_9 rfl hJ0.1 zs_386 (Nat.le_of_ble_eq_true rfl) zo_386_7 ?_
            intro y26 f23 h24 h25
            refine w_lo dX9_isWord_12 rfl rfl rfl rfl ?_
            refine w_lcm dX9_isWord_13 ?_
            intro x27 h28
            have := ztl_1684366704
            rcases Int.decEq x27.toInt (0 : Int) with h29 | h29
            · skip
              refine w_ine_t dX9_isWord_14 (t := 21) rfl (by omega) ?_
              refine w_ic dX9_isWord_21 zi_0 ?_
              refine w_en dX9_isWord_22 rfl ?_
              show ZW _ _ _ _ _ _ _ (76, [some (.ref 386)], [.int 0], M0)
              refine w_ieq_t dX9_statement_76 (t := 87) rfl (by have := zt_0; omega) ?_
              refine w_lo dX9_statement_87 rfl rfl rfl rfl ?_
              refine w_ic dX9_statement_88 zi_1 ?_
              refine w_lo dX9_statement_89 rfl rfl rfl rfl ?_
              refine w_gfi dX9_statement_90 rfl hJ0.1 zs_386 (Nat.le_of_ble_eq_true rfl) zo_386_4 ?_
              intro x30 f31 h32 h33
              refine w_iv dX9_statement_93 rfl rfl (As := [.int 1, .int x30]) rfl rfl hJ0.1.1 zs_386 (Nat.le_of_ble_eq_true rfl) ?_
              refine ZV.of (ini := false) rfl (Nat.le_of_ble_eq_true rfl) (by decide +kernel) ?_
              show ZW _ _ _ _ _ _ _ (0, [some (.ref 386), some (.int 1), some (.int x30)], [], M0)
              refine w_lo dX9_blame_0 rfl rfl rfl rfl ?_
              refine w_gf dX9_blame_1 rfl hJ0.1.1 zs_386 hffk ?_
              rcases zcut (0 : Int) fk.toInt with h34 | h34
              · skip
                refine w_ile_f dX9_blame_4 (t := 8) rfl (by omega) ?_
                refine w_en dX9_blame_7 rfl ?_
                show ZW _ _ _ _ _ _ _ (96, [some (.ref 386)], [], M0)
                refine w_en dX9_statement_96 rfl ?_
                exact ⟨_, rfl, hJ0, ⟨sz, hfsz, (by omega), sg, hfsg, (by omega), (by omega), se, hfse, (by omega), (by omega), (by omega), fk, hffk, (by omega), (by omega), (by omega), trivial⟩⟩
              · skip
                refine w_ile_t dX9_blame_4 (t := 8) rfl (by omega) ?_
                refine w_lo dX9_blame_8 rfl rfl rfl rfl ?_
                refine w_lo dX9_blame_9 rfl rfl rfl rfl ?_
                refine w_pfi dX9_blame_10 rfl hJ0 zs_386 (Nat.le_of_ble_eq_true rfl) zo_386_8 (by have := zt_1; omega) (by have := zt_1; omega) (zIR_s (zIR_s (zIR_s (zIR_s (zIR_s (zIR_s (zIR_s (zIR_s (zIR_s (zIR_s (zIR_s (zIR_k (by omega) (by omega))))))))))))) rfl rfl rfl ?_
                intro M35 hJ36 f37 hn38
                refine w_lo dX9_blame_13 rfl rfl rfl rfl ?_
                refine w_lo dX9_blame_14 rfl rfl rfl rfl ?_
                refine w_pfi dX9_blame_15 rfl hJ36 zs_386 (Nat.le_of_ble_eq_true rfl) zo_386_9 (by omega) (by omega) (zIR_s (zIR_s (zIR_s (zIR_s (zIR_s (zIR_s (zIR_s (zIR_s (zIR_s (zIR_s (zIR_s (zIR_s (zIR_k (by omega) (by omega)))))))))))))) rfl rfl rfl ?_
                intro M39 hJ40 f41 hn42
                refine w_en dX9_blame_18 rfl ?_
                show ZW _ _ _ _ _ _ _ (96, [some (.ref 386)], [], M39)
                refine w_en dX9_statement_96 rfl ?_
                have f43 := (hn42 (386) 2 (Or.inr (by decide))).trans ((hn38 (386) 2 (Or.inr (by decide))).trans (hfsz))
                have f44 := (hn42 (386) 3 (Or.inr (by decide))).trans ((hn38 (386) 3 (Or.inr (by decide))).trans (hfsg))
                have f45 := (hn42 (386) 5 (Or.inr (by decide))).trans ((hn38 (386) 5 (Or.inr (by decide))).trans (hfse))
                have f46 := (hn42 (386) 8 (Or.inr (by decide))).trans (f37)
                exact ⟨_, rfl, hJ40, ⟨sz, f43, (by omega), sg, f44, (by omega), (by omega), se, f45, (by omega), (by omega), (by omega), 1, f46, (by have := zt_1; omega), (by have := zt_1; omega), (by have := zt_1; omega), trivial⟩⟩
            · skip
              refine w_ine_f dX9_isWord_14 (t := 21) rfl (by omega) ?_
              refine w_ic dX9_isWord_17 zi_1 ?_
              refine w_gt dX9_isWord_18 (t := 22) rfl ?_
              refine w_en dX9_isWord_22 rfl ?_
              show ZW _ _ _ _ _ _ _ (76, [some (.ref 386)], [.int 1], M0)
              refine w_ieq_f dX9_statement_76 (t := 87) rfl (by have := zt_1; omega) ?_
              refine w_lo dX9_statement_79 rfl rfl rfl rfl ?_
              refine w_ic dX9_statement_80 zi_1 ?_
              refine w_iv dX9_statement_81 rfl rfl (As := [.int 1]) rfl rfl hJ0.1.1 zs_386 (Nat.le_of_ble_eq_true rfl) ?_
              refine ZV.imp (k_2327 1 (by have := zt_1; omega) (by have := zt_1; omega) sz hfsz (by have := zt_1; omega) (by have := zt_1; omega) sg hfsg (by have := zt_1; omega) (by have := zt_1; omega) se hfse (by have := zt_1; omega) (by have := zt_1; omega) fk hffk (by have := zt_1; omega) (by have := zt_1; omega) hN hJ0.1) ?_
              rintro _ ⟨M47, rfl, hJ48, hq49⟩
              have hJ50 := zJ_trans hJ0 hJ48 (zSub_cons (fun _ _ h h' hk => zIR_a (by omega) (by omega)) (zSub_cons (fun _ _ h h' hk => zIR_s (zIR_e (by omega) (by omega) hk)) (zSub_cons (fun _ _ h h' hk => zIR_s (zIR_s (zIR_e (by omega) (by omega) hk))) (zSub_cons (fun _ _ h h' hk => zIR_s (zIR_s (zIR_s (zIR_e (by omega) (by omega) hk)))) (zSub_cons (fun _ _ h h' hk => zIR_s (zIR_s (zIR_s (zIR_s (zIR_e (by omega) (by omega) hk))))) (zSub_cons (fun _ _ h h' hk => zIR_s (zIR_s (zIR_s (zIR_s (zIR_s (zIR_e (by omega) (by omega) hk)))))) (zSub_cons (fun _ _ h h' hk => zIR_s (zIR_s (zIR_s (zIR_s (zIR_s (zIR_s (zIR_e (by omega) (by omega) hk))))))) (zSub_cons (fun _ _ h h' hk => zIR_s (zIR_s (zIR_s (zIR_s (zIR_s (zIR_s (zIR_s (zIR_e (by omega) (by omega) hk)))))))) (zSub_cons (fun _ _ h h' hk => zIR_s (zIR_s (zIR_s (zIR_s (zIR_s (zIR_s (zIR_s (zIR_s (zIR_e (by omega) (by omega) hk))))))))) (zSub_cons (fun _ _ h h' hk => zIR_s (zIR_s (zIR_s (zIR_s (zIR_s (zIR_s (zIR_s (zIR_s (zIR_s (zIR_e (by omega) (by omega) hk)))))))))) (zSub_cons (fun _ _ h h' hk => zIR_s (zIR_s (zIR_s (zIR_s (zIR_s (zIR_s (zIR_s (zIR_s (zIR_s (zIR_s (zIR_e (by omega) (by omega) hk))))))))))) (zSub_cons (fun _ _ h h' hk => zIR_s (zIR_s (zIR_s (zIR_s (zIR_s (zIR_s (zIR_s (zIR_s (zIR_s (zIR_s (zIR_s (zIR_e (by omega) (by omega) hk)))))))))))) (zSub_cons (fun _ _ h h' hk => zIR_s (zIR_s (zIR_s (zIR_s (zIR_s (zIR_s (zIR_s (zIR_s (zIR_s (zIR_s (zIR_s (zIR_s (zIR_e (by omega) (by omega) hk))))))))))))) zSub_nil)))))))))))))
              obtain ⟨x51, f52, h53, x54, f55, h56, h57, x58, f59, h60, h61, h62, x63, f64, h65, h66, h67, -⟩ := hq49
              have := zt_1
              show ZW _ _ _ _ _ _ _ (84, [some (.ref 386)], [], M47)
              refine w_gt dX9_statement_84 (t := 96) rfl ?_
              refine w_en dX9_statement_96 rfl ?_
              exact ⟨_, rfl, hJ50, ⟨x51, f52, (by omega), x54, f55, (by omega), (by omega), x58, f59, (by omega), (by omega), (by omega), x63, f64, (by omega), (by omega), (by omega), trivial⟩⟩
        · skip
          refine w_cne_f dX9_isWord_5 (t := 21) rfl (by have := zt_1; omega) ?_
          refine w_lo dX9_isWord_8 rfl rfl rfl rfl ?_
          refine w_gfl dX9_isWord_9 rfl hJ0.1 zs_386 (Nat.le_of_ble_eq_true rfl) zo_386_7 ?_
          intro y71 f68 h69 h70
          refine w_lo dX9_isWord_12 rfl rfl rfl rfl ?_
          refine w_lcm dX9_isWord_13 ?_
          intro x72 h73
          have := ztl_1885434739
          rcases Int.decEq x72.toInt (0 : Int) with h74 | h74
          · skip
            refine w_ine_t dX9_isWord_14 (t := 21) rfl (by omega) ?_
            refine w_ic dX9_isWord_21 zi_0 ?_
            refine w_en dX9_isWord_22 rfl ?_
            show ZW _ _ _ _ _ _ _ (58, [some (.ref 386)], [.int 0], M0)
            refine w_ieq_t dX9_statement_58 (t := 69) rfl (by have := zt_0; omega) ?_
            refine w_lo dX9_statement_69 rfl rfl rfl rfl ?_
            refine w_me (st' := [.long (1684366704 : Int64), .ref 386]) dX9_statement_70 rfl rfl rfl rfl rfl ?_
            refine w_iv dX9_statement_73 rfl rfl (As := [.long (1684366704 : Int64)]) rfl rfl hJ0.1.1 zs_386 (Nat.le_of_ble_eq_true rfl) ?_
            refine ZV.of (ini := false) rfl (Nat.le_of_ble_eq_true rfl) (by decide +kernel) ?_
            show ZW _ _ _ _ _ _ _ (0, [some (.ref 386), some (.long (1684366704 : Int64)), none], [], M0)
            refine w_lo dX9_isWord_0 rfl rfl rfl rfl ?_
            refine w_gf dX9_isWord_1 rfl hJ0.1.1 zs_386 hfsg ?_
            refine w_ic dX9_isWord_4 zi_1 ?_
            refine w_cne_f dX9_isWord_5 (t := 21) rfl (by have := zt_1; omega) ?_
            refine w_lo dX9_isWord_8 rfl rfl rfl rfl ?_
            refine w_gf dX9_isWord_9 rfl hJ0.1.1 zs_386 f68 ?_
            refine w_lo dX9_isWord_12 rfl rfl rfl rfl ?_
            refine w_lcm dX9_isWord_13 ?_
            intro x75 h76
            have := ztl_1684366704
            rcases Int.decEq x75.toInt (0 : Int) with h77 | h77
            · skip
              refine w_ine_t dX9_isWord_14 (t := 21) rfl (by omega) ?_
              refine w_ic dX9_isWord_21 zi_0 ?_
              refine w_en dX9_isWord_22 rfl ?_
              show ZW _ _ _ _ _ _ _ (76, [some (.ref 386)], [.int 0], M0)
              refine w_ieq_t dX9_statement_76 (t := 87) rfl (by have := zt_0; omega) ?_
              refine w_lo dX9_statement_87 rfl rfl rfl rfl ?_
              refine w_ic dX9_statement_88 zi_1 ?_
              refine w_lo dX9_statement_89 rfl rfl rfl rfl ?_
              refine w_gfi dX9_statement_90 rfl hJ0.1 zs_386 (Nat.le_of_ble_eq_true rfl) zo_386_4 ?_
              intro x78 f79 h80 h81
              refine w_iv dX9_statement_93 rfl rfl (As := [.int 1, .int x78]) rfl rfl hJ0.1.1 zs_386 (Nat.le_of_ble_eq_true rfl) ?_
              refine ZV.of (ini := false) rfl (Nat.le_of_ble_eq_true rfl) (by decide +kernel) ?_
              show ZW _ _ _ _ _ _ _ (0, [some (.ref 386), some (.int 1), some (.int x78)], [], M0)
              refine w_lo dX9_blame_0 rfl rfl rfl rfl ?_
              refine w_gf dX9_blame_1 rfl hJ0.1.1 zs_386 hffk ?_
              rcases zcut (0 : Int) fk.toInt with h82 | h82
              · skip
                refine w_ile_f dX9_blame_4 (t := 8) rfl (by omega) ?_
                refine w_en dX9_blame_7 rfl ?_
                show ZW _ _ _ _ _ _ _ (96, [some (.ref 386)], [], M0)
                refine w_en dX9_statement_96 rfl ?_
                exact ⟨_, rfl, hJ0, ⟨sz, hfsz, (by omega), sg, hfsg, (by omega), (by omega), se, hfse, (by omega), (by omega), (by omega), fk, hffk, (by omega), (by omega), (by omega), trivial⟩⟩
              · skip
                refine w_ile_t dX9_blame_4 (t := 8) rfl (by omega) ?_
                refine w_lo dX9_blame_8 rfl rfl rfl rfl ?_
                refine w_lo dX9_blame_9 rfl rfl rfl rfl ?_
                refine w_pfi dX9_blame_10 rfl hJ0 zs_386 (Nat.le_of_ble_eq_true rfl) zo_386_8 (by have := zt_1; omega) (by have := zt_1; omega) (zIR_s (zIR_s (zIR_s (zIR_s (zIR_s (zIR_s (zIR_s (zIR_s (zIR_s (zIR_s (zIR_s (zIR_k (by omega) (by omega))))))))))))) rfl rfl rfl ?_
                intro M83 hJ84 f85 hn86
                refine w_lo dX9_blame_13 rfl rfl rfl rfl ?_
                refine w_lo dX9_blame_14 rfl rfl rfl rfl ?_
                refine w_pfi dX9_blame_15 rfl hJ84 zs_386 (Nat.le_of_ble_eq_true rfl) zo_386_9 (by omega) (by omega) (zIR_s (zIR_s (zIR_s (zIR_s (zIR_s (zIR_s (zIR_s (zIR_s (zIR_s (zIR_s (zIR_s (zIR_s (zIR_k (by omega) (by omega)))))))))))))) rfl rfl rfl ?_
                intro M87 hJ88 f89 hn90
                refine w_en dX9_blame_18 rfl ?_
                show ZW _ _ _ _ _ _ _ (96, [some (.ref 386)], [], M87)
                refine w_en dX9_statement_96 rfl ?_
                have f91 := (hn90 (386) 2 (Or.inr (by decide))).trans ((hn86 (386) 2 (Or.inr (by decide))).trans (hfsz))
                have f92 := (hn90 (386) 3 (Or.inr (by decide))).trans ((hn86 (386) 3 (Or.inr (by decide))).trans (hfsg))
                have f93 := (hn90 (386) 5 (Or.inr (by decide))).trans ((hn86 (386) 5 (Or.inr (by decide))).trans (hfse))
                have f94 := (hn90 (386) 8 (Or.inr (by decide))).trans (f85)
                exact ⟨_, rfl, hJ88, ⟨sz, f91, (by omega), sg, f92, (by omega), (by omega), se, f93, (by omega), (by omega), (by omega), 1, f94, (by have := zt_1; omega), (by have := zt_1; omega), (by have := zt_1; omega), trivial⟩⟩
            · skip
              refine w_ine_f dX9_isWord_14 (t := 21) rfl (by omega) ?_
              refine w_ic dX9_isWord_17 zi_1 ?_
              refine w_gt dX9_isWord_18 (t := 22) rfl ?_
              refine w_en dX9_isWord_22 rfl ?_
              show ZW _ _ _ _ _ _ _ (76, [some (.ref 386)], [.int 1], M0)
              refine w_ieq_f dX9_statement_76 (t := 87) rfl (by have := zt_1; omega) ?_
              refine w_lo dX9_statement_79 rfl rfl rfl rfl ?_
              refine w_ic dX9_statement_80 zi_1 ?_
              refine w_iv dX9_statement_81 rfl rfl (As := [.int 1]) rfl rfl hJ0.1.1 zs_386 (Nat.le_of_ble_eq_true rfl) ?_
              refine ZV.imp (k_2327 1 (by have := zt_1; omega) (by have := zt_1; omega) sz hfsz (by have := zt_1; omega) (by have := zt_1; omega) sg hfsg (by have := zt_1; omega) (by have := zt_1; omega) se hfse (by have := zt_1; omega) (by have := zt_1; omega) fk hffk (by have := zt_1; omega) (by have := zt_1; omega) hN hJ0.1) ?_
              rintro _ ⟨M95, rfl, hJ96, hq97⟩
              have hJ98 := zJ_trans hJ0 hJ96 (zSub_cons (fun _ _ h h' hk => zIR_a (by omega) (by omega)) (zSub_cons (fun _ _ h h' hk => zIR_s (zIR_e (by omega) (by omega) hk)) (zSub_cons (fun _ _ h h' hk => zIR_s (zIR_s (zIR_e (by omega) (by omega) hk))) (zSub_cons (fun _ _ h h' hk => zIR_s (zIR_s (zIR_s (zIR_e (by omega) (by omega) hk)))) (zSub_cons (fun _ _ h h' hk => zIR_s (zIR_s (zIR_s (zIR_s (zIR_e (by omega) (by omega) hk))))) (zSub_cons (fun _ _ h h' hk => zIR_s (zIR_s (zIR_s (zIR_s (zIR_s (zIR_e (by omega) (by omega) hk)))))) (zSub_cons (fun _ _ h h' hk => zIR_s (zIR_s (zIR_s (zIR_s (zIR_s (zIR_s (zIR_e (by omega) (by omega) hk))))))) (zSub_cons (fun _ _ h h' hk => zIR_s (zIR_s (zIR_s (zIR_s (zIR_s (zIR_s (zIR_s (zIR_e (by omega) (by omega) hk)))))))) (zSub_cons (fun _ _ h h' hk => zIR_s (zIR_s (zIR_s (zIR_s (zIR_s (zIR_s (zIR_s (zIR_s (zIR_e (by omega) (by omega) hk))))))))) (zSub_cons (fun _ _ h h' hk => zIR_s (zIR_s (zIR_s (zIR_s (zIR_s (zIR_s (zIR_s (zIR_s (zIR_s (zIR_e (by omega) (by omega) hk)))))))))) (zSub_cons (fun _ _ h h' hk => zIR_s (zIR_s (zIR_s (zIR_s (zIR_s (zIR_s (zIR_s (zIR_s (zIR_s (zIR_s (zIR_e (by omega) (by omega) hk))))))))))) (zSub_cons (fun _ _ h h' hk => zIR_s (zIR_s (zIR_s (zIR_s (zIR_s (zIR_s (zIR_s (zIR_s (zIR_s (zIR_s (zIR_s (zIR_e (by omega) (by omega) hk)))))))))))) (zSub_cons (fun _ _ h h' hk => zIR_s (zIR_s (zIR_s (zIR_s (zIR_s (zIR_s (zIR_s (zIR_s (zIR_s (zIR_s (zIR_s (zIR_s (zIR_e (by omega) (by omega) hk))))))))))))) zSub_nil)))))))))))))
              obtain ⟨x99, f100, h101, x102, f103, h104, h105, x106, f107, h108, h109, h110, x111, f112, h113, h114, h115, -⟩ := hq97
              have := zt_1
              show ZW _ _ _ _ _ _ _ (84, [some (.ref 386)], [], M95)
              refine w_gt dX9_statement_84 (t := 96) rfl ?_
              refine w_en dX9_statement_96 rfl ?_
              exact ⟨_, rfl, hJ98, ⟨x99, f100, (by omega), x102, f103, (by omega), (by omega), x106, f107, (by omega), (by omega), (by omega), x111, f112, (by omega), (by omega), (by omega), trivial⟩⟩
          · skip
            refine w_ine_f dX9_isWord_14 (t := 21) rfl (by omega) ?_
            refine w_ic dX9_isWord_17 zi_1 ?_
            refine w_gt dX9_isWord_18 (t := 22) rfl ?_
            refine w_en dX9_isWord_22 rfl ?_
            show ZW _ _ _ _ _ _ _ (58, [some (.ref 386)], [.int 1], M0)
            refine w_ieq_f dX9_statement_58 (t := 69) rfl (by have := zt_1; omega) ?_
            refine w_lo dX9_statement_61 rfl rfl rfl rfl ?_
            refine w_ic dX9_statement_62 zi_0 ?_
            refine w_iv dX9_statement_63 rfl rfl (As := [.int 0]) rfl rfl hJ0.1.1 zs_386 (Nat.le_of_ble_eq_true rfl) ?_
            refine ZV.imp (k_2327 0 (by have := zt_0; omega) (by have := zt_0; omega) sz hfsz (by have := zt_0; omega) (by have := zt_0; omega) sg hfsg (by have := zt_0; omega) (by have := zt_0; omega) se hfse (by have := zt_0; omega) (by have := zt_0; omega) fk hffk (by have := zt_0; omega) (by have := zt_0; omega) hN hJ0.1) ?_
            rintro _ ⟨M116, rfl, hJ117, hq118⟩
            have hJ119 := zJ_trans hJ0 hJ117 (zSub_cons (fun _ _ h h' hk => zIR_a (by omega) (by omega)) (zSub_cons (fun _ _ h h' hk => zIR_s (zIR_e (by omega) (by omega) hk)) (zSub_cons (fun _ _ h h' hk => zIR_s (zIR_s (zIR_e (by omega) (by omega) hk))) (zSub_cons (fun _ _ h h' hk => zIR_s (zIR_s (zIR_s (zIR_e (by omega) (by omega) hk)))) (zSub_cons (fun _ _ h h' hk => zIR_s (zIR_s (zIR_s (zIR_s (zIR_e (by omega) (by omega) hk))))) (zSub_cons (fun _ _ h h' hk => zIR_s (zIR_s (zIR_s (zIR_s (zIR_s (zIR_e (by omega) (by omega) hk)))))) (zSub_cons (fun _ _ h h' hk => zIR_s (zIR_s (zIR_s (zIR_s (zIR_s (zIR_s (zIR_e (by omega) (by omega) hk))))))) (zSub_cons (fun _ _ h h' hk => zIR_s (zIR_s (zIR_s (zIR_s (zIR_s (zIR_s (zIR_s (zIR_e (by omega) (by omega) hk)))))))) (zSub_cons (fun _ _ h h' hk => zIR_s (zIR_s (zIR_s (zIR_s (zIR_s (zIR_s (zIR_s (zIR_s (zIR_e (by omega) (by omega) hk))))))))) (zSub_cons (fun _ _ h h' hk => zIR_s (zIR_s (zIR_s (zIR_s (zIR_s (zIR_s (zIR_s (zIR_s (zIR_s (zIR_e (by omega) (by omega) hk)))))))))) (zSub_cons (fun _ _ h h' hk => zIR_s (zIR_s (zIR_s (zIR_s (zIR_s (zIR_s (zIR_s (zIR_s (zIR_s (zIR_s (zIR_e (by omega) (by omega) hk))))))))))) (zSub_cons (fun _ _ h h' hk => zIR_s (zIR_s (zIR_s (zIR_s (zIR_s (zIR_s (zIR_s (zIR_s (zIR_s (zIR_s (zIR_s (zIR_e (by omega) (by omega) hk)))))))))))) (zSub_cons (fun _ _ h h' hk => zIR_s (zIR_s (zIR_s (zIR_s (zIR_s (zIR_s (zIR_s (zIR_s (zIR_s (zIR_s (zIR_s (zIR_s (zIR_e (by omega) (by omega) hk))))))))))))) zSub_nil)))))))))))))
            obtain ⟨x120, f121, h122, x123, f124, h125, h126, x127, f128, h129, h130, h131, x132, f133, h134, h135, h136, -⟩ := hq118
            have := zt_0
            show ZW _ _ _ _ _ _ _ (66, [some (.ref 386)], [], M116)
            refine w_gt dX9_statement_66 (t := 96) rfl ?_
            refine w_en dX9_statement_96 rfl ?_
            exact ⟨_, rfl, hJ119, ⟨x120, f121, (by omega), x123, f124, (by omega), (by omega), x127, f128, (by omega), (by omega), (by omega), x132, f133, (by omega), (by omega), (by omega), trivial⟩⟩
      · skip
        refine w_cne_f dX9_isWord_5 (t := 21) rfl (by have := zt_1; omega) ?_
        refine w_lo dX9_isWord_8 rfl rfl rfl rfl ?_
        refine w_gfl dX9_isWord_9 rfl hJ0.1 zs_386 (Nat.le_of_ble_eq_true rfl) zo_386_7 ?_
        intro y140 f137 h138 h139
        refine w_lo dX9_isWord_12 rfl rfl rfl rfl ?_
        refine w_lcm dX9_isWord_13 ?_
        intro x141 h142
        have := ztl_431415976301
        rcases Int.decEq x141.toInt (0 : Int) with h143 | h143
        · skip
          refine w_ine_t dX9_isWord_14 (t := 21) rfl (by omega) ?_
          refine w_ic dX9_isWord_21 zi_0 ?_
          refine w_en dX9_isWord_22 rfl ?_
          show ZW _ _ _ _ _ _ _ (41, [some (.ref 386)], [.int 0], M0)
          refine w_ieq_t dX9_statement_41 (t := 51) rfl (by have := zt_0; omega) ?_
          refine w_lo dX9_statement_51 rfl rfl rfl rfl ?_
          refine w_me (st' := [.long (1885434739 : Int64), .ref 386]) dX9_statement_52 rfl rfl rfl rfl rfl ?_
          refine w_iv dX9_statement_55 rfl rfl (As := [.long (1885434739 : Int64)]) rfl rfl hJ0.1.1 zs_386 (Nat.le_of_ble_eq_true rfl) ?_
          refine ZV.of (ini := false) rfl (Nat.le_of_ble_eq_true rfl) (by decide +kernel) ?_
          show ZW _ _ _ _ _ _ _ (0, [some (.ref 386), some (.long (1885434739 : Int64)), none], [], M0)
          refine w_lo dX9_isWord_0 rfl rfl rfl rfl ?_
          refine w_gf dX9_isWord_1 rfl hJ0.1.1 zs_386 hfsg ?_
          refine w_ic dX9_isWord_4 zi_1 ?_
          refine w_cne_f dX9_isWord_5 (t := 21) rfl (by have := zt_1; omega) ?_
          refine w_lo dX9_isWord_8 rfl rfl rfl rfl ?_
          refine w_gf dX9_isWord_9 rfl hJ0.1.1 zs_386 f137 ?_
          refine w_lo dX9_isWord_12 rfl rfl rfl rfl ?_
          refine w_lcm dX9_isWord_13 ?_
          intro x144 h145
          have := ztl_1885434739
          rcases Int.decEq x144.toInt (0 : Int) with h146 | h146
          · skip
            refine w_ine_t dX9_isWord_14 (t := 21) rfl (by omega) ?_
            refine w_ic dX9_isWord_21 zi_0 ?_
            refine w_en dX9_isWord_22 rfl ?_
            show ZW _ _ _ _ _ _ _ (58, [some (.ref 386)], [.int 0], M0)
            refine w_ieq_t dX9_statement_58 (t := 69) rfl (by have := zt_0; omega) ?_
            refine w_lo dX9_statement_69 rfl rfl rfl rfl ?_
            refine w_me (st' := [.long (1684366704 : Int64), .ref 386]) dX9_statement_70 rfl rfl rfl rfl rfl ?_
            refine w_iv dX9_statement_73 rfl rfl (As := [.long (1684366704 : Int64)]) rfl rfl hJ0.1.1 zs_386 (Nat.le_of_ble_eq_true rfl) ?_
            refine ZV.of (ini := false) rfl (Nat.le_of_ble_eq_true rfl) (by decide +kernel) ?_
            show ZW _ _ _ _ _ _ _ (0, [some (.ref 386), some (.long (1684366704 : Int64)), none], [], M0)
            refine w_lo dX9_isWord_0 rfl rfl rfl rfl ?_
            refine w_gf dX9_isWord_1 rfl hJ0.1.1 zs_386 hfsg ?_
            refine w_ic dX9_isWord_4 zi_1 ?_
            refine w_cne_f dX9_isWord_5 (t := 21) rfl (by have := zt_1; omega) ?_
            refine w_lo dX9_isWord_8 rfl rfl rfl rfl ?_
            refine w_gf dX9_isWord_9 rfl hJ0.1.1 zs_386 f137 ?_
            refine w_lo dX9_isWord_12 rfl rfl rfl rfl ?_
            refine w_lcm dX9_isWord_13 ?_
            intro x147 h148
            have := ztl_1684366704
            rcases Int.decEq x147.toInt (0 : Int) with h149 | h149
            · skip
              refine w_ine_t dX9_isWord_14 (t := 21) rfl (by omega) ?_
              refine w_ic dX9_isWord_21 zi_0 ?_
              refine w_en dX9_isWord_22 rfl ?_
              show ZW _ _ _ _ _ _ _ (76, [some (.ref 386)], [.int 0], M0)
              refine w_ieq_t dX9_statement_76 (t := 87) rfl (by have := zt_0; omega) ?_
              refine w_lo dX9_statement_87 rfl rfl rfl rfl ?_
              refine w_ic dX9_statement_88 zi_1 ?_
              refine w_lo dX9_statement_89 rfl rfl rfl rfl ?_
              refine w_gfi dX9_statement_90 rfl hJ0.1 zs_386 (Nat.le_of_ble_eq_true rfl) zo_386_4 ?_
              intro x150 f151 h152 h153
              refine w_iv dX9_statement_93 rfl rfl (As := [.int 1, .int x150]) rfl rfl hJ0.1.1 zs_386 (Nat.le_of_ble_eq_true rfl) ?_
              refine ZV.of (ini := false) rfl (Nat.le_of_ble_eq_true rfl) (by decide +kernel) ?_
              show ZW _ _ _ _ _ _ _ (0, [some (.ref 386), some (.int 1), some (.int x150)], [], M0)
              refine w_lo dX9_blame_0 rfl rfl rfl rfl ?_
              refine w_gf dX9_blame_1 rfl hJ0.1.1 zs_386 hffk ?_
              rcases zcut (0 : Int) fk.toInt with h154 | h154
              · skip
                refine w_ile_f dX9_blame_4 (t := 8) rfl (by omega) ?_
                refine w_en dX9_blame_7 rfl ?_
                show ZW _ _ _ _ _ _ _ (96, [some (.ref 386)], [], M0)
                refine w_en dX9_statement_96 rfl ?_
                exact ⟨_, rfl, hJ0, ⟨sz, hfsz, (by omega), sg, hfsg, (by omega), (by omega), se, hfse, (by omega), (by omega), (by omega), fk, hffk, (by omega), (by omega), (by omega), trivial⟩⟩
              · skip
                refine w_ile_t dX9_blame_4 (t := 8) rfl (by omega) ?_
                refine w_lo dX9_blame_8 rfl rfl rfl rfl ?_
                refine w_lo dX9_blame_9 rfl rfl rfl rfl ?_
                refine w_pfi dX9_blame_10 rfl hJ0 zs_386 (Nat.le_of_ble_eq_true rfl) zo_386_8 (by have := zt_1; omega) (by have := zt_1; omega) (zIR_s (zIR_s (zIR_s (zIR_s (zIR_s (zIR_s (zIR_s (zIR_s (zIR_s (zIR_s (zIR_s (zIR_k (by omega) (by omega))))))))))))) rfl rfl rfl ?_
                intro M155 hJ156 f157 hn158
                refine w_lo dX9_blame_13 rfl rfl rfl rfl ?_
                refine w_lo dX9_blame_14 rfl rfl rfl rfl ?_
                refine w_pfi dX9_blame_15 rfl hJ156 zs_386 (Nat.le_of_ble_eq_true rfl) zo_386_9 (by omega) (by omega) (zIR_s (zIR_s (zIR_s (zIR_s (zIR_s (zIR_s (zIR_s (zIR_s (zIR_s (zIR_s (zIR_s (zIR_s (zIR_k (by omega) (by omega)))))))))))))) rfl rfl rfl ?_
                intro M159 hJ160 f161 hn162
                refine w_en dX9_blame_18 rfl ?_
                show ZW _ _ _ _ _ _ _ (96, [some (.ref 386)], [], M159)
                refine w_en dX9_statement_96 rfl ?_
                have f163 := (hn162 (386) 2 (Or.inr (by decide))).trans ((hn158 (386) 2 (Or.inr (by decide))).trans (hfsz))
                have f164 := (hn162 (386) 3 (Or.inr (by decide))).trans ((hn158 (386) 3 (Or.inr (by decide))).trans (hfsg))
                have f165 := (hn162 (386) 5 (Or.inr (by decide))).trans ((hn158 (386) 5 (Or.inr (by decide))).trans (hfse))
                have f166 := (hn162 (386) 8 (Or.inr (by decide))).trans (f157)
                exact ⟨_, rfl, hJ160, ⟨sz, f163, (by omega), sg, f164, (by omega), (by omega), se, f165, (by omega), (by omega), (by omega), 1, f166, (by have := zt_1; omega), (by have := zt_1; omega), (by have := zt_1; omega), trivial⟩⟩
            · skip
              refine w_ine_f dX9_isWord_14 (t := 21) rfl (by omega) ?_
              refine w_ic dX9_isWord_17 zi_1 ?_
              refine w_gt dX9_isWord_18 (t := 22) rfl ?_
              refine w_en dX9_isWord_22 rfl ?_
              show ZW _ _ _ _ _ _ _ (76, [some (.ref 386)], [.int 1], M0)
              refine w_ieq_f dX9_statement_76 (t := 87) rfl (by have := zt_1; omega) ?_
              refine w_lo dX9_statement_79 rfl rfl rfl rfl ?_
              refine w_ic dX9_statement_80 zi_1 ?_
              refine w_iv dX9_statement_81 rfl rfl (As := [.int 1]) rfl rfl hJ0.1.1 zs_386 (Nat.le_of_ble_eq_true rfl) ?_
              refine ZV.imp (k_2327 1 (by have := zt_1; omega) (by have := zt_1; omega) sz hfsz (by have := zt_1; omega) (by have := zt_1; omega) sg hfsg (by have := zt_1; omega) (by have := zt_1; omega) se hfse (by have := zt_1; omega) (by have := zt_1; omega) fk hffk (by have := zt_1; omega) (by have := zt_1; omega) hN hJ0.1) ?_
              rintro _ ⟨M167, rfl, hJ168, hq169⟩
              have hJ170 := zJ_trans hJ0 hJ168 (zSub_cons (fun _ _ h h' hk => zIR_a (by omega) (by omega)) (zSub_cons (fun _ _ h h' hk => zIR_s (zIR_e (by omega) (by omega) hk)) (zSub_cons (fun _ _ h h' hk => zIR_s (zIR_s (zIR_e (by omega) (by omega) hk))) (zSub_cons (fun _ _ h h' hk => zIR_s (zIR_s (zIR_s (zIR_e (by omega) (by omega) hk)))) (zSub_cons (fun _ _ h h' hk => zIR_s (zIR_s (zIR_s (zIR_s (zIR_e (by omega) (by omega) hk))))) (zSub_cons (fun _ _ h h' hk => zIR_s (zIR_s (zIR_s (zIR_s (zIR_s (zIR_e (by omega) (by omega) hk)))))) (zSub_cons (fun _ _ h h' hk => zIR_s (zIR_s (zIR_s (zIR_s (zIR_s (zIR_s (zIR_e (by omega) (by omega) hk))))))) (zSub_cons (fun _ _ h h' hk => zIR_s (zIR_s (zIR_s (zIR_s (zIR_s (zIR_s (zIR_s (zIR_e (by omega) (by omega) hk)))))))) (zSub_cons (fun _ _ h h' hk => zIR_s (zIR_s (zIR_s (zIR_s (zIR_s (zIR_s (zIR_s (zIR_s (zIR_e (by omega) (by omega) hk))))))))) (zSub_cons (fun _ _ h h' hk => zIR_s (zIR_s (zIR_s (zIR_s (zIR_s (zIR_s (zIR_s (zIR_s (zIR_s (zIR_e (by omega) (by omega) hk)))))))))) (zSub_cons (fun _ _ h h' hk => zIR_s (zIR_s (zIR_s (zIR_s (zIR_s (zIR_s (zIR_s (zIR_s (zIR_s (zIR_s (zIR_e (by omega) (by omega) hk))))))))))) (zSub_cons (fun _ _ h h' hk => zIR_s (zIR_s (zIR_s (zIR_s (zIR_s (zIR_s (zIR_s (zIR_s (zIR_s (zIR_s (zIR_s (zIR_e (by omega) (by omega) hk)))))))))))) (zSub_cons (fun _ _ h h' hk => zIR_s (zIR_s (zIR_s (zIR_s (zIR_s (zIR_s (zIR_s (zIR_s (zIR_s (zIR_s (zIR_s (zIR_s (zIR_e (by omega) (by omega) hk))))))))))))) zSub_nil)))))))))))))
              obtain ⟨x171, f172, h173, x174, f175, h176, h177, x178, f179, h180, h181, h182, x183, f184, h185, h186, h187, -⟩ := hq169
              have := zt_1
              show ZW _ _ _ _ _ _ _ (84, [some (.ref 386)], [], M167)
              refine w_gt dX9_statement_84 (t := 96) rfl ?_
              refine w_en dX9_statement_96 rfl ?_
              exact ⟨_, rfl, hJ170, ⟨x171, f172, (by omega), x174, f175, (by omega), (by omega), x178, f179, (by omega), (by omega), (by omega), x183, f184, (by omega), (by omega), (by omega), trivial⟩⟩
          · skip
            refine w_ine_f dX9_isWord_14 (t := 21) rfl (by omega) ?_
            refine w_ic dX9_isWord_17 zi_1 ?_
            refine w_gt dX9_isWord_18 (t := 22) rfl ?_
            refine w_en dX9_isWord_22 rfl ?_
            show ZW _ _ _ _ _ _ _ (58, [some (.ref 386)], [.int 1], M0)
            refine w_ieq_f dX9_statement_58 (t := 69) rfl (by have := zt_1; omega) ?_
            refine w_lo dX9_statement_61 rfl rfl rfl rfl ?_
            refine w_ic dX9_statement_62 zi_0 ?_
            refine w_iv dX9_statement_63 rfl rfl (As := [.int 0]) rfl rfl hJ0.1.1 zs_386 (Nat.le_of_ble_eq_true rfl) ?_
            refine ZV.imp (k_2327 0 (by have := zt_0; omega) (by have := zt_0; omega) sz hfsz (by have := zt_0; omega) (by have := zt_0; omega) sg hfsg (by have := zt_0; omega) (by have := zt_0; omega) se hfse (by have := zt_0; omega) (by have := zt_0; omega) fk hffk (by have := zt_0; omega) (by have := zt_0; omega) hN hJ0.1) ?_
            rintro _ ⟨M188, rfl, hJ189, hq190⟩
            have hJ191 := zJ_trans hJ0 hJ189 (zSub_cons (fun _ _ h h' hk => zIR_a (by omega) (by omega)) (zSub_cons (fun _ _ h h' hk => zIR_s (zIR_e (by omega) (by omega) hk)) (zSub_cons (fun _ _ h h' hk => zIR_s (zIR_s (zIR_e (by omega) (by omega) hk))) (zSub_cons (fun _ _ h h' hk => zIR_s (zIR_s (zIR_s (zIR_e (by omega) (by omega) hk)))) (zSub_cons (fun _ _ h h' hk => zIR_s (zIR_s (zIR_s (zIR_s (zIR_e (by omega) (by omega) hk))))) (zSub_cons (fun _ _ h h' hk => zIR_s (zIR_s (zIR_s (zIR_s (zIR_s (zIR_e (by omega) (by omega) hk)))))) (zSub_cons (fun _ _ h h' hk => zIR_s (zIR_s (zIR_s (zIR_s (zIR_s (zIR_s (zIR_e (by omega) (by omega) hk))))))) (zSub_cons (fun _ _ h h' hk => zIR_s (zIR_s (zIR_s (zIR_s (zIR_s (zIR_s (zIR_s (zIR_e (by omega) (by omega) hk)))))))) (zSub_cons (fun _ _ h h' hk => zIR_s (zIR_s (zIR_s (zIR_s (zIR_s (zIR_s (zIR_s (zIR_s (zIR_e (by omega) (by omega) hk))))))))) (zSub_cons (fun _ _ h h' hk => zIR_s (zIR_s (zIR_s (zIR_s (zIR_s (zIR_s (zIR_s (zIR_s (zIR_s (zIR_e (by omega) (by omega) hk)))))))))) (zSub_cons (fun _ _ h h' hk => zIR_s (zIR_s (zIR_s (zIR_s (zIR_s (zIR_s (zIR_s (zIR_s (zIR_s (zIR_s (zIR_e (by omega) (by omega) hk))))))))))) (zSub_cons (fun _ _ h h' hk => zIR_s (zIR_s (zIR_s (zIR_s (zIR_s (zIR_s (zIR_s (zIR_s (zIR_s (zIR_s (zIR_s (zIR_e (by omega) (by omega) hk)))))))))))) (zSub_cons (fun _ _ h h' hk => zIR_s (zIR_s (zIR_s (zIR_s (zIR_s (zIR_s (zIR_s (zIR_s (zIR_s (zIR_s (zIR_s (zIR_s (zIR_e (by omega) (by omega) hk))))))))))))) zSub_nil)))))))))))))
            obtain ⟨x192, f193, h194, x195, f196, h197, h198, x199, f200, h201, h202, h203, x204, f205, h206, h207, h208, -⟩ := hq190
            have := zt_0
            show ZW _ _ _ _ _ _ _ (66, [some (.ref 386)], [], M188)
            refine w_gt dX9_statement_66 (t := 96) rfl ?_
            refine w_en dX9_statement_96 rfl ?_
            exact ⟨_, rfl, hJ191, ⟨x192, f193, (by omega), x195, f196, (by omega), (by omega), x199, f200, (by omega), (by omega), (by omega), x204, f205, (by omega), (by omega), (by omega), trivial⟩⟩
        · skip
          refine w_ine_f dX9_isWord_14 (t := 21) rfl (by omega) ?_
          refine w_ic dX9_isWord_17 zi_1 ?_
          refine w_gt dX9_isWord_18 (t := 22) rfl ?_
          refine w_en dX9_isWord_22 rfl ?_
          show ZW _ _ _ _ _ _ _ (41, [some (.ref 386)], [.int 1], M0)
          refine w_ieq_f dX9_statement_41 (t := 51) rfl (by have := zt_1; omega) ?_
          refine w_lo dX9_statement_44 rfl rfl rfl rfl ?_
          refine w_iv dX9_statement_45 rfl rfl (As := []) rfl rfl hJ0.1.1 zs_386 (Nat.le_of_ble_eq_true rfl) ?_
          refine ZV.imp (k_2326 sz hfsz (by omega) (by omega) sg hfsg (by omega) (by omega) se hfse (by omega) (by omega) fk hffk (by omega) (by omega) hN hJ0.1) ?_
          rintro _ ⟨M209, rfl, hJ210, hq211⟩
          have hJ212 := zJ_trans hJ0 hJ210 (zSub_cons (fun _ _ h h' hk => zIR_a (by omega) (by omega)) (zSub_cons (fun _ _ h h' hk => zIR_s (zIR_e (by omega) (by omega) hk)) (zSub_cons (fun _ _ h h' hk => zIR_s (zIR_s (zIR_s (zIR_e (by omega) (by omega) hk)))) (zSub_cons (fun _ _ h h' hk => zIR_s (zIR_s (zIR_s (zIR_s (zIR_s (zIR_s (zIR_s (zIR_s (zIR_e (by omega) (by omega) hk))))))))) (zSub_cons (fun _ _ h h' hk => zIR_s (zIR_s (zIR_s (zIR_s (zIR_s (zIR_s (zIR_s (zIR_s (zIR_s (zIR_e (by omega) (by omega) hk)))))))))) (zSub_cons (fun _ _ h h' hk => zIR_s (zIR_s (zIR_s (zIR_s (zIR_s (zIR_s (zIR_s (zIR_s (zIR_s (zIR_s (zIR_e (by omega) (by omega) hk))))))))))) (zSub_cons (fun _ _ h h' hk => zIR_s (zIR_s (zIR_s (zIR_s (zIR_s (zIR_s (zIR_s (zIR_s (zIR_s (zIR_s (zIR_s (zIR_e (by omega) (by omega) hk)))))))))))) (zSub_cons (fun _ _ h h' hk => zIR_s (zIR_s (zIR_s (zIR_s (zIR_s (zIR_s (zIR_s (zIR_s (zIR_s (zIR_s (zIR_s (zIR_s (zIR_e (by omega) (by omega) hk))))))))))))) zSub_nil))))))))
          obtain ⟨x213, f214, h215, x216, f217, h218, h219, x220, f221, h222, h223, h224, x225, f226, h227, h228, h229, -⟩ := hq211
          show ZW _ _ _ _ _ _ _ (48, [some (.ref 386)], [], M209)
          refine w_gt dX9_statement_48 (t := 96) rfl ?_
          refine w_en dX9_statement_96 rfl ?_
          exact ⟨_, rfl, hJ212, ⟨x213, f214, (by omega), x216, f217, (by omega), (by omega), x220, f221, (by omega), (by omega), (by omega), x225, f226, (by omega), (by omega), (by omega), trivial⟩⟩
    · skip
      refine w_cne_f dX9_isWord_5 (t := 21) rfl (by have := zt_1; omega) ?_
      refine w_lo dX9_isWord_8 rfl rfl rfl rfl ?_
      refine w_gfl dX9_isWord_9 rfl hJ0.1 zs_386 (Nat.le_of_ble_eq_true rfl) zo_386_7 ?_
      intro y233 f230 h231 h232
      refine w_lo dX9_isWord_12 rfl rfl rfl rfl ?_
      refine w_lcm dX9_isWord_13 ?_
      intro x234 h235
      have := ztl_495739560811
      rcases Int.decEq x234.toInt (0 : Int) with h236 | h236
      · skip
        refine w_ine_t dX9_isWord_14 (t := 21) rfl (by omega) ?_
        refine w_ic dX9_isWord_21 zi_0 ?_
        refine w_en dX9_isWord_22 rfl ?_
        show ZW _ _ _ _ _ _ _ (24, [some (.ref 386)], [.int 0], M0)
        refine w_ieq_t dX9_statement_24 (t := 34) rfl (by have := zt_0; omega) ?_
        refine w_lo dX9_statement_34 rfl rfl rfl rfl ?_
        refine w_me (st' := [.long (431415976301 : Int64), .ref 386]) dX9_statement_35 rfl rfl rfl rfl rfl ?_
        refine w_iv dX9_statement_38 rfl rfl (As := [.long (431415976301 : Int64)]) rfl rfl hJ0.1.1 zs_386 (Nat.le_of_ble_eq_true rfl) ?_
        refine ZV.of (ini := false) rfl (Nat.le_of_ble_eq_true rfl) (by decide +kernel) ?_
        show ZW _ _ _ _ _ _ _ (0, [some (.ref 386), some (.long (431415976301 : Int64)), none], [], M0)
        refine w_lo dX9_isWord_0 rfl rfl rfl rfl ?_
        refine w_gf dX9_isWord_1 rfl hJ0.1.1 zs_386 hfsg ?_
        refine w_ic dX9_isWord_4 zi_1 ?_
        refine w_cne_f dX9_isWord_5 (t := 21) rfl (by have := zt_1; omega) ?_
        refine w_lo dX9_isWord_8 rfl rfl rfl rfl ?_
        refine w_gf dX9_isWord_9 rfl hJ0.1.1 zs_386 f230 ?_
        refine w_lo dX9_isWord_12 rfl rfl rfl rfl ?_
        refine w_lcm dX9_isWord_13 ?_
        intro x237 h238
        have := ztl_431415976301
        rcases Int.decEq x237.toInt (0 : Int) with h239 | h239
        · skip
          refine w_ine_t dX9_isWord_14 (t := 21) rfl (by omega) ?_
          refine w_ic dX9_isWord_21 zi_0 ?_
          refine w_en dX9_isWord_22 rfl ?_
          show ZW _ _ _ _ _ _ _ (41, [some (.ref 386)], [.int 0], M0)
          refine w_ieq_t dX9_statement_41 (t := 51) rfl (by have := zt_0; omega) ?_
          refine w_lo dX9_statement_51 rfl rfl rfl rfl ?_
          refine w_me (st' := [.long (1885434739 : Int64), .ref 386]) dX9_statement_52 rfl rfl rfl rfl rfl ?_
          refine w_iv dX9_statement_55 rfl rfl (As := [.long (1885434739 : Int64)]) rfl rfl hJ0.1.1 zs_386 (Nat.le_of_ble_eq_true rfl) ?_
          refine ZV.of (ini := false) rfl (Nat.le_of_ble_eq_true rfl) (by decide +kernel) ?_
          show ZW _ _ _ _ _ _ _ (0, [some (.ref 386), some (.long (1885434739 : Int64)), none], [], M0)
          refine w_lo dX9_isWord_0 rfl rfl rfl rfl ?_
          refine w_gf dX9_isWord_1 rfl hJ0.1.1 zs_386 hfsg ?_
          refine w_ic dX9_isWord_4 zi_1 ?_
          refine w_cne_f dX9_isWord_5 (t := 21) rfl (by have := zt_1; omega) ?_
          refine w_lo dX9_isWord_8 rfl rfl rfl rfl ?_
          refine w_gf dX9_isWord_9 rfl hJ0.1.1 zs_386 f230 ?_
          refine w_lo dX9_isWord_12 rfl rfl rfl rfl ?_
          refine w_lcm dX9_isWord_13 ?_
          intro x240 h241
          have := ztl_1885434739
          rcases Int.decEq x240.toInt (0 : Int) with h242 | h242
          · skip
            refine w_ine_t dX9_isWord_14 (t := 21) rfl (by omega) ?_
            refine w_ic dX9_isWord_21 zi_0 ?_
            refine w_en dX9_isWord_22 rfl ?_
            show ZW _ _ _ _ _ _ _ (58, [some (.ref 386)], [.int 0], M0)
            refine w_ieq_t dX9_statement_58 (t := 69) rfl (by have := zt_0; omega) ?_
            refine w_lo dX9_statement_69 rfl rfl rfl rfl ?_
            refine w_me (st' := [.long (1684366704 : Int64), .ref 386]) dX9_statement_70 rfl rfl rfl rfl rfl ?_
            refine w_iv dX9_statement_73 rfl rfl (As := [.long (1684366704 : Int64)]) rfl rfl hJ0.1.1 zs_386 (Nat.le_of_ble_eq_true rfl) ?_
            refine ZV.of (ini := false) rfl (Nat.le_of_ble_eq_true rfl) (by decide +kernel) ?_
            show ZW _ _ _ _ _ _ _ (0, [some (.ref 386), some (.long (1684366704 : Int64)), none], [], M0)
            refine w_lo dX9_isWord_0 rfl rfl rfl rfl ?_
            refine w_gf dX9_isWord_1 rfl hJ0.1.1 zs_386 hfsg ?_
            refine w_ic dX9_isWord_4 zi_1 ?_
            refine w_cne_f dX9_isWord_5 (t := 21) rfl (by have := zt_1; omega) ?_
            refine w_lo dX9_isWord_8 rfl rfl rfl rfl ?_
            refine w_gf dX9_isWord_9 rfl hJ0.1.1 zs_386 f230 ?_
            refine w_lo dX9_isWord_12 rfl rfl rfl rfl ?_
            refine w_lcm dX9_isWord_13 ?_
            intro x243 h244
            have := ztl_1684366704
            rcases Int.decEq x243.toInt (0 : Int) with h245 | h245
            · skip
              refine w_ine_t dX9_isWord_14 (t := 21) rfl (by omega) ?_
              refine w_ic dX9_isWord_21 zi_0 ?_
              refine w_en dX9_isWord_22 rfl ?_
              show ZW _ _ _ _ _ _ _ (76, [some (.ref 386)], [.int 0], M0)
              refine w_ieq_t dX9_statement_76 (t := 87) rfl (by have := zt_0; omega) ?_
              refine w_lo dX9_statement_87 rfl rfl rfl rfl ?_
              refine w_ic dX9_statement_88 zi_1 ?_
              refine w_lo dX9_statement_89 rfl rfl rfl rfl ?_
              refine w_gfi dX9_statement_90 rfl hJ0.1 zs_386 (Nat.le_of_ble_eq_true rfl) zo_386_4 ?_
              intro x246 f247 h248 h249
              refine w_iv dX9_statement_93 rfl rfl (As := [.int 1, .int x246]) rfl rfl hJ0.1.1 zs_386 (Nat.le_of_ble_eq_true rfl) ?_
              refine ZV.of (ini := false) rfl (Nat.le_of_ble_eq_true rfl) (by decide +kernel) ?_
              show ZW _ _ _ _ _ _ _ (0, [some (.ref 386), some (.int 1), some (.int x246)], [], M0)
              refine w_lo dX9_blame_0 rfl rfl rfl rfl ?_
              refine w_gf dX9_blame_1 rfl hJ0.1.1 zs_386 hffk ?_
              rcases zcut (0 : Int) fk.toInt with h250 | h250
              · skip
                refine w_ile_f dX9_blame_4 (t := 8) rfl (by omega) ?_
                refine w_en dX9_blame_7 rfl ?_
                show ZW _ _ _ _ _ _ _ (96, [some (.ref 386)], [], M0)
                refine w_en dX9_statement_96 rfl ?_
                exact ⟨_, rfl, hJ0, ⟨sz, hfsz, (by omega), sg, hfsg, (by omega), (by omega), se, hfse, (by omega), (by omega), (by omega), fk, hffk, (by omega), (by omega), (by omega), trivial⟩⟩
              · skip
                refine w_ile_t dX9_blame_4 (t := 8) rfl (by omega) ?_
                refine w_lo dX9_blame_8 rfl rfl rfl rfl ?_
                refine w_lo dX9_blame_9 rfl rfl rfl rfl ?_
                refine w_pfi dX9_blame_10 rfl hJ0 zs_386 (Nat.le_of_ble_eq_true rfl) zo_386_8 (by have := zt_1; omega) (by have := zt_1; omega) (zIR_s (zIR_s (zIR_s (zIR_s (zIR_s (zIR_s (zIR_s (zIR_s (zIR_s (zIR_s (zIR_s (zIR_k (by omega) (by omega))))))))))))) rfl rfl rfl ?_
                intro M251 hJ252 f253 hn254
                refine w_lo dX9_blame_13 rfl rfl rfl rfl ?_
                refine w_lo dX9_blame_14 rfl rfl rfl rfl ?_
                refine w_pfi dX9_blame_15 rfl hJ252 zs_386 (Nat.le_of_ble_eq_true rfl) zo_386_9 (by omega) (by omega) (zIR_s (zIR_s (zIR_s (zIR_s (zIR_s (zIR_s (zIR_s (zIR_s (zIR_s (zIR_s (zIR_s (zIR_s (zIR_k (by omega) (by omega)))))))))))))) rfl rfl rfl ?_
                intro M255 hJ256 f257 hn258
                refine w_en dX9_blame_18 rfl ?_
                show ZW _ _ _ _ _ _ _ (96, [some (.ref 386)], [], M255)
                refine w_en dX9_statement_96 rfl ?_
                have f259 := (hn258 (386) 2 (Or.inr (by decide))).trans ((hn254 (386) 2 (Or.inr (by decide))).trans (hfsz))
                have f260 := (hn258 (386) 3 (Or.inr (by decide))).trans ((hn254 (386) 3 (Or.inr (by decide))).trans (hfsg))
                have f261 := (hn258 (386) 5 (Or.inr (by decide))).trans ((hn254 (386) 5 (Or.inr (by decide))).trans (hfse))
                have f262 := (hn258 (386) 8 (Or.inr (by decide))).trans (f253)
                exact ⟨_, rfl, hJ256, ⟨sz, f259, (by omega), sg, f260, (by omega), (by omega), se, f261, (by omega), (by omega), (by omega), 1, f262, (by have := zt_1; omega), (by have := zt_1; omega), (by have := zt_1; omega), trivial⟩⟩
            · skip
              refine w_ine_f dX9_isWord_14 (t := 21) rfl (by omega) ?_
              refine w_ic dX9_isWord_17 zi_1 ?_
              refine w_gt dX9_isWord_18 (t := 22) rfl ?_
              refine w_en dX9_isWord_22 rfl ?_
              show ZW _ _ _ _ _ _ _ (76, [some (.ref 386)], [.int 1], M0)
              refine w_ieq_f dX9_statement_76 (t := 87) rfl (by have := zt_1; omega) ?_
              refine w_lo dX9_statement_79 rfl rfl rfl rfl ?_
              refine w_ic dX9_statement_80 zi_1 ?_
              refine w_iv dX9_statement_81 rfl rfl (As := [.int 1]) rfl rfl hJ0.1.1 zs_386 (Nat.le_of_ble_eq_true rfl) ?_
              refine ZV.imp (k_2327 1 (by have := zt_1; omega) (by have := zt_1; omega) sz hfsz (by have := zt_1; omega) (by have := zt_1; omega) sg hfsg (by have := zt_1; omega) (by have := zt_1; omega) se hfse (by have := zt_1; omega) (by have := zt_1; omega) fk hffk (by have := zt_1; omega) (by have := zt_1; omega) hN hJ0.1) ?_
              rintro _ ⟨M263, rfl, hJ264, hq265⟩
              have hJ266 := zJ_trans hJ0 hJ264 (zSub_cons (fun _ _ h h' hk => zIR_a (by omega) (by omega)) (zSub_cons (fun _ _ h h' hk => zIR_s (zIR_e (by omega) (by omega) hk)) (zSub_cons (fun _ _ h h' hk => zIR_s (zIR_s (zIR_e (by omega) (by omega) hk))) (zSub_cons (fun _ _ h h' hk => zIR_s (zIR_s (zIR_s (zIR_e (by omega) (by omega) hk)))) (zSub_cons (fun _ _ h h' hk => zIR_s (zIR_s (zIR_s (zIR_s (zIR_e (by omega) (by omega) hk))))) (zSub_cons (fun _ _ h h' hk => zIR_s (zIR_s (zIR_s (zIR_s (zIR_s (zIR_e (by omega) (by omega) hk)))))) (zSub_cons (fun _ _ h h' hk => zIR_s (zIR_s (zIR_s (zIR_s (zIR_s (zIR_s (zIR_e (by omega) (by omega) hk))))))) (zSub_cons (fun _ _ h h' hk => zIR_s (zIR_s (zIR_s (zIR_s (zIR_s (zIR_s (zIR_s (zIR_e (by omega) (by omega) hk)))))))) (zSub_cons (fun _ _ h h' hk => zIR_s (zIR_s (zIR_s (zIR_s (zIR_s (zIR_s (zIR_s (zIR_s (zIR_e (by omega) (by omega) hk))))))))) (zSub_cons (fun _ _ h h' hk => zIR_s (zIR_s (zIR_s (zIR_s (zIR_s (zIR_s (zIR_s (zIR_s (zIR_s (zIR_e (by omega) (by omega) hk)))))))))) (zSub_cons (fun _ _ h h' hk => zIR_s (zIR_s (zIR_s (zIR_s (zIR_s (zIR_s (zIR_s (zIR_s (zIR_s (zIR_s (zIR_e (by omega) (by omega) hk))))))))))) (zSub_cons (fun _ _ h h' hk => zIR_s (zIR_s (zIR_s (zIR_s (zIR_s (zIR_s (zIR_s (zIR_s (zIR_s (zIR_s (zIR_s (zIR_e (by omega) (by omega) hk)))))))))))) (zSub_cons (fun _ _ h h' hk => zIR_s (zIR_s (zIR_s (zIR_s (zIR_s (zIR_s (zIR_s (zIR_s (zIR_s (zIR_s (zIR_s (zIR_s (zIR_e (by omega) (by omega) hk))))))))))))) zSub_nil)))))))))))))
              obtain ⟨x267, f268, h269, x270, f271, h272, h273, x274, f275, h276, h277, h278, x279, f280, h281, h282, h283, -⟩ := hq265
              have := zt_1
              show ZW _ _ _ _ _ _ _ (84, [some (.ref 386)], [], M263)
              refine w_gt dX9_statement_84 (t := 96) rfl ?_
              refine w_en dX9_statement_96 rfl ?_
              exact ⟨_, rfl, hJ266, ⟨x267, f268, (by omega), x270, f271, (by omega), (by omega), x274, f275, (by omega), (by omega), (by omega), x279, f280, (by omega), (by omega), (by omega), trivial⟩⟩
          · skip
            refine w_ine_f dX9_isWord_14 (t := 21) rfl (by omega) ?_
            refine w_ic dX9_isWord_17 zi_1 ?_
            refine w_gt dX9_isWord_18 (t := 22) rfl ?_
            refine w_en dX9_isWord_22 rfl ?_
            show ZW _ _ _ _ _ _ _ (58, [some (.ref 386)], [.int 1], M0)
            refine w_ieq_f dX9_statement_58 (t := 69) rfl (by have := zt_1; omega) ?_
            refine w_lo dX9_statement_61 rfl rfl rfl rfl ?_
            refine w_ic dX9_statement_62 zi_0 ?_
            refine w_iv dX9_statement_63 rfl rfl (As := [.int 0]) rfl rfl hJ0.1.1 zs_386 (Nat.le_of_ble_eq_true rfl) ?_
            refine ZV.imp (k_2327 0 (by have := zt_0; omega) (by have := zt_0; omega) sz hfsz (by have := zt_0; omega) (by have := zt_0; omega) sg hfsg (by have := zt_0; omega) (by have := zt_0; omega) se hfse (by have := zt_0; omega) (by have := zt_0; omega) fk hffk (by have := zt_0; omega) (by have := zt_0; omega) hN hJ0.1) ?_
            rintro _ ⟨M284, rfl, hJ285, hq286⟩
            have hJ287 := zJ_trans hJ0 hJ285 (zSub_cons (fun _ _ h h' hk => zIR_a (by omega) (by omega)) (zSub_cons (fun _ _ h h' hk => zIR_s (zIR_e (by omega) (by omega) hk)) (zSub_cons (fun _ _ h h' hk => zIR_s (zIR_s (zIR_e (by omega) (by omega) hk))) (zSub_cons (fun _ _ h h' hk => zIR_s (zIR_s (zIR_s (zIR_e (by omega) (by omega) hk)))) (zSub_cons (fun _ _ h h' hk => zIR_s (zIR_s (zIR_s (zIR_s (zIR_e (by omega) (by omega) hk))))) (zSub_cons (fun _ _ h h' hk => zIR_s (zIR_s (zIR_s (zIR_s (zIR_s (zIR_e (by omega) (by omega) hk)))))) (zSub_cons (fun _ _ h h' hk => zIR_s (zIR_s (zIR_s (zIR_s (zIR_s (zIR_s (zIR_e (by omega) (by omega) hk))))))) (zSub_cons (fun _ _ h h' hk => zIR_s (zIR_s (zIR_s (zIR_s (zIR_s (zIR_s (zIR_s (zIR_e (by omega) (by omega) hk)))))))) (zSub_cons (fun _ _ h h' hk => zIR_s (zIR_s (zIR_s (zIR_s (zIR_s (zIR_s (zIR_s (zIR_s (zIR_e (by omega) (by omega) hk))))))))) (zSub_cons (fun _ _ h h' hk => zIR_s (zIR_s (zIR_s (zIR_s (zIR_s (zIR_s (zIR_s (zIR_s (zIR_s (zIR_e (by omega) (by omega) hk)))))))))) (zSub_cons (fun _ _ h h' hk => zIR_s (zIR_s (zIR_s (zIR_s (zIR_s (zIR_s (zIR_s (zIR_s (zIR_s (zIR_s (zIR_e (by omega) (by omega) hk))))))))))) (zSub_cons (fun _ _ h h' hk => zIR_s (zIR_s (zIR_s (zIR_s (zIR_s (zIR_s (zIR_s (zIR_s (zIR_s (zIR_s (zIR_s (zIR_e (by omega) (by omega) hk)))))))))))) (zSub_cons (fun _ _ h h' hk => zIR_s (zIR_s (zIR_s (zIR_s (zIR_s (zIR_s (zIR_s (zIR_s (zIR_s (zIR_s (zIR_s (zIR_s (zIR_e (by omega) (by omega) hk))))))))))))) zSub_nil)))))))))))))
            obtain ⟨x288, f289, h290, x291, f292, h293, h294, x295, f296, h297, h298, h299, x300, f301, h302, h303, h304, -⟩ := hq286
            have := zt_0
            show ZW _ _ _ _ _ _ _ (66, [some (.ref 386)], [], M284)
            refine w_gt dX9_statement_66 (t := 96) rfl ?_
            refine w_en dX9_statement_96 rfl ?_
            exact ⟨_, rfl, hJ287, ⟨x288, f289, (by omega), x291, f292, (by omega), (by omega), x295, f296, (by omega), (by omega), (by omega), x300, f301, (by omega), (by omega), (by omega), trivial⟩⟩
        · skip
          refine w_ine_f dX9_isWord_14 (t := 21) rfl (by omega) ?_
          refine w_ic dX9_isWord_17 zi_1 ?_
          refine w_gt dX9_isWord_18 (t := 22) rfl ?_
          refine w_en dX9_isWord_22 rfl ?_
          show ZW _ _ _ _ _ _ _ (41, [some (.ref 386)], [.int 1], M0)
          refine w_ieq_f dX9_statement_41 (t := 51) rfl (by have := zt_1; omega) ?_
          refine w_lo dX9_statement_44 rfl rfl rfl rfl ?_
          refine w_iv dX9_statement_45 rfl rfl (As := []) rfl rfl hJ0.1.1 zs_386 (Nat.le_of_ble_eq_true rfl) ?_
          refine ZV.imp (k_2326 sz hfsz (by omega) (by omega) sg hfsg (by omega) (by omega) se hfse (by omega) (by omega) fk hffk (by omega) (by omega) hN hJ0.1) ?_
          rintro _ ⟨M305, rfl, hJ306, hq307⟩
          have hJ308 := zJ_trans hJ0 hJ306 (zSub_cons (fun _ _ h h' hk => zIR_a (by omega) (by omega)) (zSub_cons (fun _ _ h h' hk => zIR_s (zIR_e (by omega) (by omega) hk)) (zSub_cons (fun _ _ h h' hk => zIR_s (zIR_s (zIR_s (zIR_e (by omega) (by omega) hk)))) (zSub_cons (fun _ _ h h' hk => zIR_s (zIR_s (zIR_s (zIR_s (zIR_s (zIR_s (zIR_s (zIR_s (zIR_e (by omega) (by omega) hk))))))))) (zSub_cons (fun _ _ h h' hk => zIR_s (zIR_s (zIR_s (zIR_s (zIR_s (zIR_s (zIR_s (zIR_s (zIR_s (zIR_e (by omega) (by omega) hk)))))))))) (zSub_cons (fun _ _ h h' hk => zIR_s (zIR_s (zIR_s (zIR_s (zIR_s (zIR_s (zIR_s (zIR_s (zIR_s (zIR_s (zIR_e (by omega) (by omega) hk))))))))))) (zSub_cons (fun _ _ h h' hk => zIR_s (zIR_s (zIR_s (zIR_s (zIR_s (zIR_s (zIR_s (zIR_s (zIR_s (zIR_s (zIR_s (zIR_e (by omega) (by omega) hk)))))))))))) (zSub_cons (fun _ _ h h' hk => zIR_s (zIR_s (zIR_s (zIR_s (zIR_s (zIR_s (zIR_s (zIR_s (zIR_s (zIR_s (zIR_s (zIR_s (zIR_e (by omega) (by omega) hk))))))))))))) zSub_nil))))))))
          obtain ⟨x309, f310, h311, x312, f313, h314, h315, x316, f317, h318, h319, h320, x321, f322, h323, h324, h325, -⟩ := hq307
          show ZW _ _ _ _ _ _ _ (48, [some (.ref 386)], [], M305)
          refine w_gt dX9_statement_48 (t := 96) rfl ?_
          refine w_en dX9_statement_96 rfl ?_
          exact ⟨_, rfl, hJ308, ⟨x309, f310, (by omega), x312, f313, (by omega), (by omega), x316, f317, (by omega), (by omega), (by omega), x321, f322, (by omega), (by omega), (by omega), trivial⟩⟩
      · skip
        refine w_ine_f dX9_isWord_14 (t := 21) rfl (by omega) ?_
        refine w_ic dX9_isWord_17 zi_1 ?_
        refine w_gt dX9_isWord_18 (t := 22) rfl ?_
        refine w_en dX9_isWord_22 rfl ?_
        show ZW _ _ _ _ _ _ _ (24, [some (.ref 386)], [.int 1], M0)
        refine w_ieq_f dX9_statement_24 (t := 34) rfl (by have := zt_1; omega) ?_
        refine w_lo dX9_statement_27 rfl rfl rfl rfl ?_
        refine w_iv dX9_statement_28 rfl rfl (As := []) rfl rfl hJ0.1.1 zs_386 (Nat.le_of_ble_eq_true rfl) ?_
        refine ZV.imp (k_2325 sz hfsz (by omega) (by omega) sg hfsg (by omega) (by omega) se hfse (by omega) (by omega) fk hffk (by omega) (by omega) hN hJ0.1) ?_
        rintro _ ⟨M326, rfl, hJ327, hq328⟩
        have hJ329 := zJ_trans hJ0 hJ327 (zSub_cons (fun _ _ h h' hk => zIR_a (by omega) (by omega)) (zSub_cons (fun _ _ h h' hk => zIR_s (zIR_e (by omega) (by omega) hk)) (zSub_cons (fun _ _ h h' hk => zIR_s (zIR_s (zIR_s (zIR_e (by omega) (by omega) hk)))) (zSub_cons (fun _ _ h h' hk => zIR_s (zIR_s (zIR_s (zIR_s (zIR_s (zIR_s (zIR_s (zIR_s (zIR_e (by omega) (by omega) hk))))))))) (zSub_cons (fun _ _ h h' hk => zIR_s (zIR_s (zIR_s (zIR_s (zIR_s (zIR_s (zIR_s (zIR_s (zIR_s (zIR_e (by omega) (by omega) hk)))))))))) (zSub_cons (fun _ _ h h' hk => zIR_s (zIR_s (zIR_s (zIR_s (zIR_s (zIR_s (zIR_s (zIR_s (zIR_s (zIR_s (zIR_e (by omega) (by omega) hk))))))))))) (zSub_cons (fun _ _ h h' hk => zIR_s (zIR_s (zIR_s (zIR_s (zIR_s (zIR_s (zIR_s (zIR_s (zIR_s (zIR_s (zIR_s (zIR_e (by omega) (by omega) hk)))))))))))) (zSub_cons (fun _ _ h h' hk => zIR_s (zIR_s (zIR_s (zIR_s (zIR_s (zIR_s (zIR_s (zIR_s (zIR_s (zIR_s (zIR_s (zIR_s (zIR_e (by omega) (by omega) hk))))))))))))) zSub_nil))))))))
        obtain ⟨x330, f331, h332, x333, f334, h335, h336, x337, f338, h339, h340, h341, x342, f343, h344, h345, h346, -⟩ := hq328
        show ZW _ _ _ _ _ _ _ (31, [some (.ref 386)], [], M326)
        refine w_gt dX9_statement_31 (t := 96) rfl ?_
        refine w_en dX9_statement_96 rfl ?_
        exact ⟨_, rfl, hJ329, ⟨x330, f331, (by omega), x333, f334, (by omega), (by omega), x337, f338, (by omega), (by omega), (by omega), x342, f343, (by omega), (by omega), (by omega), trivial⟩⟩
  · skip
    refine w_cne_f dX9_isWord_5 (t := 21) rfl (by have := zt_1; omega) ?_
    refine w_lo dX9_isWord_8 rfl rfl rfl rfl ?_
    refine w_gfl dX9_isWord_9 rfl hJ0.1 zs_386 (Nat.le_of_ble_eq_true rfl) zo_386_7 ?_
    intro y350 f347 h348 h349
    refine w_lo dX9_isWord_12 rfl rfl rfl rfl ?_
    refine w_lcm dX9_isWord_13 ?_
    intro x351 h352
    have := ztl_6451065
    rcases Int.decEq x351.toInt (0 : Int) with h353 | h353
    · skip
      refine w_ine_t dX9_isWord_14 (t := 21) rfl (by omega) ?_
      refine w_ic dX9_isWord_21 zi_0 ?_
      refine w_en dX9_isWord_22 rfl ?_
      show ZW _ _ _ _ _ _ _ (7, [some (.ref 386)], [.int 0], M0)
      refine w_ieq_t dX9_statement_7 (t := 17) rfl (by have := zt_0; omega) ?_
      refine w_lo dX9_statement_17 rfl rfl rfl rfl ?_
      refine w_me (st' := [.long (495739560811 : Int64), .ref 386]) dX9_statement_18 rfl rfl rfl rfl rfl ?_
      refine w_iv dX9_statement_21 rfl rfl (As := [.long (495739560811 : Int64)]) rfl rfl hJ0.1.1 zs_386 (Nat.le_of_ble_eq_true rfl) ?_
      refine ZV.of (ini := false) rfl (Nat.le_of_ble_eq_true rfl) (by decide +kernel) ?_
      show ZW _ _ _ _ _ _ _ (0, [some (.ref 386), some (.long (495739560811 : Int64)), none], [], M0)
      refine w_lo dX9_isWord_0 rfl rfl rfl rfl ?_
      refine w_gf dX9_isWord_1 rfl hJ0.1.1 zs_386 hfsg ?_
      refine w_ic dX9_isWord_4 zi_1 ?_
      refine w_cne_f dX9_isWord_5 (t := 21) rfl (by have := zt_1; omega) ?_
      refine w_lo dX9_isWord_8 rfl rfl rfl rfl ?_
      refine w_gf dX9_isWord_9 rfl hJ0.1.1 zs_386 f347 ?_
      refine w_lo dX9_isWord_12 rfl rfl rfl rfl ?_
      refine w_lcm dX9_isWord_13 ?_
      intro x354 h355
      have := ztl_495739560811
      rcases Int.decEq x354.toInt (0 : Int) with h356 | h356
      · skip
        refine w_ine_t dX9_isWord_14 (t := 21) rfl (by omega) ?_
        refine w_ic dX9_isWord_21 zi_0 ?_
        refine w_en dX9_isWord_22 rfl ?_
        show ZW _ _ _ _ _ _ _ (24, [some (.ref 386)], [.int 0], M0)
        refine w_ieq_t dX9_statement_24 (t := 34) rfl (by have := zt_0; omega) ?_
        refine w_lo dX9_statement_34 rfl rfl rfl rfl ?_
        refine w_me (st' := [.long (431415976301 : Int64), .ref 386]) dX9_statement_35 rfl rfl rfl rfl rfl ?_
        refine w_iv dX9_statement_38 rfl rfl (As := [.long (431415976301 : Int64)]) rfl rfl hJ0.1.1 zs_386 (Nat.le_of_ble_eq_true rfl) ?_
        refine ZV.of (ini := false) rfl (Nat.le_of_ble_eq_true rfl) (by decide +kernel) ?_
        show ZW _ _ _ _ _ _ _ (0, [some (.ref 386), some (.long (431415976301 : Int64)), none], [], M0)
        refine w_lo dX9_isWord_0 rfl rfl rfl rfl ?_
        refine w_gf dX9_isWord_1 rfl hJ0.1.1 zs_386 hfsg ?_
        refine w_ic dX9_isWord_4 zi_1 ?_
        refine w_cne_f dX9_isWord_5 (t := 21) rfl (by have := zt_1; omega) ?_
        refine w_lo dX9_isWord_8 rfl rfl rfl rfl ?_
        refine w_gf dX9_isWord_9 rfl hJ0.1.1 zs_386 f347 ?_
        refine w_lo dX9_isWord_12 rfl rfl rfl rfl ?_
        refine w_lcm dX9_isWord_13 ?_
        intro x357 h358
        have := ztl_431415976301
        rcases Int.decEq x357.toInt (0 : Int) with h359 | h359
        · skip
          refine w_ine_t dX9_isWord_14 (t := 21) rfl (by omega) ?_
          refine w_ic dX9_isWord_21 zi_0 ?_
          refine w_en dX9_isWord_22 rfl ?_
          show ZW _ _ _ _ _ _ _ (41, [some (.ref 386)], [.int 0], M0)
          refine w_ieq_t dX9_statement_41 (t := 51) rfl (by have := zt_0; omega) ?_
          refine w_lo dX9_statement_51 rfl rfl rfl rfl ?_
          refine w_me (st' := [.long (1885434739 : Int64), .ref 386]) dX9_statement_52 rfl rfl rfl rfl rfl ?_
          refine w_iv dX9_statement_55 rfl rfl (As := [.long (1885434739 : Int64)]) rfl rfl hJ0.1.1 zs_386 (Nat.le_of_ble_eq_true rfl) ?_
          refine ZV.of (ini := false) rfl (Nat.le_of_ble_eq_true rfl) (by decide +kernel) ?_
          show ZW _ _ _ _ _ _ _ (0, [some (.ref 386), some (.long (1885434739 : Int64)), none], [], M0)
          refine w_lo dX9_isWord_0 rfl rfl rfl rfl ?_
          refine w_gf dX9_isWord_1 rfl hJ0.1.1 zs_386 hfsg ?_
          refine w_ic dX9_isWord_4 zi_1 ?_
          refine w_cne_f dX9_isWord_5 (t := 21) rfl (by have := zt_1; omega) ?_
          refine w_lo dX9_isWord_8 rfl rfl rfl rfl ?_
          refine w_gf dX9_isWord_9 rfl hJ0.1.1 zs_386 f347 ?_
          refine w_lo dX9_isWord_12 rfl rfl rfl rfl ?_
          refine w_lcm dX9_isWord_13 ?_
          intro x360 h361
          have := ztl_1885434739
          rcases Int.decEq x360.toInt (0 : Int) with h362 | h362
          · skip
            refine w_ine_t dX9_isWord_14 (t := 21) rfl (by omega) ?_
            refine w_ic dX9_isWord_21 zi_0 ?_
            refine w_en dX9_isWord_22 rfl ?_
            show ZW _ _ _ _ _ _ _ (58, [some (.ref 386)], [.int 0], M0)
            refine w_ieq_t dX9_statement_58 (t := 69) rfl (by have := zt_0; omega) ?_
            refine w_lo dX9_statement_69 rfl rfl rfl rfl ?_
            refine w_me (st' := [.long (1684366704 : Int64), .ref 386]) dX9_statement_70 rfl rfl rfl rfl rfl ?_
            refine w_iv dX9_statement_73 rfl rfl (As := [.long (1684366704 : Int64)]) rfl rfl hJ0.1.1 zs_386 (Nat.le_of_ble_eq_true rfl) ?_
            refine ZV.of (ini := false) rfl (Nat.le_of_ble_eq_true rfl) (by decide +kernel) ?_
            show ZW _ _ _ _ _ _ _ (0, [some (.ref 386), some (.long (1684366704 : Int64)), none], [], M0)
            refine w_lo dX9_isWord_0 rfl rfl rfl rfl ?_
            refine w_gf dX9_isWord_1 rfl hJ0.1.1 zs_386 hfsg ?_
            refine w_ic dX9_isWord_4 zi_1 ?_
            refine w_cne_f dX9_isWord_5 (t := 21) rfl (by have := zt_1; omega) ?_
            refine w_lo dX9_isWord_8 rfl rfl rfl rfl ?_
            refine w_gf dX9_isWord_9 rfl hJ0.1.1 zs_386 f347 ?_
            refine w_lo dX9_isWord_12 rfl rfl rfl rfl ?_
            refine w_lcm dX9_isWord_13 ?_
            intro x363 h364
            have := ztl_1684366704
            rcases Int.decEq x363.toInt (0 : Int) with h365 | h365
            · skip
              refine w_ine_t dX9_isWord_14 (t := 21) rfl (by omega) ?_
              refine w_ic dX9_isWord_21 zi_0 ?_
              refine w_en dX9_isWord_22 rfl ?_
              show ZW _ _ _ _ _ _ _ (76, [some (.ref 386)], [.int 0], M0)
              refine w_ieq_t dX9_statement_76 (t := 87) rfl (by have := zt_0; omega) ?_
              refine w_lo dX9_statement_87 rfl rfl rfl rfl ?_
              refine w_ic dX9_statement_88 zi_1 ?_
              refine w_lo dX9_statement_89 rfl rfl rfl rfl ?_
              refine w_gfi dX9_statement_90 rfl hJ0.1 zs_386 (Nat.le_of_ble_eq_true rfl) zo_386_4 ?_
              intro x366 f367 h368 h369
              refine w_iv dX9_statement_93 rfl rfl (As := [.int 1, .int x366]) rfl rfl hJ0.1.1 zs_386 (Nat.le_of_ble_eq_true rfl) ?_
              refine ZV.of (ini := false) rfl (Nat.le_of_ble_eq_true rfl) (by decide +kernel) ?_
              show ZW _ _ _ _ _ _ _ (0, [some (.ref 386), some (.int 1), some (.int x366)], [], M0)
              refine w_lo dX9_blame_0 rfl rfl rfl rfl ?_
              refine w_gf dX9_blame_1 rfl hJ0.1.1 zs_386 hffk ?_
              rcases zcut (0 : Int) fk.toInt with h370 | h370
              · skip
                refine w_ile_f dX9_blame_4 (t := 8) rfl (by omega) ?_
                refine w_en dX9_blame_7 rfl ?_
                show ZW _ _ _ _ _ _ _ (96, [some (.ref 386)], [], M0)
                refine w_en dX9_statement_96 rfl ?_
                exact ⟨_, rfl, hJ0, ⟨sz, hfsz, (by omega), sg, hfsg, (by omega), (by omega), se, hfse, (by omega), (by omega), (by omega), fk, hffk, (by omega), (by omega), (by omega), trivial⟩⟩
              · skip
                refine w_ile_t dX9_blame_4 (t := 8) rfl (by omega) ?_
                refine w_lo dX9_blame_8 rfl rfl rfl rfl ?_
                refine w_lo dX9_blame_9 rfl rfl rfl rfl ?_
                refine w_pfi dX9_blame_10 rfl hJ0 zs_386 (Nat.le_of_ble_eq_true rfl) zo_386_8 (by have := zt_1; omega) (by have := zt_1; omega) (zIR_s (zIR_s (zIR_s (zIR_s (zIR_s (zIR_s (zIR_s (zIR_s (zIR_s (zIR_s (zIR_s (zIR_k (by omega) (by omega))))))))))))) rfl rfl rfl ?_
                intro M371 hJ372 f373 hn374
                refine w_lo dX9_blame_13 rfl rfl rfl rfl ?_
                refine w_lo dX9_blame_14 rfl rfl rfl rfl ?_
                refine w_pfi dX9_blame_15 rfl hJ372 zs_386 (Nat.le_of_ble_eq_true rfl) zo_386_9 (by omega) (by omega) (zIR_s (zIR_s (zIR_s (zIR_s (zIR_s (zIR_s (zIR_s (zIR_s (zIR_s (zIR_s (zIR_s (zIR_s (zIR_k (by omega) (by omega)))))))))))))) rfl rfl rfl ?_
                intro M375 hJ376 f377 hn378
                refine w_en dX9_blame_18 rfl ?_
                show ZW _ _ _ _ _ _ _ (96, [some (.ref 386)], [], M375)
                refine w_en dX9_statement_96 rfl ?_
                have f379 := (hn378 (386) 2 (Or.inr (by decide))).trans ((hn374 (386) 2 (Or.inr (by decide))).trans (hfsz))
                have f380 := (hn378 (386) 3 (Or.inr (by decide))).trans ((hn374 (386) 3 (Or.inr (by decide))).trans (hfsg))
                have f381 := (hn378 (386) 5 (Or.inr (by decide))).trans ((hn374 (386) 5 (Or.inr (by decide))).trans (hfse))
                have f382 := (hn378 (386) 8 (Or.inr (by decide))).trans (f373)
                exact ⟨_, rfl, hJ376, ⟨sz, f379, (by omega), sg, f380, (by omega), (by omega), se, f381, (by omega), (by omega), (by omega), 1, f382, (by have := zt_1; omega), (by have := zt_1; omega), (by have := zt_1; omega), trivial⟩⟩
            · skip
              refine w_ine_f dX9_isWord_14 (t := 21) rfl (by omega) ?_
              refine w_ic dX9_isWord_17 zi_1 ?_
              refine w_gt dX9_isWord_18 (t := 22) rfl ?_
              refine w_en dX9_isWord_22 rfl ?_
              show ZW _ _ _ _ _ _ _ (76, [some (.ref 386)], [.int 1], M0)
              refine w_ieq_f dX9_statement_76 (t := 87) rfl (by have := zt_1; omega) ?_
              refine w_lo dX9_statement_79 rfl rfl rfl rfl ?_
              refine w_ic dX9_statement_80 zi_1 ?_
              refine w_iv dX9_statement_81 rfl rfl (As := [.int 1]) rfl rfl hJ0.1.1 zs_386 (Nat.le_of_ble_eq_true rfl) ?_
              refine ZV.imp (k_2327 1 (by have := zt_1; omega) (by have := zt_1; omega) sz hfsz (by have := zt_1; omega) (by have := zt_1; omega) sg hfsg (by have := zt_1; omega) (by have := zt_1; omega) se hfse (by have := zt_1; omega) (by have := zt_1; omega) fk hffk (by have := zt_1; omega) (by have := zt_1; omega) hN hJ0.1) ?_
              rintro _ ⟨M383, rfl, hJ384, hq385⟩
              have hJ386 := zJ_trans hJ0 hJ384 (zSub_cons (fun _ _ h h' hk => zIR_a (by omega) (by omega)) (zSub_cons (fun _ _ h h' hk => zIR_s (zIR_e (by omega) (by omega) hk)) (zSub_cons (fun _ _ h h' hk => zIR_s (zIR_s (zIR_e (by omega) (by omega) hk))) (zSub_cons (fun _ _ h h' hk => zIR_s (zIR_s (zIR_s (zIR_e (by omega) (by omega) hk)))) (zSub_cons (fun _ _ h h' hk => zIR_s (zIR_s (zIR_s (zIR_s (zIR_e (by omega) (by omega) hk))))) (zSub_cons (fun _ _ h h' hk => zIR_s (zIR_s (zIR_s (zIR_s (zIR_s (zIR_e (by omega) (by omega) hk)))))) (zSub_cons (fun _ _ h h' hk => zIR_s (zIR_s (zIR_s (zIR_s (zIR_s (zIR_s (zIR_e (by omega) (by omega) hk))))))) (zSub_cons (fun _ _ h h' hk => zIR_s (zIR_s (zIR_s (zIR_s (zIR_s (zIR_s (zIR_s (zIR_e (by omega) (by omega) hk)))))))) (zSub_cons (fun _ _ h h' hk => zIR_s (zIR_s (zIR_s (zIR_s (zIR_s (zIR_s (zIR_s (zIR_s (zIR_e (by omega) (by omega) hk))))))))) (zSub_cons (fun _ _ h h' hk => zIR_s (zIR_s (zIR_s (zIR_s (zIR_s (zIR_s (zIR_s (zIR_s (zIR_s (zIR_e (by omega) (by omega) hk)))))))))) (zSub_cons (fun _ _ h h' hk => zIR_s (zIR_s (zIR_s (zIR_s (zIR_s (zIR_s (zIR_s (zIR_s (zIR_s (zIR_s (zIR_e (by omega) (by omega) hk))))))))))) (zSub_cons (fun _ _ h h' hk => zIR_s (zIR_s (zIR_s (zIR_s (zIR_s (zIR_s (zIR_s (zIR_s (zIR_s (zIR_s (zIR_s (zIR_e (by omega) (by omega) hk)))))))))))) (zSub_cons (fun _ _ h h' hk => zIR_s (zIR_s (zIR_s (zIR_s (zIR_s (zIR_s (zIR_s (zIR_s (zIR_s (zIR_s (zIR_s (zIR_s (zIR_e (by omega) (by omega) hk))))))))))))) zSub_nil)))))))))))))
              obtain ⟨x387, f388, h389, x390, f391, h392, h393, x394, f395, h396, h397, h398, x399, f400, h401, h402, h403, -⟩ := hq385
              have := zt_1
              show ZW _ _ _ _ _ _ _ (84, [some (.ref 386)], [], M383)
              refine w_gt dX9_statement_84 (t := 96) rfl ?_
              refine w_en dX9_statement_96 rfl ?_
              exact ⟨_, rfl, hJ386, ⟨x387, f388, (by omega), x390, f391, (by omega), (by omega), x394, f395, (by omega), (by omega), (by omega), x399, f400, (by omega), (by omega), (by omega), trivial⟩⟩
          · skip
            refine w_ine_f dX9_isWord_14 (t := 21) rfl (by omega) ?_
            refine w_ic dX9_isWord_17 zi_1 ?_
            refine w_gt dX9_isWord_18 (t := 22) rfl ?_
            refine w_en dX9_isWord_22 rfl ?_
            show ZW _ _ _ _ _ _ _ (58, [some (.ref 386)], [.int 1], M0)
            refine w_ieq_f dX9_statement_58 (t := 69) rfl (by have := zt_1; omega) ?_
            refine w_lo dX9_statement_61 rfl rfl rfl rfl ?_
            refine w_ic dX9_statement_62 zi_0 ?_
            refine w_iv dX9_statement_63 rfl rfl (As := [.int 0]) rfl rfl hJ0.1.1 zs_386 (Nat.le_of_ble_eq_true rfl) ?_
            refine ZV.imp (k_2327 0 (by have := zt_0; omega) (by have := zt_0; omega) sz hfsz (by have := zt_0; omega) (by have := zt_0; omega) sg hfsg (by have := zt_0; omega) (by have := zt_0; omega) se hfse (by have := zt_0; omega) (by have := zt_0; omega) fk hffk (by have := zt_0; omega) (by have := zt_0; omega) hN hJ0.1) ?_
            rintro _ ⟨M404, rfl, hJ405, hq406⟩
            have hJ407 := zJ_trans hJ0 hJ405 (zSub_cons (fun _ _ h h' hk => zIR_a (by omega) (by omega)) (zSub_cons (fun _ _ h h' hk => zIR_s (zIR_e (by omega) (by omega) hk)) (zSub_cons (fun _ _ h h' hk => zIR_s (zIR_s (zIR_e (by omega) (by omega) hk))) (zSub_cons (fun _ _ h h' hk => zIR_s (zIR_s (zIR_s (zIR_e (by omega) (by omega) hk)))) (zSub_cons (fun _ _ h h' hk => zIR_s (zIR_s (zIR_s (zIR_s (zIR_e (by omega) (by omega) hk))))) (zSub_cons (fun _ _ h h' hk => zIR_s (zIR_s (zIR_s (zIR_s (zIR_s (zIR_e (by omega) (by omega) hk)))))) (zSub_cons (fun _ _ h h' hk => zIR_s (zIR_s (zIR_s (zIR_s (zIR_s (zIR_s (zIR_e (by omega) (by omega) hk))))))) (zSub_cons (fun _ _ h h' hk => zIR_s (zIR_s (zIR_s (zIR_s (zIR_s (zIR_s (zIR_s (zIR_e (by omega) (by omega) hk)))))))) (zSub_cons (fun _ _ h h' hk => zIR_s (zIR_s (zIR_s (zIR_s (zIR_s (zIR_s (zIR_s (zIR_s (zIR_e (by omega) (by omega) hk))))))))) (zSub_cons (fun _ _ h h' hk => zIR_s (zIR_s (zIR_s (zIR_s (zIR_s (zIR_s (zIR_s (zIR_s (zIR_s (zIR_e (by omega) (by omega) hk)))))))))) (zSub_cons (fun _ _ h h' hk => zIR_s (zIR_s (zIR_s (zIR_s (zIR_s (zIR_s (zIR_s (zIR_s (zIR_s (zIR_s (zIR_e (by omega) (by omega) hk))))))))))) (zSub_cons (fun _ _ h h' hk => zIR_s (zIR_s (zIR_s (zIR_s (zIR_s (zIR_s (zIR_s (zIR_s (zIR_s (zIR_s (zIR_s (zIR_e (by omega) (by omega) hk)))))))))))) (zSub_cons (fun _ _ h h' hk => zIR_s (zIR_s (zIR_s (zIR_s (zIR_s (zIR_s (zIR_s (zIR_s (zIR_s (zIR_s (zIR_s (zIR_s (zIR_e (by omega) (by omega) hk))))))))))))) zSub_nil)))))))))))))
            obtain ⟨x408, f409, h410, x411, f412, h413, h414, x415, f416, h417, h418, h419, x420, f421, h422, h423, h424, -⟩ := hq406
            have := zt_0
            show ZW _ _ _ _ _ _ _ (66, [some (.ref 386)], [], M404)
            refine w_gt dX9_statement_66 (t := 96) rfl ?_
            refine w_en dX9_statement_96 rfl ?_
            exact ⟨_, rfl, hJ407, ⟨x408, f409, (by omega), x411, f412, (by omega), (by omega), x415, f416, (by omega), (by omega), (by omega), x420, f421, (by omega), (by omega), (by omega), trivial⟩⟩
        · skip
          refine w_ine_f dX9_isWord_14 (t := 21) rfl (by omega) ?_
          refine w_ic dX9_isWord_17 zi_1 ?_
          refine w_gt dX9_isWord_18 (t := 22) rfl ?_
          refine w_en dX9_isWord_22 rfl ?_
          show ZW _ _ _ _ _ _ _ (41, [some (.ref 386)], [.int 1], M0)
          refine w_ieq_f dX9_statement_41 (t := 51) rfl (by have := zt_1; omega) ?_
          refine w_lo dX9_statement_44 rfl rfl rfl rfl ?_
          refine w_iv dX9_statement_45 rfl rfl (As := []) rfl rfl hJ0.1.1 zs_386 (Nat.le_of_ble_eq_true rfl) ?_
          refine ZV.imp (k_2326 sz hfsz (by omega) (by omega) sg hfsg (by omega) (by omega) se hfse (by omega) (by omega) fk hffk (by omega) (by omega) hN hJ0.1) ?_
          rintro _ ⟨M425, rfl, hJ426, hq427⟩
          have hJ428 := zJ_trans hJ0 hJ426 (zSub_cons (fun _ _ h h' hk => zIR_a (by omega) (by omega)) (zSub_cons (fun _ _ h h' hk => zIR_s (zIR_e (by omega) (by omega) hk)) (zSub_cons (fun _ _ h h' hk => zIR_s (zIR_s (zIR_s (zIR_e (by omega) (by omega) hk)))) (zSub_cons (fun _ _ h h' hk => zIR_s (zIR_s (zIR_s (zIR_s (zIR_s (zIR_s (zIR_s (zIR_s (zIR_e (by omega) (by omega) hk))))))))) (zSub_cons (fun _ _ h h' hk => zIR_s (zIR_s (zIR_s (zIR_s (zIR_s (zIR_s (zIR_s (zIR_s (zIR_s (zIR_e (by omega) (by omega) hk)))))))))) (zSub_cons (fun _ _ h h' hk => zIR_s (zIR_s (zIR_s (zIR_s (zIR_s (zIR_s (zIR_s (zIR_s (zIR_s (zIR_s (zIR_e (by omega) (by omega) hk))))))))))) (zSub_cons (fun _ _ h h' hk => zIR_s (zIR_s (zIR_s (zIR_s (zIR_s (zIR_s (zIR_s (zIR_s (zIR_s (zIR_s (zIR_s (zIR_e (by omega) (by omega) hk)))))))))))) (zSub_cons (fun _ _ h h' hk => zIR_s (zIR_s (zIR_s (zIR_s (zIR_s (zIR_s (zIR_s (zIR_s (zIR_s (zIR_s (zIR_s (zIR_s (zIR_e (by omega) (by omega) hk))))))))))))) zSub_nil))))))))
          obtain ⟨x429, f430, h431, x432, f433, h434, h435, x436, f437, h438, h439, h440, x441, f442, h443, h444, h445, -⟩ := hq427
          show ZW _ _ _ _ _ _ _ (48, [some (.ref 386)], [], M425)
          refine w_gt dX9_statement_48 (t := 96) rfl ?_
          refine w_en dX9_statement_96 rfl ?_
          exact ⟨_, rfl, hJ428, ⟨x429, f430, (by omega), x432, f433, (by omega), (by omega), x436, f437, (by omega), (by omega), (by omega), x441, f442, (by omega), (by omega), (by omega), trivial⟩⟩
      · skip
        refine w_ine_f dX9_isWord_14 (t := 21) rfl (by omega) ?_
        refine w_ic dX9_isWord_17 zi_1 ?_
        refine w_gt dX9_isWord_18 (t := 22) rfl ?_
        refine w_en dX9_isWord_22 rfl ?_
        show ZW _ _ _ _ _ _ _ (24, [some (.ref 386)], [.int 1], M0)
        refine w_ieq_f dX9_statement_24 (t := 34) rfl (by have := zt_1; omega) ?_
        refine w_lo dX9_statement_27 rfl rfl rfl rfl ?_
        refine w_iv dX9_statement_28 rfl rfl (As := []) rfl rfl hJ0.1.1 zs_386 (Nat.le_of_ble_eq_true rfl) ?_
        refine ZV.imp (k_2325 sz hfsz (by omega) (by omega) sg hfsg (by omega) (by omega) se hfse (by omega) (by omega) fk hffk (by omega) (by omega) hN hJ0.1) ?_
        rintro _ ⟨M446, rfl, hJ447, hq448⟩
        have hJ449 := zJ_trans hJ0 hJ447 (zSub_cons (fun _ _ h h' hk => zIR_a (by omega) (by omega)) (zSub_cons (fun _ _ h h' hk => zIR_s (zIR_e (by omega) (by omega) hk)) (zSub_cons (fun _ _ h h' hk => zIR_s (zIR_s (zIR_s (zIR_e (by omega) (by omega) hk)))) (zSub_cons (fun _ _ h h' hk => zIR_s (zIR_s (zIR_s (zIR_s (zIR_s (zIR_s (zIR_s (zIR_s (zIR_e (by omega) (by omega) hk))))))))) (zSub_cons (fun _ _ h h' hk => zIR_s (zIR_s (zIR_s (zIR_s (zIR_s (zIR_s (zIR_s (zIR_s (zIR_s (zIR_e (by omega) (by omega) hk)))))))))) (zSub_cons (fun _ _ h h' hk => zIR_s (zIR_s (zIR_s (zIR_s (zIR_s (zIR_s (zIR_s (zIR_s (zIR_s (zIR_s (zIR_e (by omega) (by omega) hk))))))))))) (zSub_cons (fun _ _ h h' hk => zIR_s (zIR_s (zIR_s (zIR_s (zIR_s (zIR_s (zIR_s (zIR_s (zIR_s (zIR_s (zIR_s (zIR_e (by omega) (by omega) hk)))))))))))) (zSub_cons (fun _ _ h h' hk => zIR_s (zIR_s (zIR_s (zIR_s (zIR_s (zIR_s (zIR_s (zIR_s (zIR_s (zIR_s (zIR_s (zIR_s (zIR_e (by omega) (by omega) hk))))))))))))) zSub_nil))))))))
        obtain ⟨x450, f451, h452, x453, f454, h455, h456, x457, f458, h459, h460, h461, x462, f463, h464, h465, h466, -⟩ := hq448
        show ZW _ _ _ _ _ _ _ (31, [some (.ref 386)], [], M446)
        refine w_gt dX9_statement_31 (t := 96) rfl ?_
        refine w_en dX9_statement_96 rfl ?_
        exact ⟨_, rfl, hJ449, ⟨x450, f451, (by omega), x453, f454, (by omega), (by omega), x457, f458, (by omega), (by omega), (by omega), x462, f463, (by omega), (by omega), (by omega), trivial⟩⟩
    · skip
      refine w_ine_f dX9_isWord_14 (t := 21) rfl (by omega) ?_
      refine w_ic dX9_isWord_17 zi_1 ?_
      refine w_gt dX9_isWord_18 (t := 22) rfl ?_
      refine w_en dX9_isWord_22 rfl ?_
      show ZW _ _ _ _ _ _ _ (7, [some (.ref 386)], [.int 1], M0)
      refine w_ieq_f dX9_statement_7 (t := 17) rfl (by have := zt_1; omega) ?_
      refine w_lo dX9_statement_10 rfl rfl rfl rfl ?_
      refine w_iv dX9_statement_11 rfl rfl (As := []) rfl rfl hJ0.1.1 zs_386 (Nat.le_of_ble_eq_true rfl) ?_
      refine ZV.imp (k_2316 sz hfsz (by omega) (by omega) sg hfsg (by omega) (by omega) se hfse (by omega) (by omega) fk hffk (by omega) (by omega) hN hJ0.1) ?_
      rintro _ ⟨M467, rfl, hJ468, hq469⟩
      have hJ470 := zJ_trans hJ0 hJ468 (zSub_cons (fun _ _ h h' hk => zIR_a (by omega) (by omega)) (zSub_cons (fun _ _ h h' hk => zIR_s (zIR_e (by omega) (by omega) hk)) (zSub_cons (fun _ _ h h' hk => zIR_s (zIR_s (zIR_s (zIR_e (by omega) (by omega) hk)))) (zSub_cons (fun _ _ h h' hk => zIR_s (zIR_s (zIR_s (zIR_s (zIR_s (zIR_s (zIR_s (zIR_s (zIR_e (by omega) (by omega) hk))))))))) (zSub_cons (fun _ _ h h' hk => zIR_s (zIR_s (zIR_s (zIR_s (zIR_s (zIR_s (zIR_s (zIR_s (zIR_s (zIR_e (by omega) (by omega) hk)))))))))) (zSub_cons (fun _ _ h h' hk => zIR_s (zIR_s (zIR_s (zIR_s (zIR_s (zIR_s (zIR_s (zIR_s (zIR_s (zIR_s (zIR_e (by omega) (by omega) hk))))))))))) (zSub_cons (fun _ _ h h' hk => zIR_s (zIR_s (zIR_s (zIR_s (zIR_s (zIR_s (zIR_s (zIR_s (zIR_s (zIR_s (zIR_s (zIR_e (by omega) (by omega) hk)))))))))))) (zSub_cons (fun _ _ h h' hk => zIR_s (zIR_s (zIR_s (zIR_s (zIR_s (zIR_s (zIR_s (zIR_s (zIR_s (zIR_s (zIR_s (zIR_s (zIR_e (by omega) (by omega) hk))))))))))))) zSub_nil))))))))
      obtain ⟨x471, f472, h473, x474, f475, h476, h477, x478, f479, h480, h481, h482, x483, f484, h485, h486, h487, -⟩ := hq469
      show ZW _ _ _ _ _ _ _ (14, [some (.ref 386)], [], M467)
      refine w_gt dX9_statement_14 (t := 96) rfl ?_
      refine w_en dX9_statement_96 rfl ?_
      exact ⟨_, rfl, hJ470, ⟨x471, f472, (by omega), x474, f475, (by omega), (by omega), x478, f479, (by omega), (by omega), (by omega), x483, f484, (by omega), (by omega), (by omega), trivial⟩⟩
set_option maxHeartbeats 20000000 in
set_option maxRecDepth 100000 in
theorem k_2309 {X : List Int32} {d N : Nat} {M0 : zM}  (hN : N ≤ 600) (hB0 : zB N M0) : ZV X (d + 8) 2309 [.ref 386] M0 (zRI N [(386, 387, 1), (386, 387, 10), (388, 416, 1000), (418, 432, 1000), (386, 387, 11), (386, 387, 12), (386, 387, 2), (386, 387, 3), (386, 387, 34), (386, 387, 35), (386, 387, 4), (386, 387, 41), (386, 387, 42), (386, 387, 44), (386, 387, 45), (386, 387, 5), (386, 387, 6), (386, 387, 65), (386, 387, 68), (386, 387, 7), (386, 387, 8), (386, 387, 9)] M0 (-2147483648) (2147483647) (fun v M' => (∃ w : Int32, zvl M' (386) 1 = some (.int w) ∧ (w.toInt = 0) ∧ True))) := by
  have hJ0 : zJ N [(386, 387, 1), (386, 387, 10), (388, 416, 1000), (418, 432, 1000), (386, 387, 11), (386, 387, 12), (386, 387, 2), (386, 387, 3), (386, 387, 34), (386, 387, 35), (386, 387, 4), (386, 387, 41), (386, 387, 42), (386, 387, 44), (386, 387, 45), (386, 387, 5), (386, 387, 6), (386, 387, 65), (386, 387, 68), (386, 387, 7), (386, 387, 8), (386, 387, 9)] M0 M0 := zJ_refl hB0
  refine ZV.of (ini := false) rfl (Nat.le_of_ble_eq_true rfl) (by decide +kernel) ?_
  have main : ∀ n : Nat,
      (∀ (M : zM) (v76_1 : Int32) (z_76 : Int32) (g_76 : Int32) (e_76 : Int32) (k_76 : Int32) (t_76 : Int32), zJ N [(386, 387, 1), (386, 387, 10), (388, 416, 1000), (418, 432, 1000), (386, 387, 11), (386, 387, 12), (386, 387, 2), (386, 387, 3), (386, 387, 34), (386, 387, 35), (386, 387, 4), (386, 387, 41), (386, 387, 42), (386, 387, 44), (386, 387, 45), (386, 387, 5), (386, 387, 6), (386, 387, 65), (386, 387, 68), (386, 387, 7), (386, 387, 8), (386, 387, 9)] M0 M → ((0 : Int) ≤ v76_1.toInt) → (v76_1.toInt ≤ 22) → (zvl M (386) 2 = some (.int z_76)) → (0 ≤ z_76.toInt) → (z_76.toInt ≤ 1600) → (zvl M (386) 3 = some (.int g_76)) → (0 ≤ g_76.toInt) → (g_76.toInt ≤ 3) → (zvl M (386) 5 = some (.int e_76)) → (0 ≤ e_76.toInt) → (e_76.toInt ≤ z_76.toInt) → (zvl M (386) 8 = some (.int k_76)) → (0 ≤ k_76.toInt) → (k_76.toInt ≤ 5) → (zvl M (386) 1 = some (.int t_76)) → (t_76.toInt = 0) → 5 * (22 - v76_1.toInt) + 320513 < (n : Int) → ZW X (d + 7) 9 false (some .int) cX9_dorm (zRI N [(386, 387, 1), (386, 387, 10), (388, 416, 1000), (418, 432, 1000), (386, 387, 11), (386, 387, 12), (386, 387, 2), (386, 387, 3), (386, 387, 34), (386, 387, 35), (386, 387, 4), (386, 387, 41), (386, 387, 42), (386, 387, 44), (386, 387, 45), (386, 387, 5), (386, 387, 6), (386, 387, 65), (386, 387, 68), (386, 387, 7), (386, 387, 8), (386, 387, 9)] M0 (-2147483648) (2147483647) (fun v M' => (∃ w : Int32, zvl M' (386) 1 = some (.int w) ∧ (w.toInt = 0) ∧ True))) (76, [some (.ref 386), some (.int v76_1)], [], M)) ∧
      (∀ (M : zM) (v114_1 : Int32) (z_114 : Int32) (g_114 : Int32) (e_114 : Int32) (k_114 : Int32) (t_114 : Int32), zJ N [(386, 387, 1), (386, 387, 10), (388, 416, 1000), (418, 432, 1000), (386, 387, 11), (386, 387, 12), (386, 387, 2), (386, 387, 3), (386, 387, 34), (386, 387, 35), (386, 387, 4), (386, 387, 41), (386, 387, 42), (386, 387, 44), (386, 387, 45), (386, 387, 5), (386, 387, 6), (386, 387, 65), (386, 387, 68), (386, 387, 7), (386, 387, 8), (386, 387, 9)] M0 M → ((-2147483648 : Int) ≤ v114_1.toInt) → (v114_1.toInt ≤ 2147483647) → (zvl M (386) 2 = some (.int z_114)) → (0 ≤ z_114.toInt) → (z_114.toInt ≤ 1600) → (zvl M (386) 3 = some (.int g_114)) → (0 ≤ g_114.toInt) → (g_114.toInt ≤ 3) → (zvl M (386) 5 = some (.int e_114)) → (0 ≤ e_114.toInt) → (e_114.toInt ≤ z_114.toInt) → (zvl M (386) 8 = some (.int k_114)) → (0 ≤ k_114.toInt) → (k_114.toInt ≤ 5) → (zvl M (386) 1 = some (.int t_114)) → (t_114.toInt = 0) → 5 * (10 * (4 * (z_114.toInt - e_114.toInt) + g_114.toInt) + 6 - k_114.toInt) + 2 < (n : Int) → ZW X (d + 7) 9 false (some .int) cX9_dorm (zRI N [(386, 387, 1), (386, 387, 10), (388, 416, 1000), (418, 432, 1000), (386, 387, 11), (386, 387, 12), (386, 387, 2), (386, 387, 3), (386, 387, 34), (386, 387, 35), (386, 387, 4), (386, 387, 41), (386, 387, 42), (386, 387, 44), (386, 387, 45), (386, 387, 5), (386, 387, 6), (386, 387, 65), (386, 387, 68), (386, 387, 7), (386, 387, 8), (386, 387, 9)] M0 (-2147483648) (2147483647) (fun v M' => (∃ w : Int32, zvl M' (386) 1 = some (.int w) ∧ (w.toInt = 0) ∧ True))) (114, [some (.ref 386), some (.int v114_1)], [], M)) ∧
      (∀ (M : zM) (v143_1 : Int32) (z_143 : Int32) (g_143 : Int32) (e_143 : Int32) (k_143 : Int32) (t_143 : Int32), zJ N [(386, 387, 1), (386, 387, 10), (388, 416, 1000), (418, 432, 1000), (386, 387, 11), (386, 387, 12), (386, 387, 2), (386, 387, 3), (386, 387, 34), (386, 387, 35), (386, 387, 4), (386, 387, 41), (386, 387, 42), (386, 387, 44), (386, 387, 45), (386, 387, 5), (386, 387, 6), (386, 387, 65), (386, 387, 68), (386, 387, 7), (386, 387, 8), (386, 387, 9)] M0 M → ((-2147483648 : Int) ≤ v143_1.toInt) → (v143_1.toInt ≤ 2147483647) → (zvl M (386) 2 = some (.int z_143)) → (0 ≤ z_143.toInt) → (z_143.toInt ≤ 1600) → (zvl M (386) 3 = some (.int g_143)) → (0 ≤ g_143.toInt) → (g_143.toInt ≤ 3) → (zvl M (386) 5 = some (.int e_143)) → (0 ≤ e_143.toInt) → (e_143.toInt ≤ z_143.toInt) → (zvl M (386) 8 = some (.int k_143)) → (0 ≤ k_143.toInt) → (k_143.toInt ≤ 5) → (zvl M (386) 1 = some (.int t_143)) → (t_143.toInt = 0) → 1 < (n : Int) → ZW X (d + 7) 9 false (some .int) cX9_dorm (zRI N [(386, 387, 1), (386, 387, 10), (388, 416, 1000), (418, 432, 1000), (386, 387, 11), (386, 387, 12), (386, 387, 2), (386, 387, 3), (386, 387, 34), (386, 387, 35), (386, 387, 4), (386, 387, 41), (386, 387, 42), (386, 387, 44), (386, 387, 45), (386, 387, 5), (386, 387, 6), (386, 387, 65), (386, 387, 68), (386, 387, 7), (386, 387, 8), (386, 387, 9)] M0 (-2147483648) (2147483647) (fun v M' => (∃ w : Int32, zvl M' (386) 1 = some (.int w) ∧ (w.toInt = 0) ∧ True))) (143, [some (.ref 386), some (.int v143_1)], [], M)) := by
    intro n
    induction n with
    | zero =>
      exact ⟨(fun M v76_1 z_76 g_76 e_76 k_76 t_76 hJ v76_10 v76_11 hfz_76 hrz_760 hrz_761 hfg_76 hrg_760 hrg_761 hfe_76 hre_760 hre_761 hfk_76 hrk_760 hrk_761 hft_76 hrt_760 hn => absurd hn (by omega)), (fun M v114_1 z_114 g_114 e_114 k_114 t_114 hJ v114_10 v114_11 hfz_114 hrz_1140 hrz_1141 hfg_114 hrg_1140 hrg_1141 hfe_114 hre_1140 hre_1141 hfk_114 hrk_1140 hrk_1141 hft_114 hrt_1140 hn => absurd hn (by omega)), (fun M v143_1 z_143 g_143 e_143 k_143 t_143 hJ v143_10 v143_11 hfz_143 hrz_1430 hrz_1431 hfg_143 hrg_1430 hrg_1431 hfe_143 hre_1430 hre_1431 hfk_143 hrk_1430 hrk_1431 hft_143 hrt_1430 hn => absurd hn (by omega))⟩
    | succ n ih =>
      obtain ⟨ih76, ih114, ih143⟩ := ih
      refine ⟨?_, ?_, ?_⟩
      · intro M v76_1 z_76 g_76 e_76 k_76 t_76 hJ v76_10 v76_11 hfz_76 hrz_760 hrz_761 hfg_76 hrg_760 hrg_761 hfe_76 hre_760 hre_761 hfk_76 hrk_760 hrk_761 hft_76 hrt_760 hn
        refine w_lo dX9_dorm_76 rfl rfl rfl rfl ?_
        refine w_bi dX9_dorm_77 (c := 11) (by decide) ?_
        refine w_lo dX9_dorm_79 rfl rfl rfl rfl ?_
        refine w_gfi dX9_dorm_80 rfl hJ.1 zs_386 (Nat.le_of_ble_eq_true rfl) zo_386_35 ?_
        intro x1 f2 h3 h4
        refine w_mulc dX9_dorm_83 zt_11 (by have := zt_11; omega) ?_
        intro x5 h6
        have := zt_11
        refine w_bi dX9_dorm_84 (c := 11) (by decide) ?_
        refine w_add dX9_dorm_86 (by have := zt_11; omega) ?_
        intro x7 h8
        have := zt_11
        rcases zcut v76_1.toInt x7.toInt with h9 | h9
        · skip
          refine w_cge_f dX9_dorm_87 (t := 103) rfl (by omega) ?_
          refine w_lo dX9_dorm_90 rfl rfl rfl rfl ?_
          refine w_gf dX9_dorm_91 rfl hJ.1.1 zs_386 (zr_386_20 hJ.1) ?_
          refine w_lo dX9_dorm_94 rfl rfl rfl rfl ?_
          refine w_ic dX9_dorm_95 zi_0 ?_
          refine w_isi dX9_dorm_96 hJ zs_395 (by omega) (by omega) zu_395 (zbot _) (ztop _) (zIR_s (zIR_s (zIR_a (by omega) (by omega)))) ?_
          intro M10 hJ11 f12 hn13
          refine w_inc (kk := 1) dX9_dorm_97 rfl (m := 1) (by decide) (by omega) ?_
          intro x14 h15
          refine ⟨_, rfl, ?_⟩
          show ZW _ _ _ _ _ _ _ (100, [some (.ref 386), some (.int x14)], [], M10)
          refine w_gt dX9_dorm_100 (t := 76) rfl ?_
          have f16 := (hn13 (386) 2 (Or.inl (by omega))).trans (hfz_76)
          have f17 := (hn13 (386) 3 (Or.inl (by omega))).trans (hfg_76)
          have f18 := (hn13 (386) 5 (Or.inl (by omega))).trans (hfe_76)
          have f19 := (hn13 (386) 8 (Or.inl (by omega))).trans (hfk_76)
          have f20 := (hn13 (386) 1 (Or.inl (by omega))).trans (hft_76)
          exact ih76 M10 x14 z_76 g_76 e_76 k_76 t_76 hJ11 (by omega) (by omega) f16 (by omega) (by omega) f17 (by omega) (by omega) f18 (by omega) (by omega) f19 (by omega) (by omega) f20 (by omega) (by have := ztop x14; have := zbot x14; omega)
        · skip
          refine w_cge_t dX9_dorm_87 (t := 103) rfl (by omega) ?_
          refine w_lo dX9_dorm_103 rfl rfl rfl rfl ?_
          refine w_ic dX9_dorm_104 zi_0 ?_
          refine w_pfi dX9_dorm_105 rfl hJ zs_386 (Nat.le_of_ble_eq_true rfl) zo_386_34 (by have := zt_0; omega) (by have := zt_0; omega) (zIR_s (zIR_s (zIR_s (zIR_s (zIR_s (zIR_s (zIR_s (zIR_s (zIR_k (by omega) (by omega)))))))))) rfl rfl rfl ?_
          intro M21 hJ22 f23 hn24
          refine w_ic dX9_dorm_108 zi_0 ?_
          refine w_lo (ml' := [some (.ref 386), some (.int 0)]) dX9_dorm_109 rfl rfl rfl rfl ?_
          refine w_lo dX9_dorm_110 rfl rfl rfl rfl ?_
          have f27 := (hn24 (386) 2 (Or.inr (by decide))).trans (hfz_76)
          have f28 := (hn24 (386) 3 (Or.inr (by decide))).trans (hfg_76)
          have f29 := (hn24 (386) 5 (Or.inr (by decide))).trans (hfe_76)
          have f30 := (hn24 (386) 8 (Or.inr (by decide))).trans (hfk_76)
          refine w_iv dX9_dorm_111 rfl rfl (As := []) rfl rfl hJ22.1.1 zs_386 (Nat.le_of_ble_eq_true rfl) ?_
          refine ZV.imp (k_2310 z_76 f27 (by omega) (by omega) g_76 f28 (by omega) (by omega) e_76 f29 (by omega) (by omega) k_76 f30 (by omega) (by omega) hN hJ22.1) ?_
          rintro _ ⟨M25, rfl, hJ26, hq31⟩
          have hJ32 := zJ_trans hJ22 hJ26 (zSub_cons (fun _ _ h h' hk => zIR_s (zIR_s (zIR_s (zIR_s (zIR_s (zIR_s (zIR_s (zIR_e (by omega) (by omega) hk)))))))) (zSub_cons (fun _ _ h h' hk => zIR_s (zIR_s (zIR_s (zIR_s (zIR_s (zIR_s (zIR_s (zIR_s (zIR_s (zIR_s (zIR_e (by omega) (by omega) hk))))))))))) (zSub_cons (fun _ _ h h' hk => zIR_s (zIR_s (zIR_s (zIR_s (zIR_s (zIR_s (zIR_s (zIR_s (zIR_s (zIR_s (zIR_s (zIR_s (zIR_s (zIR_s (zIR_s (zIR_e (by omega) (by omega) hk)))))))))))))))) (zSub_cons (fun _ _ h h' hk => zIR_s (zIR_s (zIR_s (zIR_s (zIR_s (zIR_s (zIR_s (zIR_s (zIR_s (zIR_s (zIR_s (zIR_s (zIR_s (zIR_s (zIR_s (zIR_s (zIR_e (by omega) (by omega) hk))))))))))))))))) (zSub_cons (fun _ _ h h' hk => zIR_s (zIR_s (zIR_s (zIR_s (zIR_s (zIR_s (zIR_s (zIR_s (zIR_s (zIR_s (zIR_s (zIR_s (zIR_s (zIR_s (zIR_s (zIR_s (zIR_s (zIR_s (zIR_s (zIR_e (by omega) (by omega) hk)))))))))))))))))))) (zSub_cons (fun _ _ h h' hk => zIR_s (zIR_s (zIR_s (zIR_s (zIR_s (zIR_s (zIR_s (zIR_s (zIR_s (zIR_s (zIR_s (zIR_s (zIR_s (zIR_s (zIR_s (zIR_s (zIR_s (zIR_s (zIR_s (zIR_s (zIR_e (by omega) (by omega) hk))))))))))))))))))))) (zSub_cons (fun _ _ h h' hk => zIR_s (zIR_s (zIR_s (zIR_s (zIR_s (zIR_s (zIR_s (zIR_s (zIR_s (zIR_s (zIR_s (zIR_s (zIR_s (zIR_s (zIR_s (zIR_s (zIR_s (zIR_s (zIR_s (zIR_s (zIR_s (zIR_e (by omega) (by omega) hk)))))))))))))))))))))) zSub_nil)))))))
          obtain ⟨x33, f34, h35, x36, f37, h38, h39, x40, f41, h42, h43, x44, f45, h46, h47, h48, x49, f50, h51, h52, -⟩ := hq31
          show ZW _ _ _ _ _ _ _ (114, [some (.ref 386), some (.int 0)], [], M25)
          have f53 := (hJ26.2 (386) 1 (zNI_k (by decide) (by decide) (zNI_k (by decide) (by decide) (zNI_k (by decide) (by decide) (zNI_k (by decide) (by decide) (zNI_k (by decide) (by decide) (zNI_k (by decide) (by decide) (zNI_k (by decide) (by decide) zNI_nil)))))))).trans ((hn24 (386) 1 (Or.inr (by decide))).trans (hft_76))
          exact ih114 M25 0 x33 x36 x44 x49 t_76 hJ32 (zbot _) (ztop _) f34 (by have := zt_0; omega) (by have := zt_0; omega) f37 (by have := zt_0; omega) (by have := zt_0; omega) f45 (by have := zt_0; omega) (by have := zt_0; omega) f50 (by have := zt_0; omega) (by have := zt_0; omega) f53 (by have := zt_0; omega) (by have := zt_0; omega)
      · intro M v114_1 z_114 g_114 e_114 k_114 t_114 hJ v114_10 v114_11 hfz_114 hrz_1140 hrz_1141 hfg_114 hrg_1140 hrg_1141 hfe_114 hre_1140 hre_1141 hfk_114 hrk_1140 hrk_1141 hft_114 hrt_1140 hn
        refine w_lo dX9_dorm_114 rfl rfl rfl rfl ?_
        refine w_gf dX9_dorm_115 rfl hJ.1.1 zs_386 hfk_114 ?_
        rcases Int.decEq k_114.toInt (0 : Int) with h54 | h54
        · skip
          refine w_ine_t dX9_dorm_118 (t := 143) rfl (by omega) ?_
          exact ih143 M v114_1 z_114 g_114 e_114 k_114 t_114 hJ (zbot _) (ztop _) hfz_114 (by omega) (by omega) hfg_114 (by omega) (by omega) hfe_114 (by omega) (by omega) hfk_114 (by omega) (by omega) hft_114 (by omega) (by have := ztop v114_1; have := zbot v114_1; omega)
        · skip
          refine w_ine_f dX9_dorm_118 (t := 143) rfl (by omega) ?_
          refine w_lo dX9_dorm_121 rfl rfl rfl rfl ?_
          refine w_gf dX9_dorm_122 rfl hJ.1.1 zs_386 hfg_114 ?_
          rcases Int.decEq g_114.toInt (0 : Int) with h55 | h55
          · skip
            refine w_ieq_f dX9_dorm_125 (t := 143) rfl (by omega) ?_
            refine w_lo dX9_dorm_128 rfl rfl rfl rfl ?_
            refine w_iv dX9_dorm_129 rfl rfl (As := []) rfl rfl hJ.1.1 zs_386 (Nat.le_of_ble_eq_true rfl) ?_
            refine ZV.imp (k_2314 z_114 hfz_114 (by omega) (by omega) g_114 hfg_114 (by omega) (by omega) e_114 hfe_114 (by omega) (by omega) k_114 hfk_114 (by omega) (by omega) hN hJ.1) ?_
            rintro _ ⟨M56, rfl, hJ57, hq58⟩
            have hJ59 := zJ_trans hJ hJ57 (zSub_cons (fun _ _ h h' hk => zIR_s (zIR_s (zIR_a (by omega) (by omega)))) (zSub_cons (fun _ _ h h' hk => zIR_s (zIR_s (zIR_s (zIR_s (zIR_s (zIR_s (zIR_s (zIR_e (by omega) (by omega) hk)))))))) (zSub_cons (fun _ _ h h' hk => zIR_s (zIR_s (zIR_s (zIR_s (zIR_s (zIR_s (zIR_s (zIR_s (zIR_e (by omega) (by omega) hk))))))))) (zSub_cons (fun _ _ h h' hk => zIR_s (zIR_s (zIR_s (zIR_s (zIR_s (zIR_s (zIR_s (zIR_s (zIR_s (zIR_s (zIR_e (by omega) (by omega) hk))))))))))) (zSub_cons (fun _ _ h h' hk => zIR_s (zIR_s (zIR_s (zIR_s (zIR_s (zIR_s (zIR_s (zIR_s (zIR_s (zIR_s (zIR_s (zIR_e (by omega) (by omega) hk)))))))))))) (zSub_cons (fun _ _ h h' hk => zIR_s (zIR_s (zIR_s (zIR_s (zIR_s (zIR_s (zIR_s (zIR_s (zIR_s (zIR_s (zIR_s (zIR_s (zIR_e (by omega) (by omega) hk))))))))))))) (zSub_cons (fun _ _ h h' hk => zIR_s (zIR_s (zIR_s (zIR_s (zIR_s (zIR_s (zIR_s (zIR_s (zIR_s (zIR_s (zIR_s (zIR_s (zIR_s (zIR_e (by omega) (by omega) hk)))))))))))))) (zSub_cons (fun _ _ h h' hk => zIR_s (zIR_s (zIR_s (zIR_s (zIR_s (zIR_s (zIR_s (zIR_s (zIR_s (zIR_s (zIR_s (zIR_s (zIR_s (zIR_s (zIR_e (by omega) (by omega) hk))))))))))))))) (zSub_cons (fun _ _ h h' hk => zIR_s (zIR_s (zIR_s (zIR_s (zIR_s (zIR_s (zIR_s (zIR_s (zIR_s (zIR_s (zIR_s (zIR_s (zIR_s (zIR_s (zIR_s (zIR_e (by omega) (by omega) hk)))))))))))))))) (zSub_cons (fun _ _ h h' hk => zIR_s (zIR_s (zIR_s (zIR_s (zIR_s (zIR_s (zIR_s (zIR_s (zIR_s (zIR_s (zIR_s (zIR_s (zIR_s (zIR_s (zIR_s (zIR_s (zIR_e (by omega) (by omega) hk))))))))))))))))) (zSub_cons (fun _ _ h h' hk => zIR_s (zIR_s (zIR_s (zIR_s (zIR_s (zIR_s (zIR_s (zIR_s (zIR_s (zIR_s (zIR_s (zIR_s (zIR_s (zIR_s (zIR_s (zIR_s (zIR_s (zIR_s (zIR_s (zIR_e (by omega) (by omega) hk)))))))))))))))))))) (zSub_cons (fun _ _ h h' hk => zIR_s (zIR_s (zIR_s (zIR_s (zIR_s (zIR_s (zIR_s (zIR_s (zIR_s (zIR_s (zIR_s (zIR_s (zIR_s (zIR_s (zIR_s (zIR_s (zIR_s (zIR_s (zIR_s (zIR_s (zIR_e (by omega) (by omega) hk))))))))))))))))))))) (zSub_cons (fun _ _ h h' hk => zIR_s (zIR_s (zIR_s (zIR_s (zIR_s (zIR_s (zIR_s (zIR_s (zIR_s (zIR_s (zIR_s (zIR_s (zIR_s (zIR_s (zIR_s (zIR_s (zIR_s (zIR_s (zIR_s (zIR_s (zIR_s (zIR_e (by omega) (by omega) hk)))))))))))))))))))))) zSub_nil)))))))))))))
            obtain ⟨x60, f61, h62, x63, f64, h65, h66, x67, f68, h69, h70, h71, x72, f73, h74, h75, h76, -⟩ := hq58
            show ZW _ _ _ _ _ _ _ (132, [some (.ref 386), some (.int v114_1)], [], M56)
            refine w_incT (kk := 1) dX9_dorm_132 rfl ?_
            intro x77
            refine ⟨_, rfl, ?_⟩
            show ZW _ _ _ _ _ _ _ (135, [some (.ref 386), some (.int x77)], [], M56)
            refine w_lo dX9_dorm_135 rfl rfl rfl rfl ?_
            refine w_lo dX9_dorm_136 rfl rfl rfl rfl ?_
            refine w_iv dX9_dorm_137 rfl rfl (As := [.int x77]) rfl rfl hJ59.1.1 zs_386 (Nat.le_of_ble_eq_true rfl) ?_
            refine ZV.imp (k_2339 x77 x60 f61 (by omega) (by omega) x63 f64 (by omega) (by omega) x67 f68 (by omega) (by omega) x72 f73 (by omega) (by omega) hN hJ59.1) ?_
            rintro _ ⟨M79, rfl, hJ80, hq81⟩
            have hJ82 := zJ_trans hJ59 hJ80 (zSub_cons (fun _ _ h h' hk => zIR_s (zIR_s (zIR_s (zIR_s (zIR_s (zIR_s (zIR_s (zIR_e (by omega) (by omega) hk)))))))) (zSub_cons (fun _ _ h h' hk => zIR_s (zIR_s (zIR_s (zIR_s (zIR_s (zIR_s (zIR_s (zIR_s (zIR_s (zIR_s (zIR_e (by omega) (by omega) hk))))))))))) (zSub_cons (fun _ _ h h' hk => zIR_s (zIR_s (zIR_s (zIR_s (zIR_s (zIR_s (zIR_s (zIR_s (zIR_s (zIR_s (zIR_s (zIR_s (zIR_s (zIR_s (zIR_s (zIR_e (by omega) (by omega) hk)))))))))))))))) (zSub_cons (fun _ _ h h' hk => zIR_s (zIR_s (zIR_s (zIR_s (zIR_s (zIR_s (zIR_s (zIR_s (zIR_s (zIR_s (zIR_s (zIR_s (zIR_s (zIR_s (zIR_s (zIR_s (zIR_e (by omega) (by omega) hk))))))))))))))))) (zSub_cons (fun _ _ h h' hk => zIR_s (zIR_s (zIR_s (zIR_s (zIR_s (zIR_s (zIR_s (zIR_s (zIR_s (zIR_s (zIR_s (zIR_s (zIR_s (zIR_s (zIR_s (zIR_s (zIR_s (zIR_s (zIR_s (zIR_e (by omega) (by omega) hk)))))))))))))))))))) (zSub_cons (fun _ _ h h' hk => zIR_s (zIR_s (zIR_s (zIR_s (zIR_s (zIR_s (zIR_s (zIR_s (zIR_s (zIR_s (zIR_s (zIR_s (zIR_s (zIR_s (zIR_s (zIR_s (zIR_s (zIR_s (zIR_s (zIR_s (zIR_e (by omega) (by omega) hk))))))))))))))))))))) (zSub_cons (fun _ _ h h' hk => zIR_s (zIR_s (zIR_s (zIR_s (zIR_s (zIR_s (zIR_s (zIR_s (zIR_s (zIR_s (zIR_s (zIR_s (zIR_s (zIR_s (zIR_s (zIR_s (zIR_s (zIR_s (zIR_s (zIR_s (zIR_s (zIR_e (by omega) (by omega) hk)))))))))))))))))))))) zSub_nil)))))))
            obtain ⟨x83, f84, h85, x86, f87, h88, h89, x90, f91, h92, h93, h94, x95, f96, h97, h98, -⟩ := hq81
            show ZW _ _ _ _ _ _ _ (140, [some (.ref 386), some (.int x77)], [], M79)
            refine w_gt dX9_dorm_140 (t := 114) rfl ?_
            have f99 := (hJ80.2 (386) 1 (zNI_k (by decide) (by decide) (zNI_k (by decide) (by decide) (zNI_k (by decide) (by decide) (zNI_k (by decide) (by decide) (zNI_k (by decide) (by decide) (zNI_k (by decide) (by decide) (zNI_k (by decide) (by decide) zNI_nil)))))))).trans ((hJ57.2 (386) 1 (zNI (by omega) (zNI_k (by decide) (by decide) (zNI_k (by decide) (by decide) (zNI_k (by decide) (by decide) (zNI_k (by decide) (by decide) (zNI_k (by decide) (by decide) (zNI_k (by decide) (by decide) (zNI_k (by decide) (by decide) (zNI_k (by decide) (by decide) (zNI_k (by decide) (by decide) (zNI_k (by decide) (by decide) (zNI_k (by decide) (by decide) (zNI_k (by decide) (by decide) zNI_nil)))))))))))))).trans (hft_114))
            exact ih114 M79 x77 x83 x86 x90 x95 t_114 hJ82 (zbot _) (ztop _) f84 (by omega) (by omega) f87 (by omega) (by omega) f91 (by omega) (by omega) f96 (by omega) (by omega) f99 (by omega) (by have := ztop x77; have := zbot x77; omega)
          · skip
            refine w_ieq_t dX9_dorm_125 (t := 143) rfl (by omega) ?_
            exact ih143 M v114_1 z_114 g_114 e_114 k_114 t_114 hJ (zbot _) (ztop _) hfz_114 (by omega) (by omega) hfg_114 (by omega) (by omega) hfe_114 (by omega) (by omega) hfk_114 (by omega) (by omega) hft_114 (by omega) (by have := ztop v114_1; have := zbot v114_1; omega)
      · intro M v143_1 z_143 g_143 e_143 k_143 t_143 hJ v143_10 v143_11 hfz_143 hrz_1430 hrz_1431 hfg_143 hrg_1430 hrg_1431 hfe_143 hre_1430 hre_1431 hfk_143 hrk_1430 hrk_1431 hft_143 hrt_1430 hn
        refine w_lo dX9_dorm_143 rfl rfl rfl rfl ?_
        refine w_lo dX9_dorm_144 rfl rfl rfl rfl ?_
        refine w_gf dX9_dorm_145 rfl hJ.1.1 zs_386 hfk_143 ?_
        refine w_pfi dX9_dorm_148 rfl hJ zs_386 (Nat.le_of_ble_eq_true rfl) zo_386_10 (by omega) (by omega) (zIR_s (zIR_k (by omega) (by omega))) rfl rfl rfl ?_
        intro M100 hJ101 f102 hn103
        refine w_lo dX9_dorm_151 rfl rfl rfl rfl ?_
        refine w_lo dX9_dorm_152 rfl rfl rfl rfl ?_
        refine w_gfi dX9_dorm_153 rfl hJ101.1 zs_386 (Nat.le_of_ble_eq_true rfl) zo_386_9 ?_
        intro x104 f105 h106 h107
        refine w_pfi dX9_dorm_156 rfl hJ101 zs_386 (Nat.le_of_ble_eq_true rfl) zo_386_11 (by omega) (by omega) (zIR_s (zIR_s (zIR_s (zIR_s (zIR_k (by omega) (by omega)))))) rfl rfl rfl ?_
        intro M108 hJ109 f110 hn111
        refine w_lo dX9_dorm_159 rfl rfl rfl rfl ?_
        have f112 := (hn111 (386) 8 (Or.inr (by decide))).trans ((hn103 (386) 8 (Or.inr (by decide))).trans (hfk_143))
        refine w_gf dX9_dorm_160 rfl hJ109.1.1 zs_386 f112 ?_
        rcases zcut (0 : Int) k_143.toInt with h113 | h113
        · skip
          refine w_ile_f dX9_dorm_163 (t := 172) rfl (by omega) ?_
          refine w_lo dX9_dorm_166 rfl rfl rfl rfl ?_
          refine w_ic dX9_dorm_167 zi_1 ?_
          refine w_iv dX9_dorm_168 rfl rfl (As := [.int 1]) rfl rfl hJ109.1.1 zs_386 (Nat.le_of_ble_eq_true rfl) ?_
          refine ZV.imp (k_2306 1 (by have := zt_1; omega) (by have := zt_1; omega) hN hJ109.1) ?_
          rintro _ ⟨x117, M114, rfl, h118, h119, hJ115, hq116⟩
          have hJ120 := zJ_trans hJ109 hJ115 (zSub_cons (fun _ _ h h' hk => zIR_s (zIR_s (zIR_a (by omega) (by omega)))) zSub_nil)
          show ZW _ _ _ _ _ _ _ (171, [some (.ref 386), some (.int v143_1)], [.int x117], M114)
          refine w_eni dX9_dorm_171 rfl rfl ?_
          have f121 := (hJ115.2 (386) 1 (zNI (by omega) zNI_nil)).trans ((hn111 (386) 1 (Or.inr (by decide))).trans ((hn103 (386) 1 (Or.inr (by decide))).trans (hft_143)))
          exact ⟨_, _, rfl, (zbot _), (ztop _), hJ120, ⟨t_143, f121, (by omega), trivial⟩⟩
        · skip
          refine w_ile_t dX9_dorm_163 (t := 172) rfl (by omega) ?_
          refine w_lo dX9_dorm_172 rfl rfl rfl rfl ?_
          refine w_lo dX9_dorm_173 rfl rfl rfl rfl ?_
          refine w_gfi dX9_dorm_174 rfl hJ109.1 zs_386 (Nat.le_of_ble_eq_true rfl) zo_386_35 ?_
          intro x122 f123 h124 h125
          refine w_pfi dX9_dorm_177 rfl hJ109 zs_386 (Nat.le_of_ble_eq_true rfl) zo_386_12 (by omega) (by omega) (zIR_s (zIR_s (zIR_s (zIR_s (zIR_s (zIR_k (by omega) (by omega))))))) rfl rfl rfl ?_
          intro M126 hJ127 f128 hn129
          refine w_lo dX9_dorm_180 rfl rfl rfl rfl ?_
          refine w_iv dX9_dorm_181 rfl rfl (As := []) rfl rfl hJ127.1.1 zs_386 (Nat.le_of_ble_eq_true rfl) ?_
          refine ZV.imp (k_2341 hN hJ127.1) ?_
          rintro _ ⟨M130, rfl, hJ131, hq132⟩
          have hJ133 := zJ_trans hJ127 hJ131 (zSub_cons (fun _ _ h h' hk => zIR_s (zIR_s (zIR_s (zIR_a (by omega) (by omega))))) (zSub_cons (fun _ _ h h' hk => zIR_s (zIR_s (zIR_s (zIR_s (zIR_s (zIR_s (zIR_s (zIR_s (zIR_s (zIR_s (zIR_s (zIR_s (zIR_s (zIR_s (zIR_s (zIR_s (zIR_s (zIR_e (by omega) (by omega) hk)))))))))))))))))) (zSub_cons (fun _ _ h h' hk => zIR_s (zIR_s (zIR_s (zIR_s (zIR_s (zIR_s (zIR_s (zIR_s (zIR_s (zIR_s (zIR_s (zIR_s (zIR_s (zIR_s (zIR_s (zIR_s (zIR_s (zIR_s (zIR_e (by omega) (by omega) hk))))))))))))))))))) zSub_nil)))
          show ZW _ _ _ _ _ _ _ (184, [some (.ref 386), some (.int v143_1)], [], M130)
          refine w_lo dX9_dorm_184 rfl rfl rfl rfl ?_
          refine w_eni dX9_dorm_185 rfl rfl ?_
          have f134 := (hJ131.2 (386) 1 (zNI (by omega) (zNI_k (by decide) (by decide) (zNI_k (by decide) (by decide) zNI_nil)))).trans ((hn129 (386) 1 (Or.inr (by decide))).trans ((hn111 (386) 1 (Or.inr (by decide))).trans ((hn103 (386) 1 (Or.inr (by decide))).trans (hft_143))))
          exact ⟨_, _, rfl, (zbot _), (ztop _), hJ133, ⟨t_143, f134, (by omega), trivial⟩⟩
  obtain ⟨ih76, ih114, ih143⟩ := main 320638
  show ZW _ _ _ _ _ _ _ (0, [some (.ref 386), none], [], M0)
  refine w_lo dX9_dorm_0 rfl rfl rfl rfl ?_
  refine w_lo dX9_dorm_1 rfl rfl rfl rfl ?_
  refine w_gfi dX9_dorm_2 rfl hJ0.1 zs_386 (Nat.le_of_ble_eq_true rfl) zo_386_1 ?_
  intro x135 f136 h137 h138
  refine w_pfi dX9_dorm_5 rfl hJ0 zs_386 (Nat.le_of_ble_eq_true rfl) zo_386_2 (by omega) (by omega) (zIR_s (zIR_s (zIR_s (zIR_s (zIR_s (zIR_s (zIR_k (by omega) (by omega)))))))) rfl rfl rfl ?_
  intro M139 hJ140 f141 hn142
  refine w_lo dX9_dorm_8 rfl rfl rfl rfl ?_
  refine w_ic dX9_dorm_9 zi_0 ?_
  refine w_pfi dX9_dorm_10 rfl hJ140 zs_386 (Nat.le_of_ble_eq_true rfl) zo_386_1 (by have := zt_0; omega) (by have := zt_0; omega) (zIR_k (by omega) (by omega)) rfl rfl rfl ?_
  intro M143 hJ144 f145 hn146
  refine w_lo dX9_dorm_13 rfl rfl rfl rfl ?_
  refine w_ic dX9_dorm_14 zi_0 ?_
  refine w_pfi dX9_dorm_15 rfl hJ144 zs_386 (Nat.le_of_ble_eq_true rfl) zo_386_5 (by have := zt_0; omega) (by have := zt_0; omega) (zIR_s (zIR_s (zIR_s (zIR_s (zIR_s (zIR_s (zIR_s (zIR_s (zIR_s (zIR_s (zIR_s (zIR_s (zIR_s (zIR_s (zIR_s (zIR_k (by omega) (by omega))))))))))))))))) rfl rfl rfl ?_
  intro M147 hJ148 f149 hn150
  refine w_lo dX9_dorm_18 rfl rfl rfl rfl ?_
  refine w_ic dX9_dorm_19 zi_0 ?_
  refine w_pfi dX9_dorm_20 rfl hJ148 zs_386 (Nat.le_of_ble_eq_true rfl) zo_386_8 (by have := zt_0; omega) (by have := zt_0; omega) (zIR_s (zIR_s (zIR_s (zIR_s (zIR_s (zIR_s (zIR_s (zIR_s (zIR_s (zIR_s (zIR_s (zIR_s (zIR_s (zIR_s (zIR_s (zIR_s (zIR_s (zIR_s (zIR_s (zIR_s (zIR_k (by omega) (by omega)))))))))))))))))))))) rfl rfl rfl ?_
  intro M151 hJ152 f153 hn154
  refine w_lo dX9_dorm_23 rfl rfl rfl rfl ?_
  refine w_ic dX9_dorm_24 zi_m1 ?_
  refine w_pfi dX9_dorm_25 rfl hJ152 zs_386 (Nat.le_of_ble_eq_true rfl) zo_386_9 (by have := zt_m1; omega) (by have := zt_m1; omega) (zIR_s (zIR_s (zIR_s (zIR_s (zIR_s (zIR_s (zIR_s (zIR_s (zIR_s (zIR_s (zIR_s (zIR_s (zIR_s (zIR_s (zIR_s (zIR_s (zIR_s (zIR_s (zIR_s (zIR_s (zIR_s (zIR_k (by omega) (by omega))))))))))))))))))))))) rfl rfl rfl ?_
  intro M155 hJ156 f157 hn158
  refine w_lo dX9_dorm_28 rfl rfl rfl rfl ?_
  refine w_ic dX9_dorm_29 zi_1 ?_
  refine w_lo dX9_dorm_30 rfl rfl rfl rfl ?_
  refine w_gfi dX9_dorm_31 rfl hJ156.1 zs_386 (Nat.le_of_ble_eq_true rfl) zo_386_12 ?_
  intro x159 f160 h161 h162
  refine w_sub dX9_dorm_34 (by have := zt_1; omega) ?_
  intro x163 h164
  have := zt_1
  refine w_pfi dX9_dorm_35 rfl hJ156 zs_386 (Nat.le_of_ble_eq_true rfl) zo_386_35 (by omega) (by omega) (zIR_s (zIR_s (zIR_s (zIR_s (zIR_s (zIR_s (zIR_s (zIR_s (zIR_s (zIR_k (by omega) (by omega))))))))))) rfl rfl rfl ?_
  intro M165 hJ166 f167 hn168
  refine w_lo dX9_dorm_38 rfl rfl rfl rfl ?_
  refine w_gf dX9_dorm_39 rfl hJ166.1.1 zs_386 (zr_386_13 hJ166.1) ?_
  refine w_lo dX9_dorm_42 rfl rfl rfl rfl ?_
  refine w_gf dX9_dorm_43 rfl hJ166.1.1 zs_386 f167 ?_
  refine w_ic dX9_dorm_46 zi_0 ?_
  refine w_isi dX9_dorm_47 hJ166 zs_388 (by omega) (by omega) zu_388 (by have := zt_0; omega) (by have := zt_0; omega) (zIR_s (zIR_s (zIR_a (by omega) (by omega)))) ?_
  intro M169 hJ170 f171 hn172
  refine w_lo dX9_dorm_48 rfl rfl rfl rfl ?_
  refine w_gf dX9_dorm_49 rfl hJ170.1.1 zs_386 (zr_386_21 hJ170.1) ?_
  refine w_lo dX9_dorm_52 rfl rfl rfl rfl ?_
  have f173 := (hn172 (386) 35 (Or.inl (by omega))).trans (f167)
  refine w_gf dX9_dorm_53 rfl hJ170.1.1 zs_386 f173 ?_
  refine w_ic dX9_dorm_56 zi_0 ?_
  refine w_isi dX9_dorm_57 hJ170 zs_396 (by omega) (by omega) zu_396 (by have := zt_0; omega) (by have := zt_0; omega) (zIR_s (zIR_s (zIR_a (by omega) (by omega)))) ?_
  intro M174 hJ175 f176 hn177
  refine w_lo dX9_dorm_58 rfl rfl rfl rfl ?_
  refine w_gf dX9_dorm_59 rfl hJ175.1.1 zs_386 (zr_386_27 hJ175.1) ?_
  refine w_lo dX9_dorm_62 rfl rfl rfl rfl ?_
  have f178 := (hn177 (386) 35 (Or.inl (by omega))).trans (f173)
  refine w_gf dX9_dorm_63 rfl hJ175.1.1 zs_386 f178 ?_
  refine w_ic dX9_dorm_66 zi_0 ?_
  refine w_isi dX9_dorm_67 hJ175 zs_402 (by omega) (by omega) zu_402 (by have := zt_0; omega) (by have := zt_0; omega) (zIR_s (zIR_s (zIR_a (by omega) (by omega)))) ?_
  intro M179 hJ180 f181 hn182
  refine w_bi dX9_dorm_68 (c := 11) (by decide) ?_
  refine w_lo dX9_dorm_70 rfl rfl rfl rfl ?_
  have f183 := (hn182 (386) 35 (Or.inl (by omega))).trans (f178)
  refine w_gf dX9_dorm_71 rfl hJ180.1.1 zs_386 f183 ?_
  refine w_mulc dX9_dorm_74 zt_11 (by have := zt_11; omega) ?_
  intro x184 h185
  have := zt_11
  refine w_lo (ml' := [some (.ref 386), some (.int x184)]) dX9_dorm_75 rfl rfl rfl rfl ?_
  have f186 := (hn182 (386) 2 (Or.inl (by omega))).trans ((hn177 (386) 2 (Or.inl (by omega))).trans ((hn172 (386) 2 (Or.inl (by omega))).trans ((hn168 (386) 2 (Or.inr (by decide))).trans ((hn158 (386) 2 (Or.inr (by decide))).trans ((hn154 (386) 2 (Or.inr (by decide))).trans ((hn150 (386) 2 (Or.inr (by decide))).trans ((hn146 (386) 2 (Or.inr (by decide))).trans (f141))))))))
  obtain ⟨x187, f188, h189, h190⟩ := zB_int hJ180.1 zs_386 (Nat.le_of_ble_eq_true rfl) zo_386_3
  have f191 := (hn182 (386) 5 (Or.inl (by omega))).trans ((hn177 (386) 5 (Or.inl (by omega))).trans ((hn172 (386) 5 (Or.inl (by omega))).trans ((hn168 (386) 5 (Or.inr (by decide))).trans ((hn158 (386) 5 (Or.inr (by decide))).trans ((hn154 (386) 5 (Or.inr (by decide))).trans (f149))))))
  have f192 := (hn182 (386) 8 (Or.inl (by omega))).trans ((hn177 (386) 8 (Or.inl (by omega))).trans ((hn172 (386) 8 (Or.inl (by omega))).trans ((hn168 (386) 8 (Or.inr (by decide))).trans ((hn158 (386) 8 (Or.inr (by decide))).trans (f153)))))
  have f193 := (hn182 (386) 1 (Or.inl (by omega))).trans ((hn177 (386) 1 (Or.inl (by omega))).trans ((hn172 (386) 1 (Or.inl (by omega))).trans ((hn168 (386) 1 (Or.inr (by decide))).trans ((hn158 (386) 1 (Or.inr (by decide))).trans ((hn154 (386) 1 (Or.inr (by decide))).trans ((hn150 (386) 1 (Or.inr (by decide))).trans (f145)))))))
  exact ih76 M179 x184 x135 x187 0 0 0 hJ180 (by omega) (by omega) f186 (by have := zt_0; omega) (by have := zt_0; omega) f188 (by have := zt_0; omega) (by have := zt_0; omega) f191 (by have := zt_0; omega) (by have := zt_0; omega) f192 (by have := zt_0; omega) (by have := zt_0; omega) f193 (by have := zt_0; omega) (by have := zt_0; have := ztop x184; have := zbot x184; omega)
set_option maxRecDepth 100000 in
theorem k_2370 {X : List Int32} {d N : Nat} {M0 : zM} (a0 : Int32) (ha00 : (0 : Int) ≤ a0.toInt) (ha01 : a0.toInt ≤ 1) (a1 : Int32) (ha10 : (1 : Int) ≤ a1.toInt) (ha11 : a1.toInt ≤ 2147483647) (a2 : Int32) (hN : N ≤ 600) (hB0 : zB N M0) : ZV X (d + 4) 2370 [.ref 386, .int a0, .int a1, .int a2] M0 (zRI N [(416, 417, 1000)] M0 (-2147483648) (2147483647) (fun _ _ => True)) := by
  have hJ0 : zJ N [(416, 417, 1000)] M0 M0 := zJ_refl hB0
  refine ZV.of (ini := false) rfl (Nat.le_of_ble_eq_true rfl) (by decide +kernel) ?_
  have main : ∀ n : Nat,
      (∀ (M : zM) (v9_1 : Int32) (v9_2 : Int32) (v9_3 : Int32) (v9_4 : Int32) (o9_5 : Option Value) (o9_6 : Option Value), zJ N [(416, 417, 1000)] M0 M → ((0 : Int) ≤ v9_1.toInt) → (v9_1.toInt ≤ 1) → ((1 : Int) ≤ v9_2.toInt) → (v9_2.toInt ≤ 2147483647) → ((-2147483648 : Int) ≤ v9_3.toInt) → (v9_3.toInt ≤ 2147483647) → ((0 : Int) ≤ v9_4.toInt) → (v9_4.toInt ≤ 18) → 3 * (18 - v9_4.toInt) + 1 < (n : Int) → ZW X (d + 3) 9 false (some .int) cX9_lawOf (zRI N [(416, 417, 1000)] M0 (-2147483648) (2147483647) (fun _ _ => True)) (9, [some (.ref 386), some (.int v9_1), some (.int v9_2), some (.int v9_3), some (.int v9_4), o9_5, o9_6], [], M)) := by
    intro n
    induction n with
    | zero =>
      exact (fun M v9_1 v9_2 v9_3 v9_4 o9_5 o9_6 hJ v9_10 v9_11 v9_20 v9_21 v9_30 v9_31 v9_40 v9_41 hn => absurd hn (by omega))
    | succ n ih =>
      have ih9 := ih
      · intro M v9_1 v9_2 v9_3 v9_4 o9_5 o9_6 hJ v9_10 v9_11 v9_20 v9_21 v9_30 v9_31 v9_40 v9_41 hn
        refine w_lo dX9_lawOf_9 rfl rfl rfl rfl ?_
        refine w_bi dX9_lawOf_11 (c := 8) (by decide) ?_
        refine w_lo dX9_lawOf_13 rfl rfl rfl rfl ?_
        refine w_gfi dX9_lawOf_14 rfl hJ.1 zs_386 (Nat.le_of_ble_eq_true rfl) zo_386_12 ?_
        intro x1 f2 h3 h4
        refine w_mulc dX9_lawOf_17 zt_8 (by have := zt_8; omega) ?_
        intro x5 h6
        have := zt_8
        refine w_lo dX9_lawOf_18 rfl rfl rfl rfl ?_
        refine w_gf dX9_lawOf_19 rfl hJ.1.1 zs_386 (zr_386_27 hJ.1) ?_
        refine w_lo dX9_lawOf_22 rfl rfl rfl rfl ?_
        refine w_gf dX9_lawOf_23 rfl hJ.1.1 zs_386 f2 ?_
        refine w_iai dX9_lawOf_26 hJ.1 zs_402 (by omega) (by omega) zu_402 ?_
        intro x10 f7 h8 h9
        refine w_add dX9_lawOf_27 (by omega) ?_
        intro x11 h12
        rcases zcut v9_4.toInt x11.toInt with h13 | h13
        · skip
          refine w_cge_f dX9_lawOf_28 (t := 121) rfl (by omega) ?_
          refine w_lo dX9_lawOf_31 rfl rfl rfl rfl ?_
          refine w_gf dX9_lawOf_32 rfl hJ.1.1 zs_386 (zr_386_28 hJ.1) ?_
          refine w_lo dX9_lawOf_35 rfl rfl rfl rfl ?_
          refine w_iai dX9_lawOf_37 hJ.1 zs_403 (by omega) (by omega) zu_403 ?_
          intro x17 f14 h15 h16
          refine w_lo dX9_lawOf_38 rfl rfl rfl rfl ?_
          rcases Int.decEq x17.toInt v9_1.toInt with h18 | h18
          · skip
            refine w_cne_t dX9_lawOf_39 (t := 115) rfl (by omega) ?_
            refine w_inc (kk := 4) dX9_lawOf_115 rfl (m := 1) (by decide) (by omega) ?_
            intro x19 h20
            refine ⟨_, rfl, ?_⟩
            show ZW _ _ _ _ _ _ _ (118, [some (.ref 386), some (.int v9_1), some (.int v9_2), some (.int v9_3), some (.int x19), o9_5, o9_6], [], M)
            refine w_gt dX9_lawOf_118 (t := 9) rfl ?_
            exact ih9 M v9_1 v9_2 v9_3 x19 o9_5 o9_6 hJ (by omega) (by omega) (by omega) (ztop _) (zbot _) (ztop _) (by omega) (by omega) (by omega)
          · skip
            refine w_cne_f dX9_lawOf_39 (t := 115) rfl (by omega) ?_
            refine w_lo dX9_lawOf_42 rfl rfl rfl rfl ?_
            refine w_lo dX9_lawOf_43 rfl rfl rfl rfl ?_
            refine w_gf dX9_lawOf_44 rfl hJ.1.1 zs_386 (zr_386_30 hJ.1) ?_
            refine w_lo dX9_lawOf_47 rfl rfl rfl rfl ?_
            refine w_iai dX9_lawOf_49 hJ.1 zs_405 (by omega) (by omega) zu_405 ?_
            intro x24 f21 h22 h23
            refine w_lo dX9_lawOf_50 rfl rfl rfl rfl ?_
            refine w_gf dX9_lawOf_51 rfl hJ.1.1 zs_386 (zr_386_31 hJ.1) ?_
            refine w_lo dX9_lawOf_54 rfl rfl rfl rfl ?_
            refine w_iai dX9_lawOf_56 hJ.1 zs_406 (by omega) (by omega) zu_406 ?_
            intro x28 f25 h26 h27
            refine w_iv dX9_lawOf_57 rfl rfl (As := [.int x24, .int x28]) rfl rfl hJ.1.1 zs_386 (Nat.le_of_ble_eq_true rfl) ?_
            refine ZV.imp (k_2371 x24 (by omega) (by omega) x28 (by omega) (by omega) hN hJ.1) ?_
            rintro _ ⟨y32, M29, rfl, hJ30, hq31⟩
            have hJ33 := zJ_trans hJ hJ30 (zSub_cons (fun _ _ h h' hk => zIR_a (by omega) (by omega)) zSub_nil)
            show ZW _ _ _ _ _ _ _ (60, [some (.ref 386), some (.int v9_1), some (.int v9_2), some (.int v9_3), some (.int v9_4), o9_5, o9_6], [.long y32], M29)
            refine w_lc dX9_lawOf_60 (c := (0 : Int64)) (by decide) ?_
            refine w_lcm dX9_lawOf_61 ?_
            intro x34 h35
            have := ztl_0
            rcases Int.decEq x34.toInt (0 : Int) with h36 | h36
            · skip
              refine w_ine_t dX9_lawOf_62 (t := 68) rfl (by omega) ?_
              refine w_lo dX9_lawOf_68 rfl rfl rfl rfl ?_
              refine w_lo dX9_lawOf_69 rfl rfl rfl rfl ?_
              refine w_gf dX9_lawOf_70 rfl hJ33.1.1 zs_386 (zr_386_29 hJ33.1) ?_
              refine w_lo dX9_lawOf_73 rfl rfl rfl rfl ?_
              refine w_iai dX9_lawOf_75 hJ33.1 zs_404 (by omega) (by omega) zu_404 ?_
              intro x40 f37 h38 h39
              refine w_lo dX9_lawOf_76 rfl rfl rfl rfl ?_
              refine w_gf dX9_lawOf_77 rfl hJ33.1.1 zs_386 (zr_386_30 hJ33.1) ?_
              refine w_lo dX9_lawOf_80 rfl rfl rfl rfl ?_
              have f44 := (hJ30.2 (405) (v9_4 : Int32).toInt.toNat (zNI (by omega) zNI_nil)).trans (f21)
              refine w_ia dX9_lawOf_82 hJ33.1.1 zs_405 (znat (by omega)) f44 ?_
              refine w_iv dX9_lawOf_83 rfl rfl (As := [.int x40, .int x24]) rfl rfl hJ33.1.1 zs_386 (Nat.le_of_ble_eq_true rfl) ?_
              refine ZV.imp (k_2371 x40 (by omega) (by omega) x24 (by omega) (by omega) hN hJ33.1) ?_
              rintro _ ⟨y48, M45, rfl, hJ46, hq47⟩
              have hJ49 := zJ_trans hJ33 hJ46 (zSub_cons (fun _ _ h h' hk => zIR_a (by omega) (by omega)) zSub_nil)
              show ZW _ _ _ _ _ _ _ (86, [some (.ref 386), some (.int v9_1), some (.int v9_2), some (.int v9_3), some (.int v9_4), o9_5, o9_6], [.long y48], M45)
              refine w_lo (ml' := [some (.ref 386), some (.int v9_1), some (.int v9_2), some (.int v9_3), some (.int v9_4), some (.long y48), none]) dX9_lawOf_86 rfl rfl rfl rfl ?_
              refine w_lo dX9_lawOf_88 rfl rfl rfl rfl ?_
              refine w_lc dX9_lawOf_90 (c := (0 : Int64)) (by decide) ?_
              refine w_lcm dX9_lawOf_91 ?_
              intro x50 h51
              have := ztl_0
              rcases zcut x50.toInt (0 : Int) with h52 | h52
              · skip
                refine w_ige_f dX9_lawOf_92 (t := 99) rfl (by omega) ?_
                refine w_ic dX9_lawOf_95 zi_0 ?_
                refine w_gt dX9_lawOf_96 (t := 114) rfl ?_
                refine w_en dX9_lawOf_114 rfl ?_
                exact ⟨_, _, rfl, (zbot _), (ztop _), hJ49, trivial⟩
              · skip
                refine w_ige_t dX9_lawOf_92 (t := 99) rfl (by omega) ?_
                refine w_lo dX9_lawOf_99 rfl rfl rfl rfl ?_
                refine w_lo dX9_lawOf_101 rfl rfl rfl rfl ?_
                refine w_i2l dX9_lawOf_102 ?_
                intro y53 h54
                have := ztop v9_2; have := zbot v9_2
                refine w_lcm dX9_lawOf_103 ?_
                intro x55 h56
                skip
                rcases zcut (0 : Int) x55.toInt with h57 | h57
                · skip
                  refine w_ile_f dX9_lawOf_104 (t := 111) rfl (by omega) ?_
                  refine w_lo dX9_lawOf_107 rfl rfl rfl rfl ?_
                  refine w_gt dX9_lawOf_108 (t := 114) rfl ?_
                  refine w_eni dX9_lawOf_114 rfl rfl ?_
                  exact ⟨_, _, rfl, (zbot _), (ztop _), hJ49, trivial⟩
                · skip
                  refine w_ile_t dX9_lawOf_104 (t := 111) rfl (by omega) ?_
                  refine w_lo dX9_lawOf_111 rfl rfl rfl rfl ?_
                  refine w_l2i dX9_lawOf_113 (by omega) ?_
                  intro x58 h59
                  skip
                  refine w_eni dX9_lawOf_114 rfl rfl ?_
                  exact ⟨_, _, rfl, (zbot _), (ztop _), hJ49, trivial⟩
            · skip
              refine w_ine_f dX9_lawOf_62 (t := 68) rfl (by omega) ?_
              refine w_gt dX9_lawOf_65 (t := 115) rfl ?_
              refine w_inc (kk := 4) dX9_lawOf_115 rfl (m := 1) (by decide) (by omega) ?_
              intro x60 h61
              refine ⟨_, rfl, ?_⟩
              show ZW _ _ _ _ _ _ _ (118, [some (.ref 386), some (.int v9_1), some (.int v9_2), some (.int v9_3), some (.int x60), o9_5, o9_6], [], M29)
              refine w_gt dX9_lawOf_118 (t := 9) rfl ?_
              exact ih9 M29 v9_1 v9_2 v9_3 x60 o9_5 o9_6 hJ33 (by omega) (by omega) (by omega) (ztop _) (zbot _) (ztop _) (by omega) (by omega) (by omega)
        · skip
          refine w_cge_t dX9_lawOf_28 (t := 121) rfl (by omega) ?_
          refine w_lo dX9_lawOf_121 rfl rfl rfl rfl ?_
          refine w_eni dX9_lawOf_122 rfl rfl ?_
          exact ⟨_, _, rfl, (zbot _), (ztop _), hJ, trivial⟩
  have ih9 := main 66
  show ZW _ _ _ _ _ _ _ (0, [some (.ref 386), some (.int a0), some (.int a1), some (.int a2), none, none, none], [], M0)
  refine w_bi dX9_lawOf_0 (c := 8) (by decide) ?_
  refine w_lo dX9_lawOf_2 rfl rfl rfl rfl ?_
  refine w_gfi dX9_lawOf_3 rfl hJ0.1 zs_386 (Nat.le_of_ble_eq_true rfl) zo_386_12 ?_
  intro x62 f63 h64 h65
  refine w_mulc dX9_lawOf_6 zt_8 (by have := zt_8; omega) ?_
  intro x66 h67
  have := zt_8
  refine w_lo (ml' := [some (.ref 386), some (.int a0), some (.int a1), some (.int a2), some (.int x66), none, none]) dX9_lawOf_7 rfl rfl rfl rfl ?_
  exact ih9 M0 a0 a1 a2 x66 none none hJ0 (by omega) (by omega) (by omega) (ztop _) (zbot _) (ztop _) (by omega) (by omega) (by omega)
set_option maxRecDepth 100000 in
theorem k_2364 {X : List Int32} {d N : Nat} {M0 : zM} (a0 : Int32) (ha00 : (0 : Int) ≤ a0.toInt) (ha01 : a0.toInt ≤ 11) (a1 : Int32) (ha10 : (1 : Int) ≤ a1.toInt) (ha11 : a1.toInt ≤ 2147483647) (hN : N ≤ 600) (hB0 : zB N M0) : ZV X (d + 5) 2364 [.ref 386, .int a0, .int a1] M0 (zRI N [(416, 418, 1000)] M0 (-2147483648) (2147483647) (fun _ _ => True)) := by
  have hJ0 : zJ N [(416, 418, 1000)] M0 M0 := zJ_refl hB0
  refine ZV.of (ini := false) rfl (Nat.le_of_ble_eq_true rfl) (by decide +kernel) ?_
  show ZW _ _ _ _ _ _ _ (0, [some (.ref 386), some (.int a0), some (.int a1), none], [], M0)
  refine w_lo dX9_passedOf_0 rfl rfl rfl rfl ?_
  refine w_lo dX9_passedOf_1 rfl rfl rfl rfl ?_
  refine w_gf dX9_passedOf_2 rfl hJ0.1.1 zs_386 (zr_386_69 hJ0.1) ?_
  refine w_lo dX9_passedOf_5 rfl rfl rfl rfl ?_
  refine w_iai dX9_passedOf_6 hJ0.1 zs_434 (by omega) (by omega) zu_434 ?_
  intro x4 f1 h2 h3
  refine w_iv dX9_passedOf_7 rfl rfl (As := [.int x4]) rfl rfl hJ0.1.1 zs_386 (Nat.le_of_ble_eq_true rfl) ?_
  refine ZV.of (ini := false) rfl (Nat.le_of_ble_eq_true rfl) (by decide +kernel) ?_
  show ZW _ _ _ _ _ _ _ (0, [some (.ref 386), some (.int x4)], [], M0)
  refine w_lo dX9_isGhost_0 rfl rfl rfl rfl ?_
  refine w_gf dX9_isGhost_1 rfl hJ0.1.1 zs_386 (zr_386_19 hJ0.1) ?_
  refine w_bi dX9_isGhost_4 (c := 12) (by decide) ?_
  refine w_lo dX9_isGhost_6 rfl rfl rfl rfl ?_
  refine w_gfi dX9_isGhost_7 rfl hJ0.1 zs_386 (Nat.le_of_ble_eq_true rfl) zo_386_12 ?_
  intro x5 f6 h7 h8
  refine w_mulc dX9_isGhost_10 zt_12 (by have := zt_12; omega) ?_
  intro x9 h10
  have := zt_12
  refine w_lo dX9_isGhost_11 rfl rfl rfl rfl ?_
  refine w_add dX9_isGhost_12 (by omega) ?_
  intro x11 h12
  refine w_iai dX9_isGhost_13 hJ0.1 zs_394 (by omega) (by omega) zu_394 ?_
  intro x16 f13 h14 h15
  refine w_ic dX9_isGhost_14 zi_2 ?_
  refine w_and dX9_isGhost_15 (m := 2) zt_2 (by omega) ?_
  intro x17 h18 h19
  rcases Int.decEq x17.toInt (0 : Int) with h20 | h20
  · skip
    refine w_ieq_f dX9_isGhost_16 (t := 23) rfl (by omega) ?_
    refine w_ic dX9_isGhost_19 zi_1 ?_
    refine w_gt dX9_isGhost_20 (t := 24) rfl ?_
    refine w_en dX9_isGhost_24 rfl ?_
    show ZW _ _ _ _ _ _ _ (10, [some (.ref 386), some (.int a0), some (.int a1), none], [.int 1], M0)
    refine w_ieq_f dX9_passedOf_10 (t := 15) rfl (by have := zt_1; omega) ?_
    refine w_lo dX9_passedOf_13 rfl rfl rfl rfl ?_
    refine w_eni dX9_passedOf_14 rfl rfl ?_
    exact ⟨_, _, rfl, (zbot _), (ztop _), hJ0, trivial⟩
  · skip
    refine w_ieq_t dX9_isGhost_16 (t := 23) rfl (by omega) ?_
    refine w_ic dX9_isGhost_23 zi_0 ?_
    refine w_en dX9_isGhost_24 rfl ?_
    show ZW _ _ _ _ _ _ _ (10, [some (.ref 386), some (.int a0), some (.int a1), none], [.int 0], M0)
    refine w_ieq_t dX9_passedOf_10 (t := 15) rfl (by have := zt_0; omega) ?_
    refine w_lo dX9_passedOf_15 rfl rfl rfl rfl ?_
    refine w_lo dX9_passedOf_16 rfl rfl rfl rfl ?_
    refine w_lo dX9_passedOf_17 rfl rfl rfl rfl ?_
    refine w_iv dX9_passedOf_18 rfl rfl (As := [.int a0, .int a1]) rfl rfl hJ0.1.1 zs_386 (Nat.le_of_ble_eq_true rfl) ?_
    refine ZV.imp (k_2366 a0 (by omega) (by omega) a1 (by omega) (ztop _) hN hJ0.1) ?_
    rintro _ ⟨M21, rfl, hJ22, hq23⟩
    have hJ24 := zJ_trans hJ0 hJ22 (zSub_cons (fun _ _ h h' hk => zIR_a (by omega) (by omega)) zSub_nil)
    show ZW _ _ _ _ _ _ _ (21, [some (.ref 386), some (.int a0), some (.int a1), none], [], M21)
    refine w_lo dX9_passedOf_21 rfl rfl rfl rfl ?_
    refine w_lo dX9_passedOf_22 rfl rfl rfl rfl ?_
    refine w_gf dX9_passedOf_23 rfl hJ24.1.1 zs_386 (zr_386_15 hJ24.1) ?_
    refine w_bi dX9_passedOf_26 (c := 12) (by decide) ?_
    refine w_lo dX9_passedOf_28 rfl rfl rfl rfl ?_
    have f25 := (hJ22.2 (386) 12 (zNI (by omega) zNI_nil)).trans (f6)
    refine w_gf dX9_passedOf_29 rfl hJ24.1.1 zs_386 f25 ?_
    refine w_mulc dX9_passedOf_32 zt_12 (by have := zt_12; omega) ?_
    intro x26 h27
    have := zt_12
    refine w_lo dX9_passedOf_33 rfl rfl rfl rfl ?_
    refine w_gf dX9_passedOf_34 rfl hJ24.1.1 zs_386 (zr_386_69 hJ24.1) ?_
    refine w_lo dX9_passedOf_37 rfl rfl rfl rfl ?_
    have f31 := (hJ22.2 (434) (a0 : Int32).toInt.toNat (zNI (by omega) zNI_nil)).trans (f1)
    refine w_ia dX9_passedOf_38 hJ24.1.1 zs_434 (znat (by omega)) f31 ?_
    refine w_add dX9_passedOf_39 (by omega) ?_
    intro x32 h33
    refine w_iai dX9_passedOf_40 hJ24.1 zs_390 (by omega) (by omega) zu_390 ?_
    intro x37 f34 h35 h36
    refine w_puI dX9_passedOf_41 rfl rfl ?_
    intro x38
    refine w_lo (ml' := [some (.ref 386), some (.int a0), some (.int a1), some (.int x38)]) dX9_passedOf_42 rfl rfl rfl rfl ?_
    refine w_lo dX9_passedOf_43 rfl rfl rfl rfl ?_
    refine w_ic dX9_passedOf_44 zi_0 ?_
    refine w_lo dX9_passedOf_45 rfl rfl rfl rfl ?_
    refine w_lo dX9_passedOf_46 rfl rfl rfl rfl ?_
    rcases zcut x38.toInt (0 : Int) with h39 | h39
    · skip
      refine w_ige_f dX9_passedOf_47 (t := 54) rfl (by omega) ?_
      refine w_ic dX9_passedOf_50 zi_0 ?_
      refine w_gt dX9_passedOf_51 (t := 55) rfl ?_
      refine w_iv dX9_passedOf_55 rfl rfl (As := [.int 0, .int a1, .int 0]) rfl rfl hJ24.1.1 zs_386 (Nat.le_of_ble_eq_true rfl) ?_
      refine ZV.imp (k_2370 0 (by have := zt_0; omega) (by have := zt_0; omega) a1 (by omega) (ztop _) 0 hN hJ24.1) ?_
      rintro _ ⟨x43, M40, rfl, h44, h45, hJ41, hq42⟩
      have hJ46 := zJ_trans hJ24 hJ41 (zSub_cons (fun _ _ h h' hk => zIR_a (by omega) (by omega)) zSub_nil)
      show ZW _ _ _ _ _ _ _ (58, [some (.ref 386), some (.int a0), some (.int a1), some (.int x38)], [.int x43], M40)
      refine w_eni dX9_passedOf_58 rfl rfl ?_
      exact ⟨_, _, rfl, (zbot _), (ztop _), hJ46, trivial⟩
    · skip
      refine w_ige_t dX9_passedOf_47 (t := 54) rfl (by omega) ?_
      refine w_lo dX9_passedOf_54 rfl rfl rfl rfl ?_
      refine w_iv dX9_passedOf_55 rfl rfl (As := [.int 0, .int a1, .int x38]) rfl rfl hJ24.1.1 zs_386 (Nat.le_of_ble_eq_true rfl) ?_
      refine ZV.imp (k_2370 0 (by have := zt_0; omega) (by have := zt_0; omega) a1 (by omega) (ztop _) x38 hN hJ24.1) ?_
      rintro _ ⟨x50, M47, rfl, h51, h52, hJ48, hq49⟩
      have hJ53 := zJ_trans hJ24 hJ48 (zSub_cons (fun _ _ h h' hk => zIR_a (by omega) (by omega)) zSub_nil)
      show ZW _ _ _ _ _ _ _ (58, [some (.ref 386), some (.int a0), some (.int a1), some (.int x38)], [.int x50], M47)
      refine w_eni dX9_passedOf_58 rfl rfl ?_
      exact ⟨_, _, rfl, (zbot _), (ztop _), hJ53, trivial⟩
set_option maxRecDepth 100000 in
theorem k_2375 {X : List Int32} {d N : Nat} {M0 : zM} (a0 : Int32) (ha00 : (0 : Int) ≤ a0.toInt) (ha01 : a0.toInt ≤ 11) (a1 : Int32) (ha10 : (1 : Int) ≤ a1.toInt) (ha11 : a1.toInt ≤ 2147483647) (hN : N ≤ 600) (hB0 : zB N M0) : ZV X (d + 5) 2375 [.ref 386, .int a0, .int a1] M0 (zRI N [(416, 418, 1000)] M0 (-2147483648) (2147483647) (fun _ _ => True)) := by
  have hJ0 : zJ N [(416, 418, 1000)] M0 M0 := zJ_refl hB0
  refine ZV.of (ini := false) rfl (Nat.le_of_ble_eq_true rfl) (by decide +kernel) ?_
  show ZW _ _ _ _ _ _ _ (0, [some (.ref 386), some (.int a0), some (.int a1)], [], M0)
  refine w_lo dX9_deepOf_0 rfl rfl rfl rfl ?_
  refine w_lo dX9_deepOf_1 rfl rfl rfl rfl ?_
  refine w_lo dX9_deepOf_2 rfl rfl rfl rfl ?_
  refine w_iv dX9_deepOf_3 rfl rfl (As := [.int a0, .int a1]) rfl rfl hJ0.1.1 zs_386 (Nat.le_of_ble_eq_true rfl) ?_
  refine ZV.imp (k_2366 a0 (by omega) (by omega) a1 (by omega) (ztop _) hN hJ0.1) ?_
  rintro _ ⟨M1, rfl, hJ2, hq3⟩
  have hJ4 := zJ_trans hJ0 hJ2 (zSub_cons (fun _ _ h h' hk => zIR_a (by omega) (by omega)) zSub_nil)
  show ZW _ _ _ _ _ _ _ (6, [some (.ref 386), some (.int a0), some (.int a1)], [], M1)
  refine w_lo dX9_deepOf_6 rfl rfl rfl rfl ?_
  refine w_ic dX9_deepOf_7 zi_1 ?_
  refine w_si dX9_deepOf_8 (c := 9999) (by decide) ?_
  refine w_lo dX9_deepOf_11 rfl rfl rfl rfl ?_
  refine w_gf dX9_deepOf_12 rfl hJ4.1.1 zs_386 (zr_386_16 hJ4.1) ?_
  refine w_bi dX9_deepOf_15 (c := 12) (by decide) ?_
  refine w_lo dX9_deepOf_17 rfl rfl rfl rfl ?_
  refine w_gfi dX9_deepOf_18 rfl hJ4.1 zs_386 (Nat.le_of_ble_eq_true rfl) zo_386_12 ?_
  intro x5 f6 h7 h8
  refine w_mulc dX9_deepOf_21 zt_12 (by have := zt_12; omega) ?_
  intro x9 h10
  have := zt_12
  refine w_lo dX9_deepOf_22 rfl rfl rfl rfl ?_
  refine w_gf dX9_deepOf_23 rfl hJ4.1.1 zs_386 (zr_386_69 hJ4.1) ?_
  refine w_lo dX9_deepOf_26 rfl rfl rfl rfl ?_
  refine w_iai dX9_deepOf_27 hJ4.1 zs_434 (by omega) (by omega) zu_434 ?_
  intro x14 f11 h12 h13
  refine w_add dX9_deepOf_28 (by omega) ?_
  intro x15 h16
  refine w_iai dX9_deepOf_29 hJ4.1 zs_391 (by omega) (by omega) zu_391 ?_
  intro x20 f17 h18 h19
  refine w_iv dX9_deepOf_30 rfl rfl (As := [.int 1, .int 9999, .int x20]) rfl rfl hJ4.1.1 zs_386 (Nat.le_of_ble_eq_true rfl) ?_
  refine ZV.imp (k_2370 1 (by have := zt_1; omega) (by have := zt_1; omega) 9999 (by have := zt_9999; omega) (ztop _) x20 hN hJ4.1) ?_
  rintro _ ⟨x24, M21, rfl, h25, h26, hJ22, hq23⟩
  have hJ27 := zJ_trans hJ4 hJ22 (zSub_cons (fun _ _ h h' hk => zIR_a (by omega) (by omega)) zSub_nil)
  show ZW _ _ _ _ _ _ _ (33, [some (.ref 386), some (.int a0), some (.int a1)], [.int x24], M21)
  refine w_eni dX9_deepOf_33 rfl rfl ?_
  exact ⟨_, _, rfl, (zbot _), (ztop _), hJ27, trivial⟩
set_option maxRecDepth 100000 in
theorem k_2362 {X : List Int32} {d N : Nat} {M0 : zM} (a0 : Int32) (a1 : Int32) (a2 : Int32) (ha20 : (0 : Int) ≤ a2.toInt) (ha21 : a2.toInt ≤ 1) (hN : N ≤ 600) (hB0 : zB N M0) : ZV X (d + 6) 2362 [.ref 386, .int a0, .int a1, .int a2] M0 (zRI N [(416, 418, 1000), (434, 435, 1000), (386, 387, 70), (386, 387, 71), (386, 387, 72)] M0 (-2147483648) (2147483647) (fun _ _ => True)) := by
  have hJ0 : zJ N [(416, 418, 1000), (434, 435, 1000), (386, 387, 70), (386, 387, 71), (386, 387, 72)] M0 M0 := zJ_refl hB0
  refine ZV.of (ini := false) rfl (Nat.le_of_ble_eq_true rfl) (by decide +kernel) ?_
  show ZW _ _ _ _ _ _ _ (0, [some (.ref 386), some (.int a0), some (.int a1), some (.int a2)], [], M0)
  refine w_lo dX9_law_0 rfl rfl rfl rfl ?_
  refine w_lo dX9_law_1 rfl rfl rfl rfl ?_
  refine w_iv dX9_law_2 rfl rfl (As := [.int a0]) rfl rfl hJ0.1.1 zs_386 (Nat.le_of_ble_eq_true rfl) ?_
  refine ZV.of (ini := false) rfl (Nat.le_of_ble_eq_true rfl) (by decide +kernel) ?_
  show ZW _ _ _ _ _ _ _ (0, [some (.ref 386), some (.int a0)], [], M0)
  refine w_lo dX9_isBoy_0 rfl rfl rfl rfl ?_
  rcases zcut a0.toInt (0 : Int) with h1 | h1
  · skip
    refine w_ilt_t dX9_isBoy_1 (t := 21) rfl (by omega) ?_
    refine w_ic dX9_isBoy_21 zi_0 ?_
    refine w_en dX9_isBoy_22 rfl ?_
    show ZW _ _ _ _ _ _ _ (5, [some (.ref 386), some (.int a0), some (.int a1), some (.int a2)], [.int 0], M0)
    refine w_ieq_t dX9_law_5 (t := 19) rfl (by have := zt_0; omega) ?_
    refine w_ic dX9_law_19 zi_m1 ?_
    refine w_en dX9_law_20 rfl ?_
    exact ⟨_, _, rfl, (zbot _), (ztop _), hJ0, trivial⟩
  · skip
    refine w_ilt_f dX9_isBoy_1 (t := 21) rfl (by omega) ?_
    refine w_lo dX9_isBoy_4 rfl rfl rfl rfl ?_
    refine w_lo dX9_isBoy_5 rfl rfl rfl rfl ?_
    refine w_gf dX9_isBoy_6 rfl hJ0.1.1 zs_386 (zr_386_13 hJ0.1) ?_
    refine w_lo dX9_isBoy_9 rfl rfl rfl rfl ?_
    refine w_gfi dX9_isBoy_10 rfl hJ0.1 zs_386 (Nat.le_of_ble_eq_true rfl) zo_386_12 ?_
    intro x2 f3 h4 h5
    refine w_iai dX9_isBoy_13 hJ0.1 zs_388 (by omega) (by omega) zu_388 ?_
    intro x9 f6 h7 h8
    rcases zcut a0.toInt x9.toInt with h10 | h10
    · skip
      refine w_cge_f dX9_isBoy_14 (t := 21) rfl (by omega) ?_
      refine w_ic dX9_isBoy_17 zi_1 ?_
      refine w_gt dX9_isBoy_18 (t := 22) rfl ?_
      refine w_en dX9_isBoy_22 rfl ?_
      show ZW _ _ _ _ _ _ _ (5, [some (.ref 386), some (.int a0), some (.int a1), some (.int a2)], [.int 1], M0)
      refine w_ieq_f dX9_law_5 (t := 19) rfl (by have := zt_1; omega) ?_
      refine w_lo dX9_law_8 rfl rfl rfl rfl ?_
      refine w_ic dX9_law_9 zi_1 ?_
      refine w_si dX9_law_10 (c := 9999) (by decide) ?_
      refine w_ss dX9_law_13 rfl rfl (As := [.int a1, .int 1, .int 9999]) rfl rfl (Nat.le_of_ble_eq_true rfl) ?_
      refine ZV.of (ini := false) rfl (Nat.le_of_ble_eq_true rfl) (by decide +kernel) ?_
      show ZW _ _ _ _ _ _ _ (0, [some (.int a1), some (.int 1), some (.int 9999)], [], M0)
      refine w_lo dX9_is_0 rfl rfl rfl rfl ?_
      refine w_lo dX9_is_1 rfl rfl rfl rfl ?_
      rcases zcut a1.toInt (1 : Int) with h11 | h11
      · skip
        refine w_clt_t dX9_is_2 (t := 14) rfl (by have := zt_1; omega) ?_
        refine w_ic dX9_is_14 zi_0 ?_
        refine w_en dX9_is_15 rfl ?_
        show ZW _ _ _ _ _ _ _ (16, [some (.ref 386), some (.int a0), some (.int a1), some (.int a2)], [.int 0], M0)
        refine w_ine_f dX9_law_16 (t := 21) rfl (by have := zt_0; omega) ?_
        refine w_ic dX9_law_19 zi_m1 ?_
        refine w_en dX9_law_20 rfl ?_
        exact ⟨_, _, rfl, (zbot _), (ztop _), hJ0, trivial⟩
      · skip
        refine w_clt_f dX9_is_2 (t := 14) rfl (by have := zt_1; omega) ?_
        refine w_lo dX9_is_5 rfl rfl rfl rfl ?_
        refine w_lo dX9_is_6 rfl rfl rfl rfl ?_
        rcases zcut (9999 : Int) a1.toInt with h12 | h12
        · skip
          refine w_cgt_t dX9_is_7 (t := 14) rfl (by have := zt_9999; omega) ?_
          refine w_ic dX9_is_14 zi_0 ?_
          refine w_en dX9_is_15 rfl ?_
          show ZW _ _ _ _ _ _ _ (16, [some (.ref 386), some (.int a0), some (.int a1), some (.int a2)], [.int 0], M0)
          refine w_ine_f dX9_law_16 (t := 21) rfl (by have := zt_0; omega) ?_
          refine w_ic dX9_law_19 zi_m1 ?_
          refine w_en dX9_law_20 rfl ?_
          exact ⟨_, _, rfl, (zbot _), (ztop _), hJ0, trivial⟩
        · skip
          refine w_cgt_f dX9_is_7 (t := 14) rfl (by have := zt_9999; omega) ?_
          refine w_ic dX9_is_10 zi_1 ?_
          refine w_gt dX9_is_11 (t := 15) rfl ?_
          refine w_en dX9_is_15 rfl ?_
          show ZW _ _ _ _ _ _ _ (16, [some (.ref 386), some (.int a0), some (.int a1), some (.int a2)], [.int 1], M0)
          refine w_ine_t dX9_law_16 (t := 21) rfl (by have := zt_1; omega) ?_
          refine w_lo dX9_law_21 rfl rfl rfl rfl ?_
          refine w_ic dX9_law_22 zi_0 ?_
          refine w_iv dX9_law_23 rfl rfl (As := [.int 0]) rfl rfl hJ0.1.1 zs_386 (Nat.le_of_ble_eq_true rfl) ?_
          refine ZV.imp (k_2363 0 (by have := zt_0; omega) (by have := zt_0; omega) hN hJ0.1) ?_
          rintro _ ⟨M13, rfl, hJ14, hq15⟩
          have hJ16 := zJ_trans hJ0 hJ14 (zSub_cons (fun _ _ h h' hk => zIR_s (zIR_a (by omega) (by omega))) (zSub_cons (fun _ _ h h' hk => zIR_s (zIR_s (zIR_e (by omega) (by omega) hk))) (zSub_cons (fun _ _ h h' hk => zIR_s (zIR_s (zIR_s (zIR_e (by omega) (by omega) hk)))) (zSub_cons (fun _ _ h h' hk => zIR_s (zIR_s (zIR_s (zIR_s (zIR_e (by omega) (by omega) hk))))) zSub_nil))))
          show ZW _ _ _ _ _ _ _ (26, [some (.ref 386), some (.int a0), some (.int a1), some (.int a2)], [], M13)
          refine w_lo dX9_law_26 rfl rfl rfl rfl ?_
          rcases Int.decEq a2.toInt (0 : Int) with h17 | h17
          · skip
            refine w_ieq_f dX9_law_27 (t := 39) rfl (by omega) ?_
            refine w_lo dX9_law_30 rfl rfl rfl rfl ?_
            refine w_lo dX9_law_31 rfl rfl rfl rfl ?_
            refine w_lo dX9_law_32 rfl rfl rfl rfl ?_
            refine w_iv dX9_law_33 rfl rfl (As := [.int a0, .int a1]) rfl rfl hJ16.1.1 zs_386 (Nat.le_of_ble_eq_true rfl) ?_
            refine ZV.imp (k_2364 a0 (by omega) (by omega) a1 (by omega) (ztop _) hN hJ16.1) ?_
            rintro _ ⟨x21, M18, rfl, h22, h23, hJ19, hq20⟩
            have hJ24 := zJ_trans hJ16 hJ19 (zSub_cons (fun _ _ h h' hk => zIR_a (by omega) (by omega)) zSub_nil)
            show ZW _ _ _ _ _ _ _ (36, [some (.ref 386), some (.int a0), some (.int a1), some (.int a2)], [.int x21], M18)
            refine w_gt dX9_law_36 (t := 45) rfl ?_
            refine w_eni dX9_law_45 rfl rfl ?_
            exact ⟨_, _, rfl, (zbot _), (ztop _), hJ24, trivial⟩
          · skip
            refine w_ieq_t dX9_law_27 (t := 39) rfl (by omega) ?_
            refine w_lo dX9_law_39 rfl rfl rfl rfl ?_
            refine w_lo dX9_law_40 rfl rfl rfl rfl ?_
            refine w_lo dX9_law_41 rfl rfl rfl rfl ?_
            refine w_iv dX9_law_42 rfl rfl (As := [.int a0, .int a1]) rfl rfl hJ16.1.1 zs_386 (Nat.le_of_ble_eq_true rfl) ?_
            refine ZV.imp (k_2375 a0 (by omega) (by omega) a1 (by omega) (ztop _) hN hJ16.1) ?_
            rintro _ ⟨x28, M25, rfl, h29, h30, hJ26, hq27⟩
            have hJ31 := zJ_trans hJ16 hJ26 (zSub_cons (fun _ _ h h' hk => zIR_a (by omega) (by omega)) zSub_nil)
            show ZW _ _ _ _ _ _ _ (45, [some (.ref 386), some (.int a0), some (.int a1), some (.int a2)], [.int x28], M25)
            refine w_eni dX9_law_45 rfl rfl ?_
            exact ⟨_, _, rfl, (zbot _), (ztop _), hJ31, trivial⟩
    · skip
      refine w_cge_t dX9_isBoy_14 (t := 21) rfl (by omega) ?_
      refine w_ic dX9_isBoy_21 zi_0 ?_
      refine w_en dX9_isBoy_22 rfl ?_
      show ZW _ _ _ _ _ _ _ (5, [some (.ref 386), some (.int a0), some (.int a1), some (.int a2)], [.int 0], M0)
      refine w_ieq_t dX9_law_5 (t := 19) rfl (by have := zt_0; omega) ?_
      refine w_ic dX9_law_19 zi_m1 ?_
      refine w_en dX9_law_20 rfl ?_
      exact ⟨_, _, rfl, (zbot _), (ztop _), hJ0, trivial⟩
set_option maxRecDepth 100000 in
theorem k_2384 {X : List Int32} {d N : Nat} {M0 : zM} (a0 : Int32) (ha00 : (0 : Int) ≤ a0.toInt) (ha01 : a0.toInt ≤ 11) (a1 : Int32) (ha10 : (1 : Int) ≤ a1.toInt) (ha11 : a1.toInt ≤ 2147483647) (hN : N ≤ 600) (hB0 : zB N M0) : ZV X (d + 6) 2384 [.ref 386, .int a0, .int a1] M0 (zRI N [(416, 418, 1000), (435, 436, 1000), (386, 387, 74)] M0 (-2147483648) (2147483647) (fun _ _ => True)) := by
  have hJ0 : zJ N [(416, 418, 1000), (435, 436, 1000), (386, 387, 74)] M0 M0 := zJ_refl hB0
  refine ZV.of (ini := false) rfl (Nat.le_of_ble_eq_true rfl) (by decide +kernel) ?_
  have main : ∀ n : Nat,
      (∀ (M : zM) (v50_1 : Int32) (v50_2 : Int32) (u50_3 : Int32), zJ N [(416, 418, 1000), (435, 436, 1000), (386, 387, 74)] M0 M → ((0 : Int) ≤ v50_1.toInt) → (v50_1.toInt ≤ 11) → ((1 : Int) ≤ v50_2.toInt) → (v50_2.toInt ≤ 2147483647) → 1 < (n : Int) → ZW X (d + 5) 9 false (some .int) cX9_comes (zRI N [(416, 418, 1000), (435, 436, 1000), (386, 387, 74)] M0 (-2147483648) (2147483647) (fun _ _ => True)) (50, [some (.ref 386), some (.int v50_1), some (.int v50_2), some (.int u50_3)], [], M)) := by
    intro n
    induction n with
    | zero =>
      exact (fun M v50_1 v50_2 u50_3 hJ v50_10 v50_11 v50_20 v50_21 hn => absurd hn (by omega))
    | succ n ih =>
      have ih50 := ih
      · intro M v50_1 v50_2 u50_3 hJ v50_10 v50_11 v50_20 v50_21 hn
        refine w_lo dX9_comes_50 rfl rfl rfl rfl ?_
        refine w_lo dX9_comes_51 rfl rfl rfl rfl ?_
        refine w_lo dX9_comes_52 rfl rfl rfl rfl ?_
        refine w_lo dX9_comes_53 rfl rfl rfl rfl ?_
        refine w_iv dX9_comes_54 rfl rfl (As := [.int v50_1, .int v50_2]) rfl rfl hJ.1.1 zs_386 (Nat.le_of_ble_eq_true rfl) ?_
        refine ZV.imp (k_2375 v50_1 (by omega) (by omega) v50_2 (by omega) (ztop _) hN hJ.1) ?_
        rintro _ ⟨x4, M1, rfl, h5, h6, hJ2, hq3⟩
        have hJ7 := zJ_trans hJ hJ2 (zSub_cons (fun _ _ h h' hk => zIR_a (by omega) (by omega)) zSub_nil)
        show ZW _ _ _ _ _ _ _ (57, [some (.ref 386), some (.int v50_1), some (.int v50_2), some (.int u50_3)], [.int x4, .int v50_2], M1)
        rcases zcut x4.toInt v50_2.toInt with h8 | h8
        · skip
          refine w_cle_f dX9_comes_57 (t := 74) rfl (by omega) ?_
          refine w_lo dX9_comes_60 rfl rfl rfl rfl ?_
          refine w_pu dX9_comes_61 rfl rfl ?_
          refine w_gfi dX9_comes_62 rfl hJ7.1 zs_386 (Nat.le_of_ble_eq_true rfl) zo_386_74 ?_
          intro x9 f10 h11 h12
          refine w_ic dX9_comes_65 zi_1 ?_
          refine w_lo dX9_comes_66 rfl rfl rfl rfl ?_
          refine w_shl dX9_comes_67 (by omega) (by omega) (m := 11) (by omega) ?_
          intro x13 h14 h15
          have : (2 : Int) ^ 11 = 2048 := by decide
          refine w_or dX9_comes_68 (m := 12) (by decide) (by omega) (by omega) (by omega) (by omega) ?_
          intro x16 h17 h18
          have : (2 : Int) ^ 12 = 4096 := by decide
          refine w_pfi dX9_comes_69 rfl hJ7 zs_386 (Nat.le_of_ble_eq_true rfl) zo_386_74 (by omega) (by omega) (zIR_s (zIR_s (zIR_k (by omega) (by omega)))) rfl rfl rfl ?_
          intro M19 hJ20 f21 hn22
          refine w_ic dX9_comes_72 zi_0 ?_
          refine w_en dX9_comes_73 rfl ?_
          exact ⟨_, _, rfl, (zbot _), (ztop _), hJ20, trivial⟩
        · skip
          refine w_cle_t dX9_comes_57 (t := 74) rfl (by omega) ?_
          refine w_lo dX9_comes_74 rfl rfl rfl rfl ?_
          refine w_lo dX9_comes_75 rfl rfl rfl rfl ?_
          refine w_lo dX9_comes_76 rfl rfl rfl rfl ?_
          refine w_iv dX9_comes_77 rfl rfl (As := [.int v50_1, .int v50_2]) rfl rfl hJ7.1.1 zs_386 (Nat.le_of_ble_eq_true rfl) ?_
          refine ZV.imp (k_2364 v50_1 (by omega) (by omega) v50_2 (by omega) (ztop _) hN hJ7.1) ?_
          rintro _ ⟨x26, M23, rfl, h27, h28, hJ24, hq25⟩
          have hJ29 := zJ_trans hJ7 hJ24 (zSub_cons (fun _ _ h h' hk => zIR_a (by omega) (by omega)) zSub_nil)
          show ZW _ _ _ _ _ _ _ (80, [some (.ref 386), some (.int v50_1), some (.int v50_2), some (.int u50_3)], [.int x26], M23)
          refine w_eni dX9_comes_80 rfl rfl ?_
          exact ⟨_, _, rfl, (zbot _), (ztop _), hJ29, trivial⟩
  have ih50 := main 6
  show ZW _ _ _ _ _ _ _ (0, [some (.ref 386), some (.int a0), some (.int a1), none], [], M0)
  refine w_lo dX9_comes_0 rfl rfl rfl rfl ?_
  refine w_gf dX9_comes_1 rfl hJ0.1.1 zs_386 (zr_386_69 hJ0.1) ?_
  refine w_lo dX9_comes_4 rfl rfl rfl rfl ?_
  refine w_iai dX9_comes_5 hJ0.1 zs_434 (by omega) (by omega) zu_434 ?_
  intro x33 f30 h31 h32
  refine w_lo (ml' := [some (.ref 386), some (.int a0), some (.int a1), some (.int x33)]) dX9_comes_6 rfl rfl rfl rfl ?_
  refine w_lo dX9_comes_7 rfl rfl rfl rfl ?_
  refine w_gf dX9_comes_8 rfl hJ0.1.1 zs_386 (zr_386_73 hJ0.1) ?_
  refine w_lo dX9_comes_11 rfl rfl rfl rfl ?_
  refine w_lo dX9_comes_12 rfl rfl rfl rfl ?_
  refine w_isi dX9_comes_13 hJ0 zs_435 (by omega) (by omega) zu_435 (by omega) (ztop _) (zIR_s (zIR_a (by omega) (by omega))) ?_
  intro M34 hJ35 f36 hn37
  refine w_lo dX9_comes_14 rfl rfl rfl rfl ?_
  refine w_lo dX9_comes_15 rfl rfl rfl rfl ?_
  refine w_iv dX9_comes_16 rfl rfl (As := [.int x33]) rfl rfl hJ35.1.1 zs_386 (Nat.le_of_ble_eq_true rfl) ?_
  refine ZV.of (ini := false) rfl (Nat.le_of_ble_eq_true rfl) (by decide +kernel) ?_
  show ZW _ _ _ _ _ _ _ (0, [some (.ref 386), some (.int x33)], [], M34)
  refine w_lo dX9_isGhost_0 rfl rfl rfl rfl ?_
  refine w_gf dX9_isGhost_1 rfl hJ35.1.1 zs_386 (zr_386_19 hJ35.1) ?_
  refine w_bi dX9_isGhost_4 (c := 12) (by decide) ?_
  refine w_lo dX9_isGhost_6 rfl rfl rfl rfl ?_
  refine w_gfi dX9_isGhost_7 rfl hJ35.1 zs_386 (Nat.le_of_ble_eq_true rfl) zo_386_12 ?_
  intro x38 f39 h40 h41
  refine w_mulc dX9_isGhost_10 zt_12 (by have := zt_12; omega) ?_
  intro x42 h43
  have := zt_12
  refine w_lo dX9_isGhost_11 rfl rfl rfl rfl ?_
  refine w_add dX9_isGhost_12 (by omega) ?_
  intro x44 h45
  refine w_iai dX9_isGhost_13 hJ35.1 zs_394 (by omega) (by omega) zu_394 ?_
  intro x49 f46 h47 h48
  refine w_ic dX9_isGhost_14 zi_2 ?_
  refine w_and dX9_isGhost_15 (m := 2) zt_2 (by omega) ?_
  intro x50 h51 h52
  rcases Int.decEq x50.toInt (0 : Int) with h53 | h53
  · skip
    refine w_ieq_f dX9_isGhost_16 (t := 23) rfl (by omega) ?_
    refine w_ic dX9_isGhost_19 zi_1 ?_
    refine w_gt dX9_isGhost_20 (t := 24) rfl ?_
    refine w_en dX9_isGhost_24 rfl ?_
    show ZW _ _ _ _ _ _ _ (19, [some (.ref 386), some (.int a0), some (.int a1), some (.int x33)], [.int 1], M34)
    refine w_ieq_f dX9_comes_19 (t := 24) rfl (by have := zt_1; omega) ?_
    refine w_lo dX9_comes_22 rfl rfl rfl rfl ?_
    refine w_eni dX9_comes_23 rfl rfl ?_
    exact ⟨_, _, rfl, (zbot _), (ztop _), hJ35, trivial⟩
  · skip
    refine w_ieq_t dX9_isGhost_16 (t := 23) rfl (by omega) ?_
    refine w_ic dX9_isGhost_23 zi_0 ?_
    refine w_en dX9_isGhost_24 rfl ?_
    show ZW _ _ _ _ _ _ _ (19, [some (.ref 386), some (.int a0), some (.int a1), some (.int x33)], [.int 0], M34)
    refine w_ieq_t dX9_comes_19 (t := 24) rfl (by have := zt_0; omega) ?_
    refine w_lo dX9_comes_24 rfl rfl rfl rfl ?_
    refine w_gfi dX9_comes_25 rfl hJ35.1 zs_386 (Nat.le_of_ble_eq_true rfl) zo_386_71 ?_
    intro x54 f55 h56 h57
    rcases Int.decEq x54.toInt (0 : Int) with h58 | h58
    · skip
      refine w_ine_t dX9_comes_28 (t := 50) rfl (by omega) ?_
      exact ih50 M34 a0 a1 x33 hJ35 (by omega) (by omega) (by omega) (ztop _) (by omega)
    · skip
      refine w_ine_f dX9_comes_28 (t := 50) rfl (by omega) ?_
      refine w_lo dX9_comes_31 rfl rfl rfl rfl ?_
      refine w_gf dX9_comes_32 rfl hJ35.1.1 zs_386 (zr_386_51 hJ35.1) ?_
      refine w_bi dX9_comes_35 (c := 12) (by decide) ?_
      refine w_lo dX9_comes_37 rfl rfl rfl rfl ?_
      refine w_gfi dX9_comes_38 rfl hJ35.1 zs_386 (Nat.le_of_ble_eq_true rfl) zo_386_72 ?_
      intro x59 f60 h61 h62
      refine w_mulc dX9_comes_41 zt_12 (by have := zt_12; omega) ?_
      intro x63 h64
      have := zt_12
      refine w_lo dX9_comes_42 rfl rfl rfl rfl ?_
      refine w_add dX9_comes_43 (by omega) ?_
      intro x65 h66
      refine w_iai dX9_comes_44 hJ35.1 zs_420 (by omega) (by omega) zu_420 ?_
      intro x70 f67 h68 h69
      rcases Int.decEq x70.toInt (0 : Int) with h71 | h71
      · skip
        refine w_ine_t dX9_comes_45 (t := 50) rfl (by omega) ?_
        exact ih50 M34 a0 a1 x33 hJ35 (by omega) (by omega) (by omega) (ztop _) (by omega)
      · skip
        refine w_ine_f dX9_comes_45 (t := 50) rfl (by omega) ?_
        refine w_ic dX9_comes_48 zi_0 ?_
        refine w_en dX9_comes_49 rfl ?_
        exact ⟨_, _, rfl, (zbot _), (ztop _), hJ35, trivial⟩
set_option maxRecDepth 100000 in
theorem k_2382 {X : List Int32} {d N : Nat} {M0 : zM} (a0 : Int32) (ha00 : (0 : Int) ≤ a0.toInt) (ha01 : a0.toInt ≤ 11) (a1 : Int32) (hN : N ≤ 600) (hB0 : zB N M0) : ZV X (d + 7) 2382 [.ref 386, .int a0, .int a1] M0 (zRV N [(416, 418, 1000), (435, 436, 1000), (386, 387, 74)] M0 (fun _ => True)) := by
  have hJ0 : zJ N [(416, 418, 1000), (435, 436, 1000), (386, 387, 74)] M0 M0 := zJ_refl hB0
  refine ZV.of (ini := false) rfl (Nat.le_of_ble_eq_true rfl) (by decide +kernel) ?_
  have main : ∀ n : Nat,
      (∀ (M : zM) (v7_1 : Int32) (v7_2 : Int32) (v7_3 : Int32) (o7_4 : Option Value), zJ N [(416, 418, 1000), (435, 436, 1000), (386, 387, 74)] M0 M → ((0 : Int) ≤ v7_1.toInt) → (v7_1.toInt ≤ 11) → ((-2147483648 : Int) ≤ v7_2.toInt) → (v7_2.toInt ≤ 2147483647) → ((0 : Int) ≤ v7_3.toInt) → (v7_3.toInt ≤ 12) → 5 * (12 - v7_3.toInt) + 133 < (n : Int) → ZW X (d + 6) 9 false none cX9_tugs (zRV N [(416, 418, 1000), (435, 436, 1000), (386, 387, 74)] M0 (fun _ => True)) (7, [some (.ref 386), some (.int v7_1), some (.int v7_2), some (.int v7_3), o7_4], [], M)) ∧
      (∀ (M : zM) (v33_1 : Int32) (v33_2 : Int32) (v33_3 : Int32) (v33_4 : Int32), zJ N [(416, 418, 1000), (435, 436, 1000), (386, 387, 74)] M0 M → ((0 : Int) ≤ v33_1.toInt) → (v33_1.toInt ≤ 11) → ((-2147483648 : Int) ≤ v33_2.toInt) → (v33_2.toInt ≤ 2147483647) → ((-2147483648 : Int) ≤ v33_3.toInt) → (v33_3.toInt ≤ 2147483647) → ((1 : Int) ≤ v33_4.toInt) → (v33_4.toInt ≤ 12) → 5 * (12 - v33_4.toInt) + 67 < (n : Int) → ZW X (d + 6) 9 false none cX9_tugs (zRV N [(416, 418, 1000), (435, 436, 1000), (386, 387, 74)] M0 (fun _ => True)) (33, [some (.ref 386), some (.int v33_1), some (.int v33_2), some (.int v33_3), some (.int v33_4)], [], M)) ∧
      (∀ (M : zM) (u93_1 : Int32) (u93_2 : Int32) (v93_3 : Int32) (v93_4 : Int32), zJ N [(416, 418, 1000), (435, 436, 1000), (386, 387, 74)] M0 M → ((-2147483648 : Int) ≤ v93_3.toInt) → (v93_3.toInt ≤ 2147483647) → ((-1 : Int) ≤ v93_4.toInt) → (v93_4.toInt ≤ 10) → 5 * (v93_4.toInt - (-1)) + 1 < (n : Int) → ZW X (d + 6) 9 false none cX9_tugs (zRV N [(416, 418, 1000), (435, 436, 1000), (386, 387, 74)] M0 (fun _ => True)) (93, [some (.ref 386), some (.int u93_1), some (.int u93_2), some (.int v93_3), some (.int v93_4)], [], M)) := by
    intro n
    induction n with
    | zero =>
      exact ⟨(fun M v7_1 v7_2 v7_3 o7_4 hJ v7_10 v7_11 v7_20 v7_21 v7_30 v7_31 hn => absurd hn (by omega)), (fun M v33_1 v33_2 v33_3 v33_4 hJ v33_10 v33_11 v33_20 v33_21 v33_30 v33_31 v33_40 v33_41 hn => absurd hn (by omega)), (fun M u93_1 u93_2 v93_3 v93_4 hJ v93_30 v93_31 v93_40 v93_41 hn => absurd hn (by omega))⟩
    | succ n ih =>
      obtain ⟨ih7, ih33, ih93⟩ := ih
      refine ⟨?_, ?_, ?_⟩
      · intro M v7_1 v7_2 v7_3 o7_4 hJ v7_10 v7_11 v7_20 v7_21 v7_30 v7_31 hn
        refine w_lo dX9_tugs_7 rfl rfl rfl rfl ?_
        refine w_bi dX9_tugs_8 (c := 12) (by decide) ?_
        rcases zcut v7_3.toInt (12 : Int) with h1 | h1
        · skip
          refine w_cge_f dX9_tugs_10 (t := 26) rfl (by have := zt_12; omega) ?_
          refine w_lo dX9_tugs_13 rfl rfl rfl rfl ?_
          refine w_gf dX9_tugs_14 rfl hJ.1.1 zs_386 (zr_386_73 hJ.1) ?_
          refine w_lo dX9_tugs_17 rfl rfl rfl rfl ?_
          refine w_ic dX9_tugs_18 zi_0 ?_
          refine w_isi dX9_tugs_19 hJ zs_435 (by omega) (by omega) zu_435 (by have := zt_0; omega) (ztop _) (zIR_s (zIR_a (by omega) (by omega))) ?_
          intro M2 hJ3 f4 hn5
          refine w_inc (kk := 3) dX9_tugs_20 rfl (m := 1) (by decide) (by omega) ?_
          intro x6 h7
          refine ⟨_, rfl, ?_⟩
          show ZW _ _ _ _ _ _ _ (23, [some (.ref 386), some (.int v7_1), some (.int v7_2), some (.int x6), o7_4], [], M2)
          refine w_gt dX9_tugs_23 (t := 7) rfl ?_
          exact ih7 M2 v7_1 v7_2 x6 o7_4 hJ3 (by omega) (by omega) (zbot _) (ztop _) (by omega) (by omega) (by omega)
        · skip
          refine w_cge_t dX9_tugs_10 (t := 26) rfl (by have := zt_12; omega) ?_
          refine w_lo dX9_tugs_26 rfl rfl rfl rfl ?_
          refine w_lo (ml' := [some (.ref 386), some (.int v7_1), some (.int v7_2), some (.int v7_2), o7_4]) dX9_tugs_27 rfl rfl rfl rfl ?_
          refine w_lo dX9_tugs_28 rfl rfl rfl rfl ?_
          refine w_ic dX9_tugs_29 zi_1 ?_
          refine w_add dX9_tugs_30 (by have := zt_1; omega) ?_
          intro x8 h9
          have := zt_1
          refine w_lo (ml' := [some (.ref 386), some (.int v7_1), some (.int v7_2), some (.int v7_2), some (.int x8)]) dX9_tugs_31 rfl rfl rfl rfl ?_
          exact ih33 M v7_1 v7_2 v7_2 x8 hJ (by omega) (by omega) (zbot _) (ztop _) (zbot _) (ztop _) (by omega) (by omega) (by omega)
      · intro M v33_1 v33_2 v33_3 v33_4 hJ v33_10 v33_11 v33_20 v33_21 v33_30 v33_31 v33_40 v33_41 hn
        refine w_lo dX9_tugs_33 rfl rfl rfl rfl ?_
        refine w_lo dX9_tugs_35 rfl rfl rfl rfl ?_
        refine w_gfi dX9_tugs_36 rfl hJ.1 zs_386 (Nat.le_of_ble_eq_true rfl) zo_386_70 ?_
        intro x10 f11 h12 h13
        rcases zcut v33_4.toInt x10.toInt with h14 | h14
        · skip
          refine w_cge_f dX9_tugs_39 (t := 86) rfl (by omega) ?_
          refine w_lo dX9_tugs_42 rfl rfl rfl rfl ?_
          rcases zcut (0 : Int) v33_3.toInt with h15 | h15
          · skip
            refine w_ile_f dX9_tugs_43 (t := 86) rfl (by omega) ?_
            refine w_lo dX9_tugs_46 rfl rfl rfl rfl ?_
            refine w_lo dX9_tugs_47 rfl rfl rfl rfl ?_
            refine w_ic dX9_tugs_49 zi_1 ?_
            refine w_sub dX9_tugs_50 (by have := zt_1; omega) ?_
            intro x16 h17
            have := zt_1
            refine w_iv dX9_tugs_51 rfl rfl (As := [.int x16]) rfl rfl hJ.1.1 zs_386 (Nat.le_of_ble_eq_true rfl) ?_
            refine ZV.of (ini := false) rfl (Nat.le_of_ble_eq_true rfl) (by decide +kernel) ?_
            show ZW _ _ _ _ _ _ _ (0, [some (.ref 386), some (.int x16)], [], M)
            refine w_lo dX9_isTied_0 rfl rfl rfl rfl ?_
            refine w_gf dX9_isTied_1 rfl hJ.1.1 zs_386 (zr_386_60 hJ.1) ?_
            refine w_bi dX9_isTied_4 (c := 11) (by decide) ?_
            refine w_lo dX9_isTied_6 rfl rfl rfl rfl ?_
            refine w_gfi dX9_isTied_7 rfl hJ.1 zs_386 (Nat.le_of_ble_eq_true rfl) zo_386_71 ?_
            intro x18 f19 h20 h21
            rcases Int.decEq x18.toInt (0 : Int) with h22 | h22
            · skip
              refine w_ieq_f dX9_isTied_10 (t := 17) rfl (by omega) ?_
              refine w_ic dX9_isTied_13 zi_0 ?_
              refine w_gt dX9_isTied_14 (t := 21) rfl ?_
              refine w_pu (st' := [.int 0, .ref 429]) dX9_isTied_21 rfl rfl ?_
              refine w_lo dX9_isTied_22 rfl rfl rfl rfl ?_
              refine w_add dX9_isTied_23 (by have := zt_0; omega) ?_
              intro x23 h24
              have := zt_0
              refine w_iai dX9_isTied_24 hJ.1 zs_429 (by omega) (by omega) zu_429 ?_
              intro x28 f25 h26 h27
              refine w_ic dX9_isTied_25 zi_1 ?_
              rcases Int.decEq x28.toInt (1 : Int) with h29 | h29
              · skip
                refine w_cne_t dX9_isTied_26 (t := 33) rfl (by have := zt_1; omega) ?_
                refine w_ic dX9_isTied_33 zi_0 ?_
                refine w_en dX9_isTied_34 rfl ?_
                show ZW _ _ _ _ _ _ _ (54, [some (.ref 386), some (.int v33_1), some (.int v33_2), some (.int v33_3), some (.int v33_4)], [.int 0], M)
                refine w_ieq_t dX9_tugs_54 (t := 86) rfl (by have := zt_0; omega) ?_
                refine w_lo dX9_tugs_86 rfl rfl rfl rfl ?_
                refine w_lo (ml' := [some (.ref 386), some (.int v33_1), some (.int v33_2), some (.int v33_2), some (.int v33_4)]) dX9_tugs_87 rfl rfl rfl rfl ?_
                refine w_lo dX9_tugs_88 rfl rfl rfl rfl ?_
                refine w_ic dX9_tugs_89 zi_1 ?_
                refine w_sub dX9_tugs_90 (by have := zt_1; omega) ?_
                intro x30 h31
                have := zt_1
                refine w_lo (ml' := [some (.ref 386), some (.int v33_1), some (.int v33_2), some (.int v33_2), some (.int x30)]) dX9_tugs_91 rfl rfl rfl rfl ?_
                exact ih93 M v33_1 v33_2 v33_2 x30 hJ (zbot _) (ztop _) (by omega) (by omega) (by omega)
              · skip
                refine w_cne_f dX9_isTied_26 (t := 33) rfl (by have := zt_1; omega) ?_
                refine w_ic dX9_isTied_29 zi_1 ?_
                refine w_gt dX9_isTied_30 (t := 34) rfl ?_
                refine w_en dX9_isTied_34 rfl ?_
                show ZW _ _ _ _ _ _ _ (54, [some (.ref 386), some (.int v33_1), some (.int v33_2), some (.int v33_3), some (.int v33_4)], [.int 1], M)
                refine w_ieq_f dX9_tugs_54 (t := 86) rfl (by have := zt_1; omega) ?_
                refine w_lo dX9_tugs_57 rfl rfl rfl rfl ?_
                refine w_lo dX9_tugs_58 rfl rfl rfl rfl ?_
                refine w_lo dX9_tugs_59 rfl rfl rfl rfl ?_
                refine w_ic dX9_tugs_61 zi_1 ?_
                refine w_sub dX9_tugs_62 (by have := zt_1; omega) ?_
                intro x32 h33
                have := zt_1
                refine w_iv dX9_tugs_63 rfl rfl (As := [.int x32]) rfl rfl hJ.1.1 zs_386 (Nat.le_of_ble_eq_true rfl) ?_
                refine ZV.of (ini := false) rfl (Nat.le_of_ble_eq_true rfl) (by decide +kernel) ?_
                show ZW _ _ _ _ _ _ _ (0, [some (.ref 386), some (.int x32)], [], M)
                refine w_lo dX9_slackAt_0 rfl rfl rfl rfl ?_
                refine w_gf dX9_slackAt_1 rfl hJ.1.1 zs_386 (zr_386_61 hJ.1) ?_
                refine w_bi dX9_slackAt_4 (c := 11) (by decide) ?_
                refine w_lo dX9_slackAt_6 rfl rfl rfl rfl ?_
                refine w_gf dX9_slackAt_7 rfl hJ.1.1 zs_386 f19 ?_
                refine w_ieq_f dX9_slackAt_10 (t := 17) rfl (by omega) ?_
                refine w_ic dX9_slackAt_13 zi_0 ?_
                refine w_gt dX9_slackAt_14 (t := 21) rfl ?_
                refine w_pu (st' := [.int 0, .ref 430]) dX9_slackAt_21 rfl rfl ?_
                refine w_lo dX9_slackAt_22 rfl rfl rfl rfl ?_
                refine w_add dX9_slackAt_23 (by have := zt_0; omega) ?_
                intro x34 h35
                have := zt_0
                refine w_iai dX9_slackAt_24 hJ.1 zs_430 (by omega) (by omega) zu_430 ?_
                intro x39 f36 h37 h38
                refine w_eni dX9_slackAt_25 rfl rfl ?_
                show ZW _ _ _ _ _ _ _ (66, [some (.ref 386), some (.int v33_1), some (.int v33_2), some (.int v33_3), some (.int v33_4)], [.int x39, .int v33_3], M)
                refine w_puI dX9_tugs_66 rfl rfl ?_
                intro x40
                refine w_lo (ml' := [some (.ref 386), some (.int v33_1), some (.int v33_2), some (.int x40), some (.int v33_4)]) dX9_tugs_67 rfl rfl rfl rfl ?_
                refine w_lo dX9_tugs_68 rfl rfl rfl rfl ?_
                rcases zcut (0 : Int) x40.toInt with h41 | h41
                · skip
                  refine w_ile_f dX9_tugs_69 (t := 80) rfl (by omega) ?_
                  refine w_lo dX9_tugs_72 rfl rfl rfl rfl ?_
                  refine w_lo dX9_tugs_73 rfl rfl rfl rfl ?_
                  refine w_lo dX9_tugs_75 rfl rfl rfl rfl ?_
                  refine w_iv dX9_tugs_76 rfl rfl (As := [.int v33_4, .int x40]) rfl rfl hJ.1.1 zs_386 (Nat.le_of_ble_eq_true rfl) ?_
                  refine ZV.imp (k_2384 v33_4 (by omega) (by omega) x40 (by omega) (ztop _) hN hJ.1) ?_
                  rintro _ ⟨x45, M42, rfl, h46, h47, hJ43, hq44⟩
                  have hJ48 := zJ_trans hJ hJ43 (zSub_cons (fun _ _ h h' hk => zIR_a (by omega) (by omega)) (zSub_cons (fun _ _ h h' hk => zIR_s (zIR_a (by omega) (by omega))) (zSub_cons (fun _ _ h h' hk => zIR_s (zIR_s (zIR_e (by omega) (by omega) hk))) zSub_nil)))
                  show ZW _ _ _ _ _ _ _ (79, [some (.ref 386), some (.int v33_1), some (.int v33_2), some (.int x40), some (.int v33_4)], [.int x45], M42)
                  refine w_lo (ml' := [some (.ref 386), some (.int v33_1), some (.int v33_2), some (.int x45), some (.int v33_4)]) dX9_tugs_79 rfl rfl rfl rfl ?_
                  refine w_inc (kk := 4) dX9_tugs_80 rfl (m := 1) (by decide) (by omega) ?_
                  intro x49 h50
                  refine ⟨_, rfl, ?_⟩
                  show ZW _ _ _ _ _ _ _ (83, [some (.ref 386), some (.int v33_1), some (.int v33_2), some (.int x45), some (.int x49)], [], M42)
                  refine w_gt dX9_tugs_83 (t := 33) rfl ?_
                  exact ih33 M42 v33_1 v33_2 x45 x49 hJ48 (by omega) (by omega) (zbot _) (ztop _) (zbot _) (ztop _) (by omega) (by omega) (by omega)
                · skip
                  refine w_ile_t dX9_tugs_69 (t := 80) rfl (by omega) ?_
                  refine w_inc (kk := 4) dX9_tugs_80 rfl (m := 1) (by decide) (by omega) ?_
                  intro x51 h52
                  refine ⟨_, rfl, ?_⟩
                  show ZW _ _ _ _ _ _ _ (83, [some (.ref 386), some (.int v33_1), some (.int v33_2), some (.int x40), some (.int x51)], [], M)
                  refine w_gt dX9_tugs_83 (t := 33) rfl ?_
                  exact ih33 M v33_1 v33_2 x40 x51 hJ (by omega) (by omega) (zbot _) (ztop _) (zbot _) (ztop _) (by omega) (by omega) (by omega)
            · skip
              refine w_ieq_t dX9_isTied_10 (t := 17) rfl (by omega) ?_
              refine w_lo dX9_isTied_17 rfl rfl rfl rfl ?_
              refine w_gfi dX9_isTied_18 rfl hJ.1 zs_386 (Nat.le_of_ble_eq_true rfl) zo_386_72 ?_
              intro x53 f54 h55 h56
              refine w_mulc dX9_isTied_21 zt_11 (by have := zt_11; omega) ?_
              intro x57 h58
              have := zt_11
              refine w_lo dX9_isTied_22 rfl rfl rfl rfl ?_
              refine w_add dX9_isTied_23 (by omega) ?_
              intro x59 h60
              refine w_iai dX9_isTied_24 hJ.1 zs_429 (by omega) (by omega) zu_429 ?_
              intro x64 f61 h62 h63
              refine w_ic dX9_isTied_25 zi_1 ?_
              rcases Int.decEq x64.toInt (1 : Int) with h65 | h65
              · skip
                refine w_cne_t dX9_isTied_26 (t := 33) rfl (by have := zt_1; omega) ?_
                refine w_ic dX9_isTied_33 zi_0 ?_
                refine w_en dX9_isTied_34 rfl ?_
                show ZW _ _ _ _ _ _ _ (54, [some (.ref 386), some (.int v33_1), some (.int v33_2), some (.int v33_3), some (.int v33_4)], [.int 0], M)
                refine w_ieq_t dX9_tugs_54 (t := 86) rfl (by have := zt_0; omega) ?_
                refine w_lo dX9_tugs_86 rfl rfl rfl rfl ?_
                refine w_lo (ml' := [some (.ref 386), some (.int v33_1), some (.int v33_2), some (.int v33_2), some (.int v33_4)]) dX9_tugs_87 rfl rfl rfl rfl ?_
                refine w_lo dX9_tugs_88 rfl rfl rfl rfl ?_
                refine w_ic dX9_tugs_89 zi_1 ?_
                refine w_sub dX9_tugs_90 (by have := zt_1; omega) ?_
                intro x66 h67
                have := zt_1
                refine w_lo (ml' := [some (.ref 386), some (.int v33_1), some (.int v33_2), some (.int v33_2), some (.int x66)]) dX9_tugs_91 rfl rfl rfl rfl ?_
                exact ih93 M v33_1 v33_2 v33_2 x66 hJ (zbot _) (ztop _) (by omega) (by omega) (by omega)
              · skip
                refine w_cne_f dX9_isTied_26 (t := 33) rfl (by have := zt_1; omega) ?_
                refine w_ic dX9_isTied_29 zi_1 ?_
                refine w_gt dX9_isTied_30 (t := 34) rfl ?_
                refine w_en dX9_isTied_34 rfl ?_
                show ZW _ _ _ _ _ _ _ (54, [some (.ref 386), some (.int v33_1), some (.int v33_2), some (.int v33_3), some (.int v33_4)], [.int 1], M)
                refine w_ieq_f dX9_tugs_54 (t := 86) rfl (by have := zt_1; omega) ?_
                refine w_lo dX9_tugs_57 rfl rfl rfl rfl ?_
                refine w_lo dX9_tugs_58 rfl rfl rfl rfl ?_
                refine w_lo dX9_tugs_59 rfl rfl rfl rfl ?_
                refine w_ic dX9_tugs_61 zi_1 ?_
                refine w_sub dX9_tugs_62 (by have := zt_1; omega) ?_
                intro x68 h69
                have := zt_1
                refine w_iv dX9_tugs_63 rfl rfl (As := [.int x68]) rfl rfl hJ.1.1 zs_386 (Nat.le_of_ble_eq_true rfl) ?_
                refine ZV.of (ini := false) rfl (Nat.le_of_ble_eq_true rfl) (by decide +kernel) ?_
                show ZW _ _ _ _ _ _ _ (0, [some (.ref 386), some (.int x68)], [], M)
                refine w_lo dX9_slackAt_0 rfl rfl rfl rfl ?_
                refine w_gf dX9_slackAt_1 rfl hJ.1.1 zs_386 (zr_386_61 hJ.1) ?_
                refine w_bi dX9_slackAt_4 (c := 11) (by decide) ?_
                refine w_lo dX9_slackAt_6 rfl rfl rfl rfl ?_
                refine w_gf dX9_slackAt_7 rfl hJ.1.1 zs_386 f19 ?_
                refine w_ieq_t dX9_slackAt_10 (t := 17) rfl (by omega) ?_
                refine w_lo dX9_slackAt_17 rfl rfl rfl rfl ?_
                refine w_gf dX9_slackAt_18 rfl hJ.1.1 zs_386 f54 ?_
                refine w_mulc dX9_slackAt_21 zt_11 (by have := zt_11; omega) ?_
                intro x70 h71
                have := zt_11
                refine w_lo dX9_slackAt_22 rfl rfl rfl rfl ?_
                refine w_add dX9_slackAt_23 (by omega) ?_
                intro x72 h73
                refine w_iai dX9_slackAt_24 hJ.1 zs_430 (by omega) (by omega) zu_430 ?_
                intro x77 f74 h75 h76
                refine w_eni dX9_slackAt_25 rfl rfl ?_
                show ZW _ _ _ _ _ _ _ (66, [some (.ref 386), some (.int v33_1), some (.int v33_2), some (.int v33_3), some (.int v33_4)], [.int x77, .int v33_3], M)
                refine w_puI dX9_tugs_66 rfl rfl ?_
                intro x78
                refine w_lo (ml' := [some (.ref 386), some (.int v33_1), some (.int v33_2), some (.int x78), some (.int v33_4)]) dX9_tugs_67 rfl rfl rfl rfl ?_
                refine w_lo dX9_tugs_68 rfl rfl rfl rfl ?_
                rcases zcut (0 : Int) x78.toInt with h79 | h79
                · skip
                  refine w_ile_f dX9_tugs_69 (t := 80) rfl (by omega) ?_
                  refine w_lo dX9_tugs_72 rfl rfl rfl rfl ?_
                  refine w_lo dX9_tugs_73 rfl rfl rfl rfl ?_
                  refine w_lo dX9_tugs_75 rfl rfl rfl rfl ?_
                  refine w_iv dX9_tugs_76 rfl rfl (As := [.int v33_4, .int x78]) rfl rfl hJ.1.1 zs_386 (Nat.le_of_ble_eq_true rfl) ?_
                  refine ZV.imp (k_2384 v33_4 (by omega) (by omega) x78 (by omega) (ztop _) hN hJ.1) ?_
                  rintro _ ⟨x83, M80, rfl, h84, h85, hJ81, hq82⟩
                  have hJ86 := zJ_trans hJ hJ81 (zSub_cons (fun _ _ h h' hk => zIR_a (by omega) (by omega)) (zSub_cons (fun _ _ h h' hk => zIR_s (zIR_a (by omega) (by omega))) (zSub_cons (fun _ _ h h' hk => zIR_s (zIR_s (zIR_e (by omega) (by omega) hk))) zSub_nil)))
                  show ZW _ _ _ _ _ _ _ (79, [some (.ref 386), some (.int v33_1), some (.int v33_2), some (.int x78), some (.int v33_4)], [.int x83], M80)
                  refine w_lo (ml' := [some (.ref 386), some (.int v33_1), some (.int v33_2), some (.int x83), some (.int v33_4)]) dX9_tugs_79 rfl rfl rfl rfl ?_
                  refine w_inc (kk := 4) dX9_tugs_80 rfl (m := 1) (by decide) (by omega) ?_
                  intro x87 h88
                  refine ⟨_, rfl, ?_⟩
                  show ZW _ _ _ _ _ _ _ (83, [some (.ref 386), some (.int v33_1), some (.int v33_2), some (.int x83), some (.int x87)], [], M80)
                  refine w_gt dX9_tugs_83 (t := 33) rfl ?_
                  exact ih33 M80 v33_1 v33_2 x83 x87 hJ86 (by omega) (by omega) (zbot _) (ztop _) (zbot _) (ztop _) (by omega) (by omega) (by omega)
                · skip
                  refine w_ile_t dX9_tugs_69 (t := 80) rfl (by omega) ?_
                  refine w_inc (kk := 4) dX9_tugs_80 rfl (m := 1) (by decide) (by omega) ?_
                  intro x89 h90
                  refine ⟨_, rfl, ?_⟩
                  show ZW _ _ _ _ _ _ _ (83, [some (.ref 386), some (.int v33_1), some (.int v33_2), some (.int x78), some (.int x89)], [], M)
                  refine w_gt dX9_tugs_83 (t := 33) rfl ?_
                  exact ih33 M v33_1 v33_2 x78 x89 hJ (by omega) (by omega) (zbot _) (ztop _) (zbot _) (ztop _) (by omega) (by omega) (by omega)
          · skip
            refine w_ile_t dX9_tugs_43 (t := 86) rfl (by omega) ?_
            refine w_lo dX9_tugs_86 rfl rfl rfl rfl ?_
            refine w_lo (ml' := [some (.ref 386), some (.int v33_1), some (.int v33_2), some (.int v33_2), some (.int v33_4)]) dX9_tugs_87 rfl rfl rfl rfl ?_
            refine w_lo dX9_tugs_88 rfl rfl rfl rfl ?_
            refine w_ic dX9_tugs_89 zi_1 ?_
            refine w_sub dX9_tugs_90 (by have := zt_1; omega) ?_
            intro x91 h92
            have := zt_1
            refine w_lo (ml' := [some (.ref 386), some (.int v33_1), some (.int v33_2), some (.int v33_2), some (.int x91)]) dX9_tugs_91 rfl rfl rfl rfl ?_
            exact ih93 M v33_1 v33_2 v33_2 x91 hJ (zbot _) (ztop _) (by omega) (by omega) (by omega)
        · skip
          refine w_cge_t dX9_tugs_39 (t := 86) rfl (by omega) ?_
          refine w_lo dX9_tugs_86 rfl rfl rfl rfl ?_
          refine w_lo (ml' := [some (.ref 386), some (.int v33_1), some (.int v33_2), some (.int v33_2), some (.int v33_4)]) dX9_tugs_87 rfl rfl rfl rfl ?_
          refine w_lo dX9_tugs_88 rfl rfl rfl rfl ?_
          refine w_ic dX9_tugs_89 zi_1 ?_
          refine w_sub dX9_tugs_90 (by have := zt_1; omega) ?_
          intro x93 h94
          have := zt_1
          refine w_lo (ml' := [some (.ref 386), some (.int v33_1), some (.int v33_2), some (.int v33_2), some (.int x93)]) dX9_tugs_91 rfl rfl rfl rfl ?_
          exact ih93 M v33_1 v33_2 v33_2 x93 hJ (zbot _) (ztop _) (by omega) (by omega) (by omega)
      · intro M u93_1 u93_2 v93_3 v93_4 hJ v93_30 v93_31 v93_40 v93_41 hn
        refine w_lo dX9_tugs_93 rfl rfl rfl rfl ?_
        rcases zcut v93_4.toInt (0 : Int) with h95 | h95
        · skip
          refine w_ilt_t dX9_tugs_95 (t := 138) rfl (by omega) ?_
          refine w_en dX9_tugs_138 rfl ?_
          exact ⟨_, rfl, hJ, trivial⟩
        · skip
          refine w_ilt_f dX9_tugs_95 (t := 138) rfl (by omega) ?_
          refine w_lo dX9_tugs_98 rfl rfl rfl rfl ?_
          rcases zcut (0 : Int) v93_3.toInt with h96 | h96
          · skip
            refine w_ile_f dX9_tugs_99 (t := 138) rfl (by omega) ?_
            refine w_lo dX9_tugs_102 rfl rfl rfl rfl ?_
            refine w_lo dX9_tugs_103 rfl rfl rfl rfl ?_
            refine w_iv dX9_tugs_105 rfl rfl (As := [.int v93_4]) rfl rfl hJ.1.1 zs_386 (Nat.le_of_ble_eq_true rfl) ?_
            refine ZV.of (ini := false) rfl (Nat.le_of_ble_eq_true rfl) (by decide +kernel) ?_
            show ZW _ _ _ _ _ _ _ (0, [some (.ref 386), some (.int v93_4)], [], M)
            refine w_lo dX9_isTied_0 rfl rfl rfl rfl ?_
            refine w_gf dX9_isTied_1 rfl hJ.1.1 zs_386 (zr_386_60 hJ.1) ?_
            refine w_bi dX9_isTied_4 (c := 11) (by decide) ?_
            refine w_lo dX9_isTied_6 rfl rfl rfl rfl ?_
            refine w_gfi dX9_isTied_7 rfl hJ.1 zs_386 (Nat.le_of_ble_eq_true rfl) zo_386_71 ?_
            intro x97 f98 h99 h100
            rcases Int.decEq x97.toInt (0 : Int) with h101 | h101
            · skip
              refine w_ieq_f dX9_isTied_10 (t := 17) rfl (by omega) ?_
              refine w_ic dX9_isTied_13 zi_0 ?_
              refine w_gt dX9_isTied_14 (t := 21) rfl ?_
              refine w_pu (st' := [.int 0, .ref 429]) dX9_isTied_21 rfl rfl ?_
              refine w_lo dX9_isTied_22 rfl rfl rfl rfl ?_
              refine w_add dX9_isTied_23 (by have := zt_0; omega) ?_
              intro x102 h103
              have := zt_0
              refine w_iai dX9_isTied_24 hJ.1 zs_429 (by omega) (by omega) zu_429 ?_
              intro x107 f104 h105 h106
              refine w_ic dX9_isTied_25 zi_1 ?_
              rcases Int.decEq x107.toInt (1 : Int) with h108 | h108
              · skip
                refine w_cne_t dX9_isTied_26 (t := 33) rfl (by have := zt_1; omega) ?_
                refine w_ic dX9_isTied_33 zi_0 ?_
                refine w_en dX9_isTied_34 rfl ?_
                show ZW _ _ _ _ _ _ _ (108, [some (.ref 386), some (.int u93_1), some (.int u93_2), some (.int v93_3), some (.int v93_4)], [.int 0], M)
                refine w_ieq_t dX9_tugs_108 (t := 138) rfl (by have := zt_0; omega) ?_
                refine w_en dX9_tugs_138 rfl ?_
                exact ⟨_, rfl, hJ, trivial⟩
              · skip
                refine w_cne_f dX9_isTied_26 (t := 33) rfl (by have := zt_1; omega) ?_
                refine w_ic dX9_isTied_29 zi_1 ?_
                refine w_gt dX9_isTied_30 (t := 34) rfl ?_
                refine w_en dX9_isTied_34 rfl ?_
                show ZW _ _ _ _ _ _ _ (108, [some (.ref 386), some (.int u93_1), some (.int u93_2), some (.int v93_3), some (.int v93_4)], [.int 1], M)
                refine w_ieq_f dX9_tugs_108 (t := 138) rfl (by have := zt_1; omega) ?_
                refine w_lo dX9_tugs_111 rfl rfl rfl rfl ?_
                refine w_lo dX9_tugs_112 rfl rfl rfl rfl ?_
                refine w_lo dX9_tugs_113 rfl rfl rfl rfl ?_
                refine w_iv dX9_tugs_115 rfl rfl (As := [.int v93_4]) rfl rfl hJ.1.1 zs_386 (Nat.le_of_ble_eq_true rfl) ?_
                refine ZV.of (ini := false) rfl (Nat.le_of_ble_eq_true rfl) (by decide +kernel) ?_
                show ZW _ _ _ _ _ _ _ (0, [some (.ref 386), some (.int v93_4)], [], M)
                refine w_lo dX9_slackAt_0 rfl rfl rfl rfl ?_
                refine w_gf dX9_slackAt_1 rfl hJ.1.1 zs_386 (zr_386_61 hJ.1) ?_
                refine w_bi dX9_slackAt_4 (c := 11) (by decide) ?_
                refine w_lo dX9_slackAt_6 rfl rfl rfl rfl ?_
                refine w_gf dX9_slackAt_7 rfl hJ.1.1 zs_386 f98 ?_
                refine w_ieq_f dX9_slackAt_10 (t := 17) rfl (by omega) ?_
                refine w_ic dX9_slackAt_13 zi_0 ?_
                refine w_gt dX9_slackAt_14 (t := 21) rfl ?_
                refine w_pu (st' := [.int 0, .ref 430]) dX9_slackAt_21 rfl rfl ?_
                refine w_lo dX9_slackAt_22 rfl rfl rfl rfl ?_
                refine w_add dX9_slackAt_23 (by have := zt_0; omega) ?_
                intro x109 h110
                have := zt_0
                refine w_iai dX9_slackAt_24 hJ.1 zs_430 (by omega) (by omega) zu_430 ?_
                intro x114 f111 h112 h113
                refine w_eni dX9_slackAt_25 rfl rfl ?_
                show ZW _ _ _ _ _ _ _ (118, [some (.ref 386), some (.int u93_1), some (.int u93_2), some (.int v93_3), some (.int v93_4)], [.int x114, .int v93_3], M)
                refine w_puI dX9_tugs_118 rfl rfl ?_
                intro x115
                refine w_lo (ml' := [some (.ref 386), some (.int u93_1), some (.int u93_2), some (.int x115), some (.int v93_4)]) dX9_tugs_119 rfl rfl rfl rfl ?_
                refine w_lo dX9_tugs_120 rfl rfl rfl rfl ?_
                rcases zcut (0 : Int) x115.toInt with h116 | h116
                · skip
                  refine w_ile_f dX9_tugs_121 (t := 132) rfl (by omega) ?_
                  refine w_lo dX9_tugs_124 rfl rfl rfl rfl ?_
                  refine w_lo dX9_tugs_125 rfl rfl rfl rfl ?_
                  refine w_lo dX9_tugs_127 rfl rfl rfl rfl ?_
                  refine w_iv dX9_tugs_128 rfl rfl (As := [.int v93_4, .int x115]) rfl rfl hJ.1.1 zs_386 (Nat.le_of_ble_eq_true rfl) ?_
                  refine ZV.imp (k_2384 v93_4 (by omega) (by omega) x115 (by omega) (ztop _) hN hJ.1) ?_
                  rintro _ ⟨x120, M117, rfl, h121, h122, hJ118, hq119⟩
                  have hJ123 := zJ_trans hJ hJ118 (zSub_cons (fun _ _ h h' hk => zIR_a (by omega) (by omega)) (zSub_cons (fun _ _ h h' hk => zIR_s (zIR_a (by omega) (by omega))) (zSub_cons (fun _ _ h h' hk => zIR_s (zIR_s (zIR_e (by omega) (by omega) hk))) zSub_nil)))
                  show ZW _ _ _ _ _ _ _ (131, [some (.ref 386), some (.int u93_1), some (.int u93_2), some (.int x115), some (.int v93_4)], [.int x120], M117)
                  refine w_lo (ml' := [some (.ref 386), some (.int u93_1), some (.int u93_2), some (.int x120), some (.int v93_4)]) dX9_tugs_131 rfl rfl rfl rfl ?_
                  refine w_inc (kk := 4) dX9_tugs_132 rfl (m := -1) (by decide) (by omega) ?_
                  intro x124 h125
                  refine ⟨_, rfl, ?_⟩
                  show ZW _ _ _ _ _ _ _ (135, [some (.ref 386), some (.int u93_1), some (.int u93_2), some (.int x120), some (.int x124)], [], M117)
                  refine w_gt dX9_tugs_135 (t := 93) rfl ?_
                  exact ih93 M117 u93_1 u93_2 x120 x124 hJ123 (zbot _) (ztop _) (by omega) (by omega) (by omega)
                · skip
                  refine w_ile_t dX9_tugs_121 (t := 132) rfl (by omega) ?_
                  refine w_inc (kk := 4) dX9_tugs_132 rfl (m := -1) (by decide) (by omega) ?_
                  intro x126 h127
                  refine ⟨_, rfl, ?_⟩
                  show ZW _ _ _ _ _ _ _ (135, [some (.ref 386), some (.int u93_1), some (.int u93_2), some (.int x115), some (.int x126)], [], M)
                  refine w_gt dX9_tugs_135 (t := 93) rfl ?_
                  exact ih93 M u93_1 u93_2 x115 x126 hJ (zbot _) (ztop _) (by omega) (by omega) (by omega)
            · skip
              refine w_ieq_t dX9_isTied_10 (t := 17) rfl (by omega) ?_
              refine w_lo dX9_isTied_17 rfl rfl rfl rfl ?_
              refine w_gfi dX9_isTied_18 rfl hJ.1 zs_386 (Nat.le_of_ble_eq_true rfl) zo_386_72 ?_
              intro x128 f129 h130 h131
              refine w_mulc dX9_isTied_21 zt_11 (by have := zt_11; omega) ?_
              intro x132 h133
              have := zt_11
              refine w_lo dX9_isTied_22 rfl rfl rfl rfl ?_
              refine w_add dX9_isTied_23 (by omega) ?_
              intro x134 h135
              refine w_iai dX9_isTied_24 hJ.1 zs_429 (by omega) (by omega) zu_429 ?_
              intro x139 f136 h137 h138
              refine w_ic dX9_isTied_25 zi_1 ?_
              rcases Int.decEq x139.toInt (1 : Int) with h140 | h140
              · skip
                refine w_cne_t dX9_isTied_26 (t := 33) rfl (by have := zt_1; omega) ?_
                refine w_ic dX9_isTied_33 zi_0 ?_
                refine w_en dX9_isTied_34 rfl ?_
                show ZW _ _ _ _ _ _ _ (108, [some (.ref 386), some (.int u93_1), some (.int u93_2), some (.int v93_3), some (.int v93_4)], [.int 0], M)
                refine w_ieq_t dX9_tugs_108 (t := 138) rfl (by have := zt_0; omega) ?_
                refine w_en dX9_tugs_138 rfl ?_
                exact ⟨_, rfl, hJ, trivial⟩
              · skip
                refine w_cne_f dX9_isTied_26 (t := 33) rfl (by have := zt_1; omega) ?_
                refine w_ic dX9_isTied_29 zi_1 ?_
                refine w_gt dX9_isTied_30 (t := 34) rfl ?_
                refine w_en dX9_isTied_34 rfl ?_
                show ZW _ _ _ _ _ _ _ (108, [some (.ref 386), some (.int u93_1), some (.int u93_2), some (.int v93_3), some (.int v93_4)], [.int 1], M)
                refine w_ieq_f dX9_tugs_108 (t := 138) rfl (by have := zt_1; omega) ?_
                refine w_lo dX9_tugs_111 rfl rfl rfl rfl ?_
                refine w_lo dX9_tugs_112 rfl rfl rfl rfl ?_
                refine w_lo dX9_tugs_113 rfl rfl rfl rfl ?_
                refine w_iv dX9_tugs_115 rfl rfl (As := [.int v93_4]) rfl rfl hJ.1.1 zs_386 (Nat.le_of_ble_eq_true rfl) ?_
                refine ZV.of (ini := false) rfl (Nat.le_of_ble_eq_true rfl) (by decide +kernel) ?_
                show ZW _ _ _ _ _ _ _ (0, [some (.ref 386), some (.int v93_4)], [], M)
                refine w_lo dX9_slackAt_0 rfl rfl rfl rfl ?_
                refine w_gf dX9_slackAt_1 rfl hJ.1.1 zs_386 (zr_386_61 hJ.1) ?_
                refine w_bi dX9_slackAt_4 (c := 11) (by decide) ?_
                refine w_lo dX9_slackAt_6 rfl rfl rfl rfl ?_
                refine w_gf dX9_slackAt_7 rfl hJ.1.1 zs_386 f98 ?_
                refine w_ieq_t dX9_slackAt_10 (t := 17) rfl (by omega) ?_
                refine w_lo dX9_slackAt_17 rfl rfl rfl rfl ?_
                refine w_gf dX9_slackAt_18 rfl hJ.1.1 zs_386 f129 ?_
                refine w_mulc dX9_slackAt_21 zt_11 (by have := zt_11; omega) ?_
                intro x141 h142
                have := zt_11
                refine w_lo dX9_slackAt_22 rfl rfl rfl rfl ?_
                refine w_add dX9_slackAt_23 (by omega) ?_
                intro x143 h144
                refine w_iai dX9_slackAt_24 hJ.1 zs_430 (by omega) (by omega) zu_430 ?_
                intro x148 f145 h146 h147
                refine w_eni dX9_slackAt_25 rfl rfl ?_
                show ZW _ _ _ _ _ _ _ (118, [some (.ref 386), some (.int u93_1), some (.int u93_2), some (.int v93_3), some (.int v93_4)], [.int x148, .int v93_3], M)
                refine w_puI dX9_tugs_118 rfl rfl ?_
                intro x149
                refine w_lo (ml' := [some (.ref 386), some (.int u93_1), some (.int u93_2), some (.int x149), some (.int v93_4)]) dX9_tugs_119 rfl rfl rfl rfl ?_
                refine w_lo dX9_tugs_120 rfl rfl rfl rfl ?_
                rcases zcut (0 : Int) x149.toInt with h150 | h150
                · skip
                  refine w_ile_f dX9_tugs_121 (t := 132) rfl (by omega) ?_
                  refine w_lo dX9_tugs_124 rfl rfl rfl rfl ?_
                  refine w_lo dX9_tugs_125 rfl rfl rfl rfl ?_
                  refine w_lo dX9_tugs_127 rfl rfl rfl rfl ?_
                  refine w_iv dX9_tugs_128 rfl rfl (As := [.int v93_4, .int x149]) rfl rfl hJ.1.1 zs_386 (Nat.le_of_ble_eq_true rfl) ?_
                  refine ZV.imp (k_2384 v93_4 (by omega) (by omega) x149 (by omega) (ztop _) hN hJ.1) ?_
                  rintro _ ⟨x154, M151, rfl, h155, h156, hJ152, hq153⟩
                  have hJ157 := zJ_trans hJ hJ152 (zSub_cons (fun _ _ h h' hk => zIR_a (by omega) (by omega)) (zSub_cons (fun _ _ h h' hk => zIR_s (zIR_a (by omega) (by omega))) (zSub_cons (fun _ _ h h' hk => zIR_s (zIR_s (zIR_e (by omega) (by omega) hk))) zSub_nil)))
                  show ZW _ _ _ _ _ _ _ (131, [some (.ref 386), some (.int u93_1), some (.int u93_2), some (.int x149), some (.int v93_4)], [.int x154], M151)
                  refine w_lo (ml' := [some (.ref 386), some (.int u93_1), some (.int u93_2), some (.int x154), some (.int v93_4)]) dX9_tugs_131 rfl rfl rfl rfl ?_
                  refine w_inc (kk := 4) dX9_tugs_132 rfl (m := -1) (by decide) (by omega) ?_
                  intro x158 h159
                  refine ⟨_, rfl, ?_⟩
                  show ZW _ _ _ _ _ _ _ (135, [some (.ref 386), some (.int u93_1), some (.int u93_2), some (.int x154), some (.int x158)], [], M151)
                  refine w_gt dX9_tugs_135 (t := 93) rfl ?_
                  exact ih93 M151 u93_1 u93_2 x154 x158 hJ157 (zbot _) (ztop _) (by omega) (by omega) (by omega)
                · skip
                  refine w_ile_t dX9_tugs_121 (t := 132) rfl (by omega) ?_
                  refine w_inc (kk := 4) dX9_tugs_132 rfl (m := -1) (by decide) (by omega) ?_
                  intro x160 h161
                  refine ⟨_, rfl, ?_⟩
                  show ZW _ _ _ _ _ _ _ (135, [some (.ref 386), some (.int u93_1), some (.int u93_2), some (.int x149), some (.int x160)], [], M)
                  refine w_gt dX9_tugs_135 (t := 93) rfl ?_
                  exact ih93 M u93_1 u93_2 x149 x160 hJ (zbot _) (ztop _) (by omega) (by omega) (by omega)
          · skip
            refine w_ile_t dX9_tugs_99 (t := 138) rfl (by omega) ?_
            refine w_en dX9_tugs_138 rfl ?_
            exact ⟨_, rfl, hJ, trivial⟩
  obtain ⟨ih7, ih33, ih93⟩ := main 208
  show ZW _ _ _ _ _ _ _ (0, [some (.ref 386), some (.int a0), some (.int a1), none, none], [], M0)
  refine w_lo dX9_tugs_0 rfl rfl rfl rfl ?_
  refine w_ic dX9_tugs_1 zi_0 ?_
  refine w_pfi dX9_tugs_2 rfl hJ0 zs_386 (Nat.le_of_ble_eq_true rfl) zo_386_74 (by have := zt_0; omega) (by have := zt_0; omega) (zIR_s (zIR_s (zIR_k (by omega) (by omega)))) rfl rfl rfl ?_
  intro M162 hJ163 f164 hn165
  refine w_ic dX9_tugs_5 zi_0 ?_
  refine w_lo (ml' := [some (.ref 386), some (.int a0), some (.int a1), some (.int 0), none]) dX9_tugs_6 rfl rfl rfl rfl ?_
  exact ih7 M162 a0 a1 0 none hJ163 (by omega) (by omega) (zbot _) (ztop _) (by have := zt_0; omega) (by have := zt_0; omega) (by have := zt_0; omega)
set_option maxRecDepth 100000 in
theorem k_2397 {X : List Int32} {d N : Nat} {M0 : zM} (a0 : Int32) (a1 : Int32) (a2 : Int32) (hN : N ≤ 600) (hB0 : zB N M0) : ZV X (d + 8) 2397 [.ref 386, .int a0, .int a1, .int a2] M0 (zRI N [(416, 418, 1000), (434, 436, 1000), (386, 387, 70), (386, 387, 71), (386, 387, 72), (386, 387, 74)] M0 (-1) (2147483647) (fun _ _ => True)) := by
  have hJ0 : zJ N [(416, 418, 1000), (434, 436, 1000), (386, 387, 70), (386, 387, 71), (386, 387, 72), (386, 387, 74)] M0 M0 := zJ_refl hB0
  refine ZV.of (ini := false) rfl (Nat.le_of_ble_eq_true rfl) (by decide +kernel) ?_
  show ZW _ _ _ _ _ _ _ (0, [some (.ref 386), some (.int a0), some (.int a1), some (.int a2)], [], M0)
  refine w_lo dX9_feels_0 rfl rfl rfl rfl ?_
  refine w_lo dX9_feels_1 rfl rfl rfl rfl ?_
  refine w_iv dX9_feels_2 rfl rfl (As := [.int a0]) rfl rfl hJ0.1.1 zs_386 (Nat.le_of_ble_eq_true rfl) ?_
  refine ZV.of (ini := false) rfl (Nat.le_of_ble_eq_true rfl) (by decide +kernel) ?_
  show ZW _ _ _ _ _ _ _ (0, [some (.ref 386), some (.int a0)], [], M0)
  refine w_lo dX9_isBoy_0 rfl rfl rfl rfl ?_
  rcases zcut a0.toInt (0 : Int) with h1 | h1
  · skip
    refine w_ilt_t dX9_isBoy_1 (t := 21) rfl (by omega) ?_
    refine w_ic dX9_isBoy_21 zi_0 ?_
    refine w_en dX9_isBoy_22 rfl ?_
    show ZW _ _ _ _ _ _ _ (5, [some (.ref 386), some (.int a0), some (.int a1), some (.int a2)], [.int 0], M0)
    refine w_ieq_t dX9_feels_5 (t := 32) rfl (by have := zt_0; omega) ?_
    refine w_ic dX9_feels_32 zi_m1 ?_
    refine w_en dX9_feels_33 rfl ?_
    exact ⟨_, _, rfl, (by have := zt_m1; omega), (ztop _), hJ0, trivial⟩
  · skip
    refine w_ilt_f dX9_isBoy_1 (t := 21) rfl (by omega) ?_
    refine w_lo dX9_isBoy_4 rfl rfl rfl rfl ?_
    refine w_lo dX9_isBoy_5 rfl rfl rfl rfl ?_
    refine w_gf dX9_isBoy_6 rfl hJ0.1.1 zs_386 (zr_386_13 hJ0.1) ?_
    refine w_lo dX9_isBoy_9 rfl rfl rfl rfl ?_
    refine w_gfi dX9_isBoy_10 rfl hJ0.1 zs_386 (Nat.le_of_ble_eq_true rfl) zo_386_12 ?_
    intro x2 f3 h4 h5
    refine w_iai dX9_isBoy_13 hJ0.1 zs_388 (by omega) (by omega) zu_388 ?_
    intro x9 f6 h7 h8
    rcases zcut a0.toInt x9.toInt with h10 | h10
    · skip
      refine w_cge_f dX9_isBoy_14 (t := 21) rfl (by omega) ?_
      refine w_ic dX9_isBoy_17 zi_1 ?_
      refine w_gt dX9_isBoy_18 (t := 22) rfl ?_
      refine w_en dX9_isBoy_22 rfl ?_
      show ZW _ _ _ _ _ _ _ (5, [some (.ref 386), some (.int a0), some (.int a1), some (.int a2)], [.int 1], M0)
      refine w_ieq_f dX9_feels_5 (t := 32) rfl (by have := zt_1; omega) ?_
      refine w_lo dX9_feels_8 rfl rfl rfl rfl ?_
      refine w_lo dX9_feels_9 rfl rfl rfl rfl ?_
      refine w_iv dX9_feels_10 rfl rfl (As := [.int a2]) rfl rfl hJ0.1.1 zs_386 (Nat.le_of_ble_eq_true rfl) ?_
      refine ZV.of (ini := false) rfl (Nat.le_of_ble_eq_true rfl) (by decide +kernel) ?_
      show ZW _ _ _ _ _ _ _ (0, [some (.ref 386), some (.int a2)], [], M0)
      refine w_lo dX9_isBoy_0 rfl rfl rfl rfl ?_
      rcases zcut a2.toInt (0 : Int) with h11 | h11
      · skip
        refine w_ilt_t dX9_isBoy_1 (t := 21) rfl (by omega) ?_
        refine w_ic dX9_isBoy_21 zi_0 ?_
        refine w_en dX9_isBoy_22 rfl ?_
        show ZW _ _ _ _ _ _ _ (13, [some (.ref 386), some (.int a0), some (.int a1), some (.int a2)], [.int 0], M0)
        refine w_ieq_t dX9_feels_13 (t := 32) rfl (by have := zt_0; omega) ?_
        refine w_ic dX9_feels_32 zi_m1 ?_
        refine w_en dX9_feels_33 rfl ?_
        exact ⟨_, _, rfl, (by have := zt_m1; omega), (ztop _), hJ0, trivial⟩
      · skip
        refine w_ilt_f dX9_isBoy_1 (t := 21) rfl (by omega) ?_
        refine w_lo dX9_isBoy_4 rfl rfl rfl rfl ?_
        refine w_lo dX9_isBoy_5 rfl rfl rfl rfl ?_
        refine w_gf dX9_isBoy_6 rfl hJ0.1.1 zs_386 (zr_386_13 hJ0.1) ?_
        refine w_lo dX9_isBoy_9 rfl rfl rfl rfl ?_
        refine w_gf dX9_isBoy_10 rfl hJ0.1.1 zs_386 f3 ?_
        refine w_ia dX9_isBoy_13 hJ0.1.1 zs_388 (znat (by omega)) f6 ?_
        rcases zcut a2.toInt x9.toInt with h15 | h15
        · skip
          refine w_cge_f dX9_isBoy_14 (t := 21) rfl (by omega) ?_
          refine w_ic dX9_isBoy_17 zi_1 ?_
          refine w_gt dX9_isBoy_18 (t := 22) rfl ?_
          refine w_en dX9_isBoy_22 rfl ?_
          show ZW _ _ _ _ _ _ _ (13, [some (.ref 386), some (.int a0), some (.int a1), some (.int a2)], [.int 1], M0)
          refine w_ieq_f dX9_feels_13 (t := 32) rfl (by have := zt_1; omega) ?_
          refine w_lo dX9_feels_16 rfl rfl rfl rfl ?_
          refine w_lo dX9_feels_17 rfl rfl rfl rfl ?_
          rcases Int.decEq a0.toInt a2.toInt with h16 | h16
          · skip
            refine w_ceq_f dX9_feels_18 (t := 32) rfl (by omega) ?_
            refine w_lo dX9_feels_21 rfl rfl rfl rfl ?_
            refine w_ic dX9_feels_22 zi_1 ?_
            refine w_si dX9_feels_23 (c := 9999) (by decide) ?_
            refine w_ss dX9_feels_26 rfl rfl (As := [.int a1, .int 1, .int 9999]) rfl rfl (Nat.le_of_ble_eq_true rfl) ?_
            refine ZV.of (ini := false) rfl (Nat.le_of_ble_eq_true rfl) (by decide +kernel) ?_
            show ZW _ _ _ _ _ _ _ (0, [some (.int a1), some (.int 1), some (.int 9999)], [], M0)
            refine w_lo dX9_is_0 rfl rfl rfl rfl ?_
            refine w_lo dX9_is_1 rfl rfl rfl rfl ?_
            rcases zcut a1.toInt (1 : Int) with h17 | h17
            · skip
              refine w_clt_t dX9_is_2 (t := 14) rfl (by have := zt_1; omega) ?_
              refine w_ic dX9_is_14 zi_0 ?_
              refine w_en dX9_is_15 rfl ?_
              show ZW _ _ _ _ _ _ _ (29, [some (.ref 386), some (.int a0), some (.int a1), some (.int a2)], [.int 0], M0)
              refine w_ine_f dX9_feels_29 (t := 34) rfl (by have := zt_0; omega) ?_
              refine w_ic dX9_feels_32 zi_m1 ?_
              refine w_en dX9_feels_33 rfl ?_
              exact ⟨_, _, rfl, (by have := zt_m1; omega), (ztop _), hJ0, trivial⟩
            · skip
              refine w_clt_f dX9_is_2 (t := 14) rfl (by have := zt_1; omega) ?_
              refine w_lo dX9_is_5 rfl rfl rfl rfl ?_
              refine w_lo dX9_is_6 rfl rfl rfl rfl ?_
              rcases zcut (9999 : Int) a1.toInt with h18 | h18
              · skip
                refine w_cgt_t dX9_is_7 (t := 14) rfl (by have := zt_9999; omega) ?_
                refine w_ic dX9_is_14 zi_0 ?_
                refine w_en dX9_is_15 rfl ?_
                show ZW _ _ _ _ _ _ _ (29, [some (.ref 386), some (.int a0), some (.int a1), some (.int a2)], [.int 0], M0)
                refine w_ine_f dX9_feels_29 (t := 34) rfl (by have := zt_0; omega) ?_
                refine w_ic dX9_feels_32 zi_m1 ?_
                refine w_en dX9_feels_33 rfl ?_
                exact ⟨_, _, rfl, (by have := zt_m1; omega), (ztop _), hJ0, trivial⟩
              · skip
                refine w_cgt_f dX9_is_7 (t := 14) rfl (by have := zt_9999; omega) ?_
                refine w_ic dX9_is_10 zi_1 ?_
                refine w_gt dX9_is_11 (t := 15) rfl ?_
                refine w_en dX9_is_15 rfl ?_
                show ZW _ _ _ _ _ _ _ (29, [some (.ref 386), some (.int a0), some (.int a1), some (.int a2)], [.int 1], M0)
                refine w_ine_t dX9_feels_29 (t := 34) rfl (by have := zt_1; omega) ?_
                refine w_lo dX9_feels_34 rfl rfl rfl rfl ?_
                refine w_ic dX9_feels_35 zi_0 ?_
                refine w_iv dX9_feels_36 rfl rfl (As := [.int 0]) rfl rfl hJ0.1.1 zs_386 (Nat.le_of_ble_eq_true rfl) ?_
                refine ZV.imp (k_2363 0 (by have := zt_0; omega) (by have := zt_0; omega) hN hJ0.1) ?_
                rintro _ ⟨M19, rfl, hJ20, hq21⟩
                have hJ22 := zJ_trans hJ0 hJ20 (zSub_cons (fun _ _ h h' hk => zIR_s (zIR_a (by omega) (by omega))) (zSub_cons (fun _ _ h h' hk => zIR_s (zIR_s (zIR_e (by omega) (by omega) hk))) (zSub_cons (fun _ _ h h' hk => zIR_s (zIR_s (zIR_s (zIR_e (by omega) (by omega) hk)))) (zSub_cons (fun _ _ h h' hk => zIR_s (zIR_s (zIR_s (zIR_s (zIR_e (by omega) (by omega) hk))))) zSub_nil))))
                show ZW _ _ _ _ _ _ _ (39, [some (.ref 386), some (.int a0), some (.int a1), some (.int a2)], [], M19)
                refine w_lo dX9_feels_39 rfl rfl rfl rfl ?_
                refine w_lo dX9_feels_40 rfl rfl rfl rfl ?_
                refine w_lo dX9_feels_41 rfl rfl rfl rfl ?_
                refine w_iv dX9_feels_42 rfl rfl (As := [.int a0, .int a1]) rfl rfl hJ22.1.1 zs_386 (Nat.le_of_ble_eq_true rfl) ?_
                refine ZV.imp (k_2382 a0 (by omega) (by omega) a1 hN hJ22.1) ?_
                rintro _ ⟨M23, rfl, hJ24, hq25⟩
                have hJ26 := zJ_trans hJ22 hJ24 (zSub_cons (fun _ _ h h' hk => zIR_a (by omega) (by omega)) (zSub_cons (fun _ _ h h' hk => zIR_s (zIR_a (by omega) (by omega))) (zSub_cons (fun _ _ h h' hk => zIR_s (zIR_s (zIR_s (zIR_s (zIR_s (zIR_e (by omega) (by omega) hk)))))) zSub_nil)))
                show ZW _ _ _ _ _ _ _ (45, [some (.ref 386), some (.int a0), some (.int a1), some (.int a2)], [], M23)
                refine w_lo dX9_feels_45 rfl rfl rfl rfl ?_
                refine w_gf dX9_feels_46 rfl hJ26.1.1 zs_386 (zr_386_73 hJ26.1) ?_
                refine w_lo dX9_feels_49 rfl rfl rfl rfl ?_
                refine w_iai dX9_feels_50 hJ26.1 zs_435 (by omega) (by omega) zu_435 ?_
                intro x30 f27 h28 h29
                refine w_eni dX9_feels_51 rfl rfl ?_
                exact ⟨_, _, rfl, (by omega), (ztop _), hJ26, trivial⟩
          · skip
            refine w_ceq_t dX9_feels_18 (t := 32) rfl (by omega) ?_
            refine w_ic dX9_feels_32 zi_m1 ?_
            refine w_en dX9_feels_33 rfl ?_
            exact ⟨_, _, rfl, (by have := zt_m1; omega), (ztop _), hJ0, trivial⟩
        · skip
          refine w_cge_t dX9_isBoy_14 (t := 21) rfl (by omega) ?_
          refine w_ic dX9_isBoy_21 zi_0 ?_
          refine w_en dX9_isBoy_22 rfl ?_
          show ZW _ _ _ _ _ _ _ (13, [some (.ref 386), some (.int a0), some (.int a1), some (.int a2)], [.int 0], M0)
          refine w_ieq_t dX9_feels_13 (t := 32) rfl (by have := zt_0; omega) ?_
          refine w_ic dX9_feels_32 zi_m1 ?_
          refine w_en dX9_feels_33 rfl ?_
          exact ⟨_, _, rfl, (by have := zt_m1; omega), (ztop _), hJ0, trivial⟩
    · skip
      refine w_cge_t dX9_isBoy_14 (t := 21) rfl (by omega) ?_
      refine w_ic dX9_isBoy_21 zi_0 ?_
      refine w_en dX9_isBoy_22 rfl ?_
      show ZW _ _ _ _ _ _ _ (5, [some (.ref 386), some (.int a0), some (.int a1), some (.int a2)], [.int 0], M0)
      refine w_ieq_t dX9_feels_5 (t := 32) rfl (by have := zt_0; omega) ?_
      refine w_ic dX9_feels_32 zi_m1 ?_
      refine w_en dX9_feels_33 rfl ?_
      exact ⟨_, _, rfl, (by have := zt_m1; omega), (ztop _), hJ0, trivial⟩
set_option maxRecDepth 100000 in
theorem k_2398 {X : List Int32} {d N : Nat} {M0 : zM} (a0 : Int32) (a1 : Int32) (hN : N ≤ 600) (hB0 : zB N M0) : ZV X (d + 8) 2398 [.ref 386, .int a0, .int a1] M0 (zRI N [(416, 418, 1000), (434, 436, 1000), (386, 387, 70), (386, 387, 71), (386, 387, 72), (386, 387, 74)] M0 (-1) (4095) (fun _ _ => True)) := by
  have hJ0 : zJ N [(416, 418, 1000), (434, 436, 1000), (386, 387, 70), (386, 387, 71), (386, 387, 72), (386, 387, 74)] M0 M0 := zJ_refl hB0
  refine ZV.of (ini := false) rfl (Nat.le_of_ble_eq_true rfl) (by decide +kernel) ?_
  show ZW _ _ _ _ _ _ _ (0, [some (.ref 386), some (.int a0), some (.int a1)], [], M0)
  refine w_lo dX9_wakes_0 rfl rfl rfl rfl ?_
  refine w_lo dX9_wakes_1 rfl rfl rfl rfl ?_
  refine w_iv dX9_wakes_2 rfl rfl (As := [.int a0]) rfl rfl hJ0.1.1 zs_386 (Nat.le_of_ble_eq_true rfl) ?_
  refine ZV.of (ini := false) rfl (Nat.le_of_ble_eq_true rfl) (by decide +kernel) ?_
  show ZW _ _ _ _ _ _ _ (0, [some (.ref 386), some (.int a0)], [], M0)
  refine w_lo dX9_isBoy_0 rfl rfl rfl rfl ?_
  rcases zcut a0.toInt (0 : Int) with h1 | h1
  · skip
    refine w_ilt_t dX9_isBoy_1 (t := 21) rfl (by omega) ?_
    refine w_ic dX9_isBoy_21 zi_0 ?_
    refine w_en dX9_isBoy_22 rfl ?_
    show ZW _ _ _ _ _ _ _ (5, [some (.ref 386), some (.int a0), some (.int a1)], [.int 0], M0)
    refine w_ieq_t dX9_wakes_5 (t := 19) rfl (by have := zt_0; omega) ?_
    refine w_ic dX9_wakes_19 zi_m1 ?_
    refine w_en dX9_wakes_20 rfl ?_
    exact ⟨_, _, rfl, (by have := zt_m1; omega), (by have := zt_m1; omega), hJ0, trivial⟩
  · skip
    refine w_ilt_f dX9_isBoy_1 (t := 21) rfl (by omega) ?_
    refine w_lo dX9_isBoy_4 rfl rfl rfl rfl ?_
    refine w_lo dX9_isBoy_5 rfl rfl rfl rfl ?_
    refine w_gf dX9_isBoy_6 rfl hJ0.1.1 zs_386 (zr_386_13 hJ0.1) ?_
    refine w_lo dX9_isBoy_9 rfl rfl rfl rfl ?_
    refine w_gfi dX9_isBoy_10 rfl hJ0.1 zs_386 (Nat.le_of_ble_eq_true rfl) zo_386_12 ?_
    intro x2 f3 h4 h5
    refine w_iai dX9_isBoy_13 hJ0.1 zs_388 (by omega) (by omega) zu_388 ?_
    intro x9 f6 h7 h8
    rcases zcut a0.toInt x9.toInt with h10 | h10
    · skip
      refine w_cge_f dX9_isBoy_14 (t := 21) rfl (by omega) ?_
      refine w_ic dX9_isBoy_17 zi_1 ?_
      refine w_gt dX9_isBoy_18 (t := 22) rfl ?_
      refine w_en dX9_isBoy_22 rfl ?_
      show ZW _ _ _ _ _ _ _ (5, [some (.ref 386), some (.int a0), some (.int a1)], [.int 1], M0)
      refine w_ieq_f dX9_wakes_5 (t := 19) rfl (by have := zt_1; omega) ?_
      refine w_lo dX9_wakes_8 rfl rfl rfl rfl ?_
      refine w_ic dX9_wakes_9 zi_1 ?_
      refine w_si dX9_wakes_10 (c := 9999) (by decide) ?_
      refine w_ss dX9_wakes_13 rfl rfl (As := [.int a1, .int 1, .int 9999]) rfl rfl (Nat.le_of_ble_eq_true rfl) ?_
      refine ZV.of (ini := false) rfl (Nat.le_of_ble_eq_true rfl) (by decide +kernel) ?_
      show ZW _ _ _ _ _ _ _ (0, [some (.int a1), some (.int 1), some (.int 9999)], [], M0)
      refine w_lo dX9_is_0 rfl rfl rfl rfl ?_
      refine w_lo dX9_is_1 rfl rfl rfl rfl ?_
      rcases zcut a1.toInt (1 : Int) with h11 | h11
      · skip
        refine w_clt_t dX9_is_2 (t := 14) rfl (by have := zt_1; omega) ?_
        refine w_ic dX9_is_14 zi_0 ?_
        refine w_en dX9_is_15 rfl ?_
        show ZW _ _ _ _ _ _ _ (16, [some (.ref 386), some (.int a0), some (.int a1)], [.int 0], M0)
        refine w_ine_f dX9_wakes_16 (t := 21) rfl (by have := zt_0; omega) ?_
        refine w_ic dX9_wakes_19 zi_m1 ?_
        refine w_en dX9_wakes_20 rfl ?_
        exact ⟨_, _, rfl, (by have := zt_m1; omega), (by have := zt_m1; omega), hJ0, trivial⟩
      · skip
        refine w_clt_f dX9_is_2 (t := 14) rfl (by have := zt_1; omega) ?_
        refine w_lo dX9_is_5 rfl rfl rfl rfl ?_
        refine w_lo dX9_is_6 rfl rfl rfl rfl ?_
        rcases zcut (9999 : Int) a1.toInt with h12 | h12
        · skip
          refine w_cgt_t dX9_is_7 (t := 14) rfl (by have := zt_9999; omega) ?_
          refine w_ic dX9_is_14 zi_0 ?_
          refine w_en dX9_is_15 rfl ?_
          show ZW _ _ _ _ _ _ _ (16, [some (.ref 386), some (.int a0), some (.int a1)], [.int 0], M0)
          refine w_ine_f dX9_wakes_16 (t := 21) rfl (by have := zt_0; omega) ?_
          refine w_ic dX9_wakes_19 zi_m1 ?_
          refine w_en dX9_wakes_20 rfl ?_
          exact ⟨_, _, rfl, (by have := zt_m1; omega), (by have := zt_m1; omega), hJ0, trivial⟩
        · skip
          refine w_cgt_f dX9_is_7 (t := 14) rfl (by have := zt_9999; omega) ?_
          refine w_ic dX9_is_10 zi_1 ?_
          refine w_gt dX9_is_11 (t := 15) rfl ?_
          refine w_en dX9_is_15 rfl ?_
          show ZW _ _ _ _ _ _ _ (16, [some (.ref 386), some (.int a0), some (.int a1)], [.int 1], M0)
          refine w_ine_t dX9_wakes_16 (t := 21) rfl (by have := zt_1; omega) ?_
          refine w_lo dX9_wakes_21 rfl rfl rfl rfl ?_
          refine w_ic dX9_wakes_22 zi_0 ?_
          refine w_iv dX9_wakes_23 rfl rfl (As := [.int 0]) rfl rfl hJ0.1.1 zs_386 (Nat.le_of_ble_eq_true rfl) ?_
          refine ZV.imp (k_2363 0 (by have := zt_0; omega) (by have := zt_0; omega) hN hJ0.1) ?_
          rintro _ ⟨M13, rfl, hJ14, hq15⟩
          have hJ16 := zJ_trans hJ0 hJ14 (zSub_cons (fun _ _ h h' hk => zIR_s (zIR_a (by omega) (by omega))) (zSub_cons (fun _ _ h h' hk => zIR_s (zIR_s (zIR_e (by omega) (by omega) hk))) (zSub_cons (fun _ _ h h' hk => zIR_s (zIR_s (zIR_s (zIR_e (by omega) (by omega) hk)))) (zSub_cons (fun _ _ h h' hk => zIR_s (zIR_s (zIR_s (zIR_s (zIR_e (by omega) (by omega) hk))))) zSub_nil))))
          show ZW _ _ _ _ _ _ _ (26, [some (.ref 386), some (.int a0), some (.int a1)], [], M13)
          refine w_lo dX9_wakes_26 rfl rfl rfl rfl ?_
          refine w_lo dX9_wakes_27 rfl rfl rfl rfl ?_
          refine w_lo dX9_wakes_28 rfl rfl rfl rfl ?_
          refine w_iv dX9_wakes_29 rfl rfl (As := [.int a0, .int a1]) rfl rfl hJ16.1.1 zs_386 (Nat.le_of_ble_eq_true rfl) ?_
          refine ZV.imp (k_2382 a0 (by omega) (by omega) a1 hN hJ16.1) ?_
          rintro _ ⟨M17, rfl, hJ18, hq19⟩
          have hJ20 := zJ_trans hJ16 hJ18 (zSub_cons (fun _ _ h h' hk => zIR_a (by omega) (by omega)) (zSub_cons (fun _ _ h h' hk => zIR_s (zIR_a (by omega) (by omega))) (zSub_cons (fun _ _ h h' hk => zIR_s (zIR_s (zIR_s (zIR_s (zIR_s (zIR_e (by omega) (by omega) hk)))))) zSub_nil)))
          show ZW _ _ _ _ _ _ _ (32, [some (.ref 386), some (.int a0), some (.int a1)], [], M17)
          refine w_lo dX9_wakes_32 rfl rfl rfl rfl ?_
          refine w_gfi dX9_wakes_33 rfl hJ20.1 zs_386 (Nat.le_of_ble_eq_true rfl) zo_386_74 ?_
          intro x21 f22 h23 h24
          refine w_eni dX9_wakes_36 rfl rfl ?_
          exact ⟨_, _, rfl, (by omega), (by omega), hJ20, trivial⟩
    · skip
      refine w_cge_t dX9_isBoy_14 (t := 21) rfl (by omega) ?_
      refine w_ic dX9_isBoy_21 zi_0 ?_
      refine w_en dX9_isBoy_22 rfl ?_
      show ZW _ _ _ _ _ _ _ (5, [some (.ref 386), some (.int a0), some (.int a1)], [.int 0], M0)
      refine w_ieq_t dX9_wakes_5 (t := 19) rfl (by have := zt_0; omega) ?_
      refine w_ic dX9_wakes_19 zi_m1 ?_
      refine w_en dX9_wakes_20 rfl ?_
      exact ⟨_, _, rfl, (by have := zt_m1; omega), (by have := zt_m1; omega), hJ0, trivial⟩
set_option maxRecDepth 100000 in
theorem k_2399 {X : List Int32} {d N : Nat} {M0 : zM} (a0 : Int32) (a1 : Int32) (hN : N ≤ 600) (hB0 : zB N M0) : ZV X (d + 8) 2399 [.ref 386, .int a0, .int a1] M0 (zRI N [(416, 418, 1000), (434, 436, 1000), (386, 387, 70), (386, 387, 71), (386, 387, 72), (386, 387, 74)] M0 (-1) (9999) (fun _ _ => True)) := by
  have hJ0 : zJ N [(416, 418, 1000), (434, 436, 1000), (386, 387, 70), (386, 387, 71), (386, 387, 72), (386, 387, 74)] M0 M0 := zJ_refl hB0
  refine ZV.of (ini := false) rfl (Nat.le_of_ble_eq_true rfl) (by decide +kernel) ?_
  have main : ∀ n : Nat,
      (∀ (M : zM) (v30_1 : Int32) (v30_2 : Int32) (v30_3 : Int32), zJ N [(416, 418, 1000), (434, 436, 1000), (386, 387, 70), (386, 387, 71), (386, 387, 72), (386, 387, 74)] M0 M → ((0 : Int) ≤ v30_1.toInt) → (v30_1.toInt ≤ 11) → ((0 : Int) ≤ v30_2.toInt) → (v30_2.toInt ≤ 11) → ((1 : Int) ≤ v30_3.toInt) → (v30_3.toInt ≤ 10000) → 3 * (10000 - v30_3.toInt) + 1 < (n : Int) → ZW X (d + 7) 9 false (some .int) cX9_least (zRI N [(416, 418, 1000), (434, 436, 1000), (386, 387, 70), (386, 387, 71), (386, 387, 72), (386, 387, 74)] M0 (-1) (9999) (fun _ _ => True)) (30, [some (.ref 386), some (.int v30_1), some (.int v30_2), some (.int v30_3)], [], M)) := by
    intro n
    induction n with
    | zero =>
      exact (fun M v30_1 v30_2 v30_3 hJ v30_10 v30_11 v30_20 v30_21 v30_30 v30_31 hn => absurd hn (by omega))
    | succ n ih =>
      have ih30 := ih
      · intro M v30_1 v30_2 v30_3 hJ v30_10 v30_11 v30_20 v30_21 v30_30 v30_31 hn
        refine w_lo dX9_least_30 rfl rfl rfl rfl ?_
        refine w_si dX9_least_31 (c := 9999) (by decide) ?_
        rcases zcut (9999 : Int) v30_3.toInt with h1 | h1
        · skip
          refine w_cgt_t dX9_least_34 (t := 63) rfl (by have := zt_9999; omega) ?_
          refine w_ic dX9_least_63 zi_m1 ?_
          refine w_en dX9_least_64 rfl ?_
          exact ⟨_, _, rfl, (by have := zt_m1; omega), (by have := zt_m1; omega), hJ, trivial⟩
        · skip
          refine w_cgt_f dX9_least_34 (t := 63) rfl (by have := zt_9999; omega) ?_
          refine w_lo dX9_least_37 rfl rfl rfl rfl ?_
          refine w_lo dX9_least_38 rfl rfl rfl rfl ?_
          refine w_lo dX9_least_39 rfl rfl rfl rfl ?_
          refine w_iv dX9_least_40 rfl rfl (As := [.int v30_1, .int v30_3]) rfl rfl hJ.1.1 zs_386 (Nat.le_of_ble_eq_true rfl) ?_
          refine ZV.imp (k_2382 v30_1 (by omega) (by omega) v30_3 hN hJ.1) ?_
          rintro _ ⟨M2, rfl, hJ3, hq4⟩
          have hJ5 := zJ_trans hJ hJ3 (zSub_cons (fun _ _ h h' hk => zIR_a (by omega) (by omega)) (zSub_cons (fun _ _ h h' hk => zIR_s (zIR_a (by omega) (by omega))) (zSub_cons (fun _ _ h h' hk => zIR_s (zIR_s (zIR_s (zIR_s (zIR_s (zIR_e (by omega) (by omega) hk)))))) zSub_nil)))
          show ZW _ _ _ _ _ _ _ (43, [some (.ref 386), some (.int v30_1), some (.int v30_2), some (.int v30_3)], [], M2)
          refine w_lo dX9_least_43 rfl rfl rfl rfl ?_
          refine w_gfi dX9_least_44 rfl hJ5.1 zs_386 (Nat.le_of_ble_eq_true rfl) zo_386_74 ?_
          intro x6 f7 h8 h9
          refine w_lo dX9_least_47 rfl rfl rfl rfl ?_
          refine w_puI dX9_least_48 rfl rfl ?_
          intro x10
          refine w_ic dX9_least_49 zi_1 ?_
          refine w_and dX9_least_50 (m := 1) zt_1 (by omega) ?_
          intro x11 h12 h13
          refine w_ic dX9_least_51 zi_1 ?_
          rcases Int.decEq x11.toInt (1 : Int) with h14 | h14
          · skip
            refine w_cne_t dX9_least_52 (t := 57) rfl (by have := zt_1; omega) ?_
            refine w_inc (kk := 3) dX9_least_57 rfl (m := 1) (by decide) (by omega) ?_
            intro x15 h16
            refine ⟨_, rfl, ?_⟩
            show ZW _ _ _ _ _ _ _ (60, [some (.ref 386), some (.int v30_1), some (.int v30_2), some (.int x15)], [], M2)
            refine w_gt dX9_least_60 (t := 30) rfl ?_
            exact ih30 M2 v30_1 v30_2 x15 hJ5 (by omega) (by omega) (by omega) (by omega) (by omega) (by omega) (by omega)
          · skip
            refine w_cne_f dX9_least_52 (t := 57) rfl (by have := zt_1; omega) ?_
            refine w_lo dX9_least_55 rfl rfl rfl rfl ?_
            refine w_eni dX9_least_56 rfl rfl ?_
            exact ⟨_, _, rfl, (by omega), (by omega), hJ5, trivial⟩
  have ih30 := main 30009
  show ZW _ _ _ _ _ _ _ (0, [some (.ref 386), some (.int a0), some (.int a1), none], [], M0)
  refine w_lo dX9_least_0 rfl rfl rfl rfl ?_
  refine w_lo dX9_least_1 rfl rfl rfl rfl ?_
  refine w_iv dX9_least_2 rfl rfl (As := [.int a0]) rfl rfl hJ0.1.1 zs_386 (Nat.le_of_ble_eq_true rfl) ?_
  refine ZV.of (ini := false) rfl (Nat.le_of_ble_eq_true rfl) (by decide +kernel) ?_
  show ZW _ _ _ _ _ _ _ (0, [some (.ref 386), some (.int a0)], [], M0)
  refine w_lo dX9_isBoy_0 rfl rfl rfl rfl ?_
  rcases zcut a0.toInt (0 : Int) with h17 | h17
  · skip
    refine w_ilt_t dX9_isBoy_1 (t := 21) rfl (by omega) ?_
    refine w_ic dX9_isBoy_21 zi_0 ?_
    refine w_en dX9_isBoy_22 rfl ?_
    show ZW _ _ _ _ _ _ _ (5, [some (.ref 386), some (.int a0), some (.int a1), none], [.int 0], M0)
    refine w_ieq_t dX9_least_5 (t := 21) rfl (by have := zt_0; omega) ?_
    refine w_ic dX9_least_21 zi_m1 ?_
    refine w_en dX9_least_22 rfl ?_
    exact ⟨_, _, rfl, (by have := zt_m1; omega), (by have := zt_m1; omega), hJ0, trivial⟩
  · skip
    refine w_ilt_f dX9_isBoy_1 (t := 21) rfl (by omega) ?_
    refine w_lo dX9_isBoy_4 rfl rfl rfl rfl ?_
    refine w_lo dX9_isBoy_5 rfl rfl rfl rfl ?_
    refine w_gf dX9_isBoy_6 rfl hJ0.1.1 zs_386 (zr_386_13 hJ0.1) ?_
    refine w_lo dX9_isBoy_9 rfl rfl rfl rfl ?_
    refine w_gfi dX9_isBoy_10 rfl hJ0.1 zs_386 (Nat.le_of_ble_eq_true rfl) zo_386_12 ?_
    intro x18 f19 h20 h21
    refine w_iai dX9_isBoy_13 hJ0.1 zs_388 (by omega) (by omega) zu_388 ?_
    intro x25 f22 h23 h24
    rcases zcut a0.toInt x25.toInt with h26 | h26
    · skip
      refine w_cge_f dX9_isBoy_14 (t := 21) rfl (by omega) ?_
      refine w_ic dX9_isBoy_17 zi_1 ?_
      refine w_gt dX9_isBoy_18 (t := 22) rfl ?_
      refine w_en dX9_isBoy_22 rfl ?_
      show ZW _ _ _ _ _ _ _ (5, [some (.ref 386), some (.int a0), some (.int a1), none], [.int 1], M0)
      refine w_ieq_f dX9_least_5 (t := 21) rfl (by have := zt_1; omega) ?_
      refine w_lo dX9_least_8 rfl rfl rfl rfl ?_
      refine w_lo dX9_least_9 rfl rfl rfl rfl ?_
      refine w_iv dX9_least_10 rfl rfl (As := [.int a1]) rfl rfl hJ0.1.1 zs_386 (Nat.le_of_ble_eq_true rfl) ?_
      refine ZV.of (ini := false) rfl (Nat.le_of_ble_eq_true rfl) (by decide +kernel) ?_
      show ZW _ _ _ _ _ _ _ (0, [some (.ref 386), some (.int a1)], [], M0)
      refine w_lo dX9_isBoy_0 rfl rfl rfl rfl ?_
      rcases zcut a1.toInt (0 : Int) with h27 | h27
      · skip
        refine w_ilt_t dX9_isBoy_1 (t := 21) rfl (by omega) ?_
        refine w_ic dX9_isBoy_21 zi_0 ?_
        refine w_en dX9_isBoy_22 rfl ?_
        show ZW _ _ _ _ _ _ _ (13, [some (.ref 386), some (.int a0), some (.int a1), none], [.int 0], M0)
        refine w_ieq_t dX9_least_13 (t := 21) rfl (by have := zt_0; omega) ?_
        refine w_ic dX9_least_21 zi_m1 ?_
        refine w_en dX9_least_22 rfl ?_
        exact ⟨_, _, rfl, (by have := zt_m1; omega), (by have := zt_m1; omega), hJ0, trivial⟩
      · skip
        refine w_ilt_f dX9_isBoy_1 (t := 21) rfl (by omega) ?_
        refine w_lo dX9_isBoy_4 rfl rfl rfl rfl ?_
        refine w_lo dX9_isBoy_5 rfl rfl rfl rfl ?_
        refine w_gf dX9_isBoy_6 rfl hJ0.1.1 zs_386 (zr_386_13 hJ0.1) ?_
        refine w_lo dX9_isBoy_9 rfl rfl rfl rfl ?_
        refine w_gf dX9_isBoy_10 rfl hJ0.1.1 zs_386 f19 ?_
        refine w_ia dX9_isBoy_13 hJ0.1.1 zs_388 (znat (by omega)) f22 ?_
        rcases zcut a1.toInt x25.toInt with h31 | h31
        · skip
          refine w_cge_f dX9_isBoy_14 (t := 21) rfl (by omega) ?_
          refine w_ic dX9_isBoy_17 zi_1 ?_
          refine w_gt dX9_isBoy_18 (t := 22) rfl ?_
          refine w_en dX9_isBoy_22 rfl ?_
          show ZW _ _ _ _ _ _ _ (13, [some (.ref 386), some (.int a0), some (.int a1), none], [.int 1], M0)
          refine w_ieq_f dX9_least_13 (t := 21) rfl (by have := zt_1; omega) ?_
          refine w_lo dX9_least_16 rfl rfl rfl rfl ?_
          refine w_lo dX9_least_17 rfl rfl rfl rfl ?_
          rcases Int.decEq a0.toInt a1.toInt with h32 | h32
          · skip
            refine w_cne_t dX9_least_18 (t := 23) rfl (by omega) ?_
            refine w_lo dX9_least_23 rfl rfl rfl rfl ?_
            refine w_ic dX9_least_24 zi_0 ?_
            refine w_iv dX9_least_25 rfl rfl (As := [.int 0]) rfl rfl hJ0.1.1 zs_386 (Nat.le_of_ble_eq_true rfl) ?_
            refine ZV.imp (k_2363 0 (by have := zt_0; omega) (by have := zt_0; omega) hN hJ0.1) ?_
            rintro _ ⟨M33, rfl, hJ34, hq35⟩
            have hJ36 := zJ_trans hJ0 hJ34 (zSub_cons (fun _ _ h h' hk => zIR_s (zIR_a (by omega) (by omega))) (zSub_cons (fun _ _ h h' hk => zIR_s (zIR_s (zIR_e (by omega) (by omega) hk))) (zSub_cons (fun _ _ h h' hk => zIR_s (zIR_s (zIR_s (zIR_e (by omega) (by omega) hk)))) (zSub_cons (fun _ _ h h' hk => zIR_s (zIR_s (zIR_s (zIR_s (zIR_e (by omega) (by omega) hk))))) zSub_nil))))
            show ZW _ _ _ _ _ _ _ (28, [some (.ref 386), some (.int a0), some (.int a1), none], [], M33)
            refine w_ic dX9_least_28 zi_1 ?_
            refine w_lo (ml' := [some (.ref 386), some (.int a0), some (.int a1), some (.int 1)]) dX9_least_29 rfl rfl rfl rfl ?_
            exact ih30 M33 a0 a1 1 hJ36 (by omega) (by omega) (by omega) (by omega) (by have := zt_1; omega) (by have := zt_1; omega) (by have := zt_1; omega)
          · skip
            refine w_cne_f dX9_least_18 (t := 23) rfl (by omega) ?_
            refine w_ic dX9_least_21 zi_m1 ?_
            refine w_en dX9_least_22 rfl ?_
            exact ⟨_, _, rfl, (by have := zt_m1; omega), (by have := zt_m1; omega), hJ0, trivial⟩
        · skip
          refine w_cge_t dX9_isBoy_14 (t := 21) rfl (by omega) ?_
          refine w_ic dX9_isBoy_21 zi_0 ?_
          refine w_en dX9_isBoy_22 rfl ?_
          show ZW _ _ _ _ _ _ _ (13, [some (.ref 386), some (.int a0), some (.int a1), none], [.int 0], M0)
          refine w_ieq_t dX9_least_13 (t := 21) rfl (by have := zt_0; omega) ?_
          refine w_ic dX9_least_21 zi_m1 ?_
          refine w_en dX9_least_22 rfl ?_
          exact ⟨_, _, rfl, (by have := zt_m1; omega), (by have := zt_m1; omega), hJ0, trivial⟩
    · skip
      refine w_cge_t dX9_isBoy_14 (t := 21) rfl (by omega) ?_
      refine w_ic dX9_isBoy_21 zi_0 ?_
      refine w_en dX9_isBoy_22 rfl ?_
      show ZW _ _ _ _ _ _ _ (5, [some (.ref 386), some (.int a0), some (.int a1), none], [.int 0], M0)
      refine w_ieq_t dX9_least_5 (t := 21) rfl (by have := zt_0; omega) ?_
      refine w_ic dX9_least_21 zi_m1 ?_
      refine w_en dX9_least_22 rfl ?_
      exact ⟨_, _, rfl, (by have := zt_m1; omega), (by have := zt_m1; omega), hJ0, trivial⟩
set_option maxRecDepth 100000 in
theorem k_2401 {X : List Int32} {d N : Nat} {M0 : zM}  (hN : N ≤ 600) (hB0 : zB N M0) : ZV X (d + 8) 2401 [.ref 386] M0 (zRI N [(416, 418, 1000), (435, 436, 1000), (386, 387, 71), (386, 387, 74)] M0 (-2147483648) (2147483647) (fun _ _ => True)) := by
  have hJ0 : zJ N [(416, 418, 1000), (435, 436, 1000), (386, 387, 71), (386, 387, 74)] M0 M0 := zJ_refl hB0
  refine ZV.of (ini := false) rfl (Nat.le_of_ble_eq_true rfl) (by decide +kernel) ?_
  have main : ∀ n : Nat,
      (∀ (M : zM) (v9_1 : Int32) (v9_2 : Int32) (o9_3 : Option Value), zJ N [(416, 418, 1000), (435, 436, 1000), (386, 387, 71), (386, 387, 74)] M0 M → ((-2147483648 : Int) ≤ v9_1.toInt) → (v9_1.toInt ≤ 2147483647) → ((0 : Int) ≤ v9_2.toInt) → (v9_2.toInt ≤ 12) → 36 * (12 - v9_2.toInt) + 34 < (n : Int) → ZW X (d + 7) 9 false (some .int) cX9_badness (zRI N [(416, 418, 1000), (435, 436, 1000), (386, 387, 71), (386, 387, 74)] M0 (-2147483648) (2147483647) (fun _ _ => True)) (9, [some (.ref 386), some (.int v9_1), some (.int v9_2), o9_3], [], M)) ∧
      (∀ (M : zM) (v35_1 : Int32) (v35_2 : Int32) (v35_3 : Int32), zJ N [(416, 418, 1000), (435, 436, 1000), (386, 387, 71), (386, 387, 74)] M0 M → ((-2147483648 : Int) ≤ v35_1.toInt) → (v35_1.toInt ≤ 2147483647) → ((0 : Int) ≤ v35_2.toInt) → (v35_2.toInt ≤ 11) → ((0 : Int) ≤ v35_3.toInt) → (v35_3.toInt ≤ 6) → 36 * (12 - v35_2.toInt) + 4 * (6 - v35_3.toInt) + 1 < (n : Int) → ZW X (d + 7) 9 false (some .int) cX9_badness (zRI N [(416, 418, 1000), (435, 436, 1000), (386, 387, 71), (386, 387, 74)] M0 (-2147483648) (2147483647) (fun _ _ => True)) (35, [some (.ref 386), some (.int v35_1), some (.int v35_2), some (.int v35_3)], [], M)) := by
    intro n
    induction n with
    | zero =>
      exact ⟨(fun M v9_1 v9_2 o9_3 hJ v9_10 v9_11 v9_20 v9_21 hn => absurd hn (by omega)), (fun M v35_1 v35_2 v35_3 hJ v35_10 v35_11 v35_20 v35_21 v35_30 v35_31 hn => absurd hn (by omega))⟩
    | succ n ih =>
      obtain ⟨ih9, ih35⟩ := ih
      refine ⟨?_, ?_⟩
      · intro M v9_1 v9_2 o9_3 hJ v9_10 v9_11 v9_20 v9_21 hn
        refine w_lo dX9_badness_9 rfl rfl rfl rfl ?_
        refine w_lo dX9_badness_10 rfl rfl rfl rfl ?_
        refine w_gfi dX9_badness_11 rfl hJ.1 zs_386 (Nat.le_of_ble_eq_true rfl) zo_386_70 ?_
        intro x1 f2 h3 h4
        rcases zcut v9_2.toInt x1.toInt with h5 | h5
        · skip
          refine w_cge_f dX9_badness_14 (t := 124) rfl (by omega) ?_
          refine w_lo dX9_badness_17 rfl rfl rfl rfl ?_
          refine w_lo dX9_badness_18 rfl rfl rfl rfl ?_
          refine w_gf dX9_badness_19 rfl hJ.1.1 zs_386 (zr_386_69 hJ.1) ?_
          refine w_lo dX9_badness_22 rfl rfl rfl rfl ?_
          refine w_iai dX9_badness_23 hJ.1 zs_434 (by omega) (by omega) zu_434 ?_
          intro x9 f6 h7 h8
          refine w_iv dX9_badness_24 rfl rfl (As := [.int x9]) rfl rfl hJ.1.1 zs_386 (Nat.le_of_ble_eq_true rfl) ?_
          refine ZV.of (ini := false) rfl (Nat.le_of_ble_eq_true rfl) (by decide +kernel) ?_
          show ZW _ _ _ _ _ _ _ (0, [some (.ref 386), some (.int x9)], [], M)
          refine w_lo dX9_isGhost_0 rfl rfl rfl rfl ?_
          refine w_gf dX9_isGhost_1 rfl hJ.1.1 zs_386 (zr_386_19 hJ.1) ?_
          refine w_bi dX9_isGhost_4 (c := 12) (by decide) ?_
          refine w_lo dX9_isGhost_6 rfl rfl rfl rfl ?_
          refine w_gfi dX9_isGhost_7 rfl hJ.1 zs_386 (Nat.le_of_ble_eq_true rfl) zo_386_12 ?_
          intro x10 f11 h12 h13
          refine w_mulc dX9_isGhost_10 zt_12 (by have := zt_12; omega) ?_
          intro x14 h15
          have := zt_12
          refine w_lo dX9_isGhost_11 rfl rfl rfl rfl ?_
          refine w_add dX9_isGhost_12 (by omega) ?_
          intro x16 h17
          refine w_iai dX9_isGhost_13 hJ.1 zs_394 (by omega) (by omega) zu_394 ?_
          intro x21 f18 h19 h20
          refine w_ic dX9_isGhost_14 zi_2 ?_
          refine w_and dX9_isGhost_15 (m := 2) zt_2 (by omega) ?_
          intro x22 h23 h24
          rcases Int.decEq x22.toInt (0 : Int) with h25 | h25
          · skip
            refine w_ieq_f dX9_isGhost_16 (t := 23) rfl (by omega) ?_
            refine w_ic dX9_isGhost_19 zi_1 ?_
            refine w_gt dX9_isGhost_20 (t := 24) rfl ?_
            refine w_en dX9_isGhost_24 rfl ?_
            show ZW _ _ _ _ _ _ _ (27, [some (.ref 386), some (.int v9_1), some (.int v9_2), o9_3], [.int 1], M)
            refine w_ieq_f dX9_badness_27 (t := 33) rfl (by have := zt_1; omega) ?_
            refine w_gt dX9_badness_30 (t := 118) rfl ?_
            refine w_inc (kk := 2) dX9_badness_118 rfl (m := 1) (by decide) (by omega) ?_
            intro x26 h27
            refine ⟨_, rfl, ?_⟩
            show ZW _ _ _ _ _ _ _ (121, [some (.ref 386), some (.int v9_1), some (.int x26), o9_3], [], M)
            refine w_gt dX9_badness_121 (t := 9) rfl ?_
            exact ih9 M v9_1 x26 o9_3 hJ (zbot _) (ztop _) (by omega) (by omega) (by omega)
          · skip
            refine w_ieq_t dX9_isGhost_16 (t := 23) rfl (by omega) ?_
            refine w_ic dX9_isGhost_23 zi_0 ?_
            refine w_en dX9_isGhost_24 rfl ?_
            show ZW _ _ _ _ _ _ _ (27, [some (.ref 386), some (.int v9_1), some (.int v9_2), o9_3], [.int 0], M)
            refine w_ieq_t dX9_badness_27 (t := 33) rfl (by have := zt_0; omega) ?_
            refine w_ic dX9_badness_33 zi_0 ?_
            refine w_lo (ml' := [some (.ref 386), some (.int v9_1), some (.int v9_2), some (.int 0)]) dX9_badness_34 rfl rfl rfl rfl ?_
            exact ih35 M v9_1 v9_2 0 hJ (zbot _) (ztop _) (by omega) (by omega) (by have := zt_0; omega) (by have := zt_0; omega) (by have := zt_0; omega)
        · skip
          refine w_cge_t dX9_badness_14 (t := 124) rfl (by omega) ?_
          refine w_lo dX9_badness_124 rfl rfl rfl rfl ?_
          refine w_eni dX9_badness_125 rfl rfl ?_
          exact ⟨_, _, rfl, (zbot _), (ztop _), hJ, trivial⟩
      · intro M v35_1 v35_2 v35_3 hJ v35_10 v35_11 v35_20 v35_21 v35_30 v35_31 hn
        refine w_lo dX9_badness_35 rfl rfl rfl rfl ?_
        refine w_lo dX9_badness_36 rfl rfl rfl rfl ?_
        refine w_gf dX9_badness_37 rfl hJ.1.1 zs_386 (zr_386_21 hJ.1) ?_
        refine w_lo dX9_badness_40 rfl rfl rfl rfl ?_
        refine w_gfi dX9_badness_41 rfl hJ.1 zs_386 (Nat.le_of_ble_eq_true rfl) zo_386_12 ?_
        intro x28 f29 h30 h31
        refine w_iai dX9_badness_44 hJ.1 zs_396 (by omega) (by omega) zu_396 ?_
        intro x35 f32 h33 h34
        rcases zcut v35_3.toInt x35.toInt with h36 | h36
        · skip
          refine w_cge_f dX9_badness_45 (t := 118) rfl (by omega) ?_
          refine w_lo dX9_badness_48 rfl rfl rfl rfl ?_
          refine w_lo dX9_badness_49 rfl rfl rfl rfl ?_
          refine w_lo dX9_badness_50 rfl rfl rfl rfl ?_
          refine w_gf dX9_badness_51 rfl hJ.1.1 zs_386 (zr_386_23 hJ.1) ?_
          refine w_bi dX9_badness_54 (c := 6) (by decide) ?_
          refine w_lo dX9_badness_56 rfl rfl rfl rfl ?_
          refine w_gf dX9_badness_57 rfl hJ.1.1 zs_386 f29 ?_
          refine w_mulc dX9_badness_60 zt_6 (by have := zt_6; omega) ?_
          intro x37 h38
          have := zt_6
          refine w_lo dX9_badness_61 rfl rfl rfl rfl ?_
          refine w_add dX9_badness_62 (by omega) ?_
          intro x39 h40
          refine w_iai dX9_badness_63 hJ.1 zs_398 (by omega) (by omega) zu_398 ?_
          intro x44 f41 h42 h43
          refine w_iv dX9_badness_64 rfl rfl (As := [.int v35_2, .int x44]) rfl rfl hJ.1.1 zs_386 (Nat.le_of_ble_eq_true rfl) ?_
          refine ZV.imp (k_2382 v35_2 (by omega) (by omega) x44 hN hJ.1) ?_
          rintro _ ⟨M45, rfl, hJ46, hq47⟩
          have hJ48 := zJ_trans hJ hJ46 (zSub_cons (fun _ _ h h' hk => zIR_a (by omega) (by omega)) (zSub_cons (fun _ _ h h' hk => zIR_s (zIR_a (by omega) (by omega))) (zSub_cons (fun _ _ h h' hk => zIR_s (zIR_s (zIR_s (zIR_e (by omega) (by omega) hk)))) zSub_nil)))
          show ZW _ _ _ _ _ _ _ (67, [some (.ref 386), some (.int v35_1), some (.int v35_2), some (.int v35_3)], [], M45)
          refine w_lo dX9_badness_67 rfl rfl rfl rfl ?_
          refine w_lo dX9_badness_68 rfl rfl rfl rfl ?_
          refine w_gf dX9_badness_69 rfl hJ48.1.1 zs_386 (zr_386_17 hJ48.1) ?_
          refine w_bi dX9_badness_72 (c := 12) (by decide) ?_
          refine w_lo dX9_badness_74 rfl rfl rfl rfl ?_
          have f49 := (hJ46.2 (386) 12 (zNI (by omega) (zNI (by omega) (zNI_k (by decide) (by decide) zNI_nil)))).trans (f29)
          refine w_gf dX9_badness_75 rfl hJ48.1.1 zs_386 f49 ?_
          refine w_mulc dX9_badness_78 zt_12 (by have := zt_12; omega) ?_
          intro x50 h51
          have := zt_12
          refine w_lo dX9_badness_79 rfl rfl rfl rfl ?_
          refine w_gf dX9_badness_80 rfl hJ48.1.1 zs_386 (zr_386_69 hJ48.1) ?_
          refine w_lo dX9_badness_83 rfl rfl rfl rfl ?_
          refine w_iai dX9_badness_84 hJ48.1 zs_434 (by omega) (by omega) zu_434 ?_
          intro x55 f52 h53 h54
          refine w_add dX9_badness_85 (by omega) ?_
          intro x56 h57
          refine w_iai dX9_badness_86 hJ48.1 zs_392 (by omega) (by omega) zu_392 ?_
          intro x61 f58 h59 h60
          refine w_lo dX9_badness_87 rfl rfl rfl rfl ?_
          refine w_gf dX9_badness_88 rfl hJ48.1.1 zs_386 (zr_386_26 hJ48.1) ?_
          refine w_bi dX9_badness_91 (c := 6) (by decide) ?_
          refine w_lo dX9_badness_93 rfl rfl rfl rfl ?_
          refine w_gf dX9_badness_94 rfl hJ48.1.1 zs_386 f49 ?_
          refine w_mulc dX9_badness_97 zt_6 (by have := zt_6; omega) ?_
          intro x62 h63
          have := zt_6
          refine w_lo dX9_badness_98 rfl rfl rfl rfl ?_
          refine w_add dX9_badness_99 (by omega) ?_
          intro x64 h65
          refine w_iai dX9_badness_100 hJ48.1 zs_401 (by omega) (by omega) zu_401 ?_
          intro x69 f66 h67 h68
          refine w_puI dX9_badness_101 rfl rfl ?_
          intro x70
          refine w_lo dX9_badness_102 rfl rfl rfl rfl ?_
          refine w_gfi dX9_badness_103 rfl hJ48.1 zs_386 (Nat.le_of_ble_eq_true rfl) zo_386_74 ?_
          intro x71 f72 h73 h74
          refine w_ss dX9_badness_106 rfl rfl (As := [.int x71]) rfl rfl (Nat.le_of_ble_eq_true rfl) ?_
          refine ZV.imp (k_2385 x71 (by omega) (by omega) hN hJ48.1) ?_
          rintro _ ⟨x78, M75, rfl, h79, h80, hJ76, hq77⟩
          have hJ81 := zJ_trans hJ48 hJ76 zSub_nil
          show ZW _ _ _ _ _ _ _ (109, [some (.ref 386), some (.int v35_1), some (.int v35_2), some (.int v35_3)], [.int x78, .int x70, .int v35_1], M75)
          refine w_puI dX9_badness_109 rfl rfl ?_
          intro x82
          refine w_puI dX9_badness_110 rfl rfl ?_
          intro x83
          refine w_lo (ml' := [some (.ref 386), some (.int x83), some (.int v35_2), some (.int v35_3)]) dX9_badness_111 rfl rfl rfl rfl ?_
          refine w_inc (kk := 3) dX9_badness_112 rfl (m := 1) (by decide) (by omega) ?_
          intro x84 h85
          refine ⟨_, rfl, ?_⟩
          show ZW _ _ _ _ _ _ _ (115, [some (.ref 386), some (.int x83), some (.int v35_2), some (.int x84)], [], M75)
          refine w_gt dX9_badness_115 (t := 35) rfl ?_
          exact ih35 M75 x83 v35_2 x84 hJ81 (zbot _) (ztop _) (by omega) (by omega) (by omega) (by omega) (by omega)
        · skip
          refine w_cge_t dX9_badness_45 (t := 118) rfl (by omega) ?_
          refine w_inc (kk := 2) dX9_badness_118 rfl (m := 1) (by decide) (by omega) ?_
          intro x86 h87
          refine ⟨_, rfl, ?_⟩
          show ZW _ _ _ _ _ _ _ (121, [some (.ref 386), some (.int v35_1), some (.int x86), some (.int v35_3)], [], M)
          refine w_gt dX9_badness_121 (t := 9) rfl ?_
          exact ih9 M v35_1 x86 (some (.int v35_3)) hJ (zbot _) (ztop _) (by omega) (by omega) (by omega)
  obtain ⟨ih9, ih35⟩ := main 543
  show ZW _ _ _ _ _ _ _ (0, [some (.ref 386), none, none, none], [], M0)
  refine w_lo dX9_badness_0 rfl rfl rfl rfl ?_
  refine w_ic dX9_badness_1 zi_1 ?_
  refine w_pfi dX9_badness_2 rfl hJ0 zs_386 (Nat.le_of_ble_eq_true rfl) zo_386_71 (by have := zt_1; omega) (by have := zt_1; omega) (zIR_s (zIR_s (zIR_k (by omega) (by omega)))) rfl rfl rfl ?_
  intro M88 hJ89 f90 hn91
  refine w_ic dX9_badness_5 zi_0 ?_
  refine w_lo (ml' := [some (.ref 386), some (.int 0), none, none]) dX9_badness_6 rfl rfl rfl rfl ?_
  refine w_ic dX9_badness_7 zi_0 ?_
  refine w_lo (ml' := [some (.ref 386), some (.int 0), some (.int 0), none]) dX9_badness_8 rfl rfl rfl rfl ?_
  exact ih9 M88 0 0 none hJ89 (zbot _) (ztop _) (by have := zt_0; omega) (by have := zt_0; omega) (by have := zt_0; omega)
set_option maxRecDepth 100000 in
theorem k_2400 {X : List Int32} {d N : Nat} {M0 : zM}  (hN : N ≤ 600) (hB0 : zB N M0) : ZV X (d + 9) 2400 [.ref 386] M0 (zRI N [(416, 418, 1000), (434, 436, 1000), (386, 387, 70), (386, 387, 71), (386, 387, 72), (386, 387, 74)] M0 (-2147483648) (2147483647) (fun _ _ => True)) := by
  have hJ0 : zJ N [(416, 418, 1000), (434, 436, 1000), (386, 387, 70), (386, 387, 71), (386, 387, 72), (386, 387, 74)] M0 M0 := zJ_refl hB0
  refine ZV.of (ini := false) rfl (Nat.le_of_ble_eq_true rfl) (by decide +kernel) ?_
  show ZW _ _ _ _ _ _ _ (0, [some (.ref 386)], [], M0)
  refine w_lo dX9_bad_0 rfl rfl rfl rfl ?_
  refine w_ic dX9_bad_1 zi_0 ?_
  refine w_iv dX9_bad_2 rfl rfl (As := [.int 0]) rfl rfl hJ0.1.1 zs_386 (Nat.le_of_ble_eq_true rfl) ?_
  refine ZV.imp (k_2363 0 (by have := zt_0; omega) (by have := zt_0; omega) hN hJ0.1) ?_
  rintro _ ⟨M1, rfl, hJ2, hq3⟩
  have hJ4 := zJ_trans hJ0 hJ2 (zSub_cons (fun _ _ h h' hk => zIR_s (zIR_a (by omega) (by omega))) (zSub_cons (fun _ _ h h' hk => zIR_s (zIR_s (zIR_e (by omega) (by omega) hk))) (zSub_cons (fun _ _ h h' hk => zIR_s (zIR_s (zIR_s (zIR_e (by omega) (by omega) hk)))) (zSub_cons (fun _ _ h h' hk => zIR_s (zIR_s (zIR_s (zIR_s (zIR_e (by omega) (by omega) hk))))) zSub_nil))))
  show ZW _ _ _ _ _ _ _ (5, [some (.ref 386)], [], M1)
  refine w_lo dX9_bad_5 rfl rfl rfl rfl ?_
  refine w_iv dX9_bad_6 rfl rfl (As := []) rfl rfl hJ4.1.1 zs_386 (Nat.le_of_ble_eq_true rfl) ?_
  refine ZV.imp (k_2401 hN hJ4.1) ?_
  rintro _ ⟨x8, M5, rfl, h9, h10, hJ6, hq7⟩
  have hJ11 := zJ_trans hJ4 hJ6 (zSub_cons (fun _ _ h h' hk => zIR_a (by omega) (by omega)) (zSub_cons (fun _ _ h h' hk => zIR_s (zIR_a (by omega) (by omega))) (zSub_cons (fun _ _ h h' hk => zIR_s (zIR_s (zIR_s (zIR_e (by omega) (by omega) hk)))) (zSub_cons (fun _ _ h h' hk => zIR_s (zIR_s (zIR_s (zIR_s (zIR_s (zIR_e (by omega) (by omega) hk)))))) zSub_nil))))
  show ZW _ _ _ _ _ _ _ (9, [some (.ref 386)], [.int x8], M5)
  refine w_eni dX9_bad_9 rfl rfl ?_
  exact ⟨_, _, rfl, (zbot _), (ztop _), hJ11, trivial⟩
set_option maxRecDepth 100000 in
theorem k_2406 {X : List Int32} {d N : Nat} {M0 : zM}  (hN : N ≤ 600) (hB0 : zB N M0) : ZV X (d + 9) 2406 [.ref 386] M0 (zRI N [(416, 418, 1000), (434, 436, 1000), (386, 387, 70), (386, 387, 71), (386, 387, 72), (386, 387, 74), (386, 387, 77)] M0 (-2147483648) (2147483647) (fun _ _ => True)) := by
  have hJ0 : zJ N [(416, 418, 1000), (434, 436, 1000), (386, 387, 70), (386, 387, 71), (386, 387, 72), (386, 387, 74), (386, 387, 77)] M0 M0 := zJ_refl hB0
  refine ZV.of (ini := false) rfl (Nat.le_of_ble_eq_true rfl) (by decide +kernel) ?_
  have main : ∀ n : Nat,
      (∀ (M : zM) (v17_1 : Int32) (v17_2 : Int32) (o17_3 : Option Value) (o17_4 : Option Value) (o17_5 : Option Value) (o17_6 : Option Value) (o17_7 : Option Value) (o17_8 : Option Value), zJ N [(416, 418, 1000), (434, 436, 1000), (386, 387, 70), (386, 387, 71), (386, 387, 72), (386, 387, 74), (386, 387, 77)] M0 M → ((-2147483648 : Int) ≤ v17_1.toInt) → (v17_1.toInt ≤ 2147483647) → ((0 : Int) ≤ v17_2.toInt) → (v17_2.toInt ≤ 1) → 985 * (2 * (v17_1.toInt + 2147483648) + v17_2.toInt) + 983 < (n : Int) → ZW X (d + 8) 9 false (some .int) cX9_exchanged (zRI N [(416, 418, 1000), (434, 436, 1000), (386, 387, 70), (386, 387, 71), (386, 387, 72), (386, 387, 74), (386, 387, 77)] M0 (-2147483648) (2147483647) (fun _ _ => True)) (17, [some (.ref 386), some (.int v17_1), some (.int v17_2), o17_3, o17_4, o17_5, o17_6, o17_7, o17_8], [], M)) ∧
      (∀ (M : zM) (u32_1 : Int32) (u32_2 : Int32) (v32_3 : Int32) (v32_4 : Int32) (v32_5 : Int32) (v32_6 : Int32) (o32_7 : Option Value) (o32_8 : Option Value), zJ N [(416, 418, 1000), (434, 436, 1000), (386, 387, 70), (386, 387, 71), (386, 387, 72), (386, 387, 74), (386, 387, 77)] M0 M → ((-1 : Int) ≤ v32_3.toInt) → (v32_3.toInt ≤ 11) → ((-1 : Int) ≤ v32_4.toInt) → (v32_4.toInt ≤ 11) → ((-2147483648 : Int) ≤ v32_5.toInt) → (v32_5.toInt ≤ 2147483647) → ((0 : Int) ≤ v32_6.toInt) → (v32_6.toInt ≤ 12) → (u32_2.toInt = 1) → (v32_3.toInt = -1 ∧ v32_4.toInt = -1 ∧ v32_5.toInt = u32_1.toInt ∨ 0 ≤ v32_3.toInt ∧ 0 ≤ v32_4.toInt ∧ v32_5.toInt < u32_1.toInt) → 985 * (2 * (u32_1.toInt + 2147483648) + u32_2.toInt) + 70 * (12 - v32_6.toInt) + 67 < (n : Int) → ZW X (d + 8) 9 false (some .int) cX9_exchanged (zRI N [(416, 418, 1000), (434, 436, 1000), (386, 387, 70), (386, 387, 71), (386, 387, 72), (386, 387, 74), (386, 387, 77)] M0 (-2147483648) (2147483647) (fun _ _ => True)) (32, [some (.ref 386), some (.int u32_1), some (.int u32_2), some (.int v32_3), some (.int v32_4), some (.int v32_5), some (.int v32_6), o32_7, o32_8], [], M)) ∧
      (∀ (M : zM) (u47_1 : Int32) (u47_2 : Int32) (v47_3 : Int32) (v47_4 : Int32) (v47_5 : Int32) (v47_6 : Int32) (v47_7 : Int32) (o47_8 : Option Value), zJ N [(416, 418, 1000), (434, 436, 1000), (386, 387, 70), (386, 387, 71), (386, 387, 72), (386, 387, 74), (386, 387, 77)] M0 M → ((-1 : Int) ≤ v47_3.toInt) → (v47_3.toInt ≤ 11) → ((-1 : Int) ≤ v47_4.toInt) → (v47_4.toInt ≤ 11) → ((-2147483648 : Int) ≤ v47_5.toInt) → (v47_5.toInt ≤ 2147483647) → ((0 : Int) ≤ v47_6.toInt) → (v47_6.toInt ≤ 11) → ((1 : Int) ≤ v47_7.toInt) → (v47_7.toInt ≤ 12) → (u47_2.toInt = 1) → (v47_3.toInt = -1 ∧ v47_4.toInt = -1 ∧ v47_5.toInt = u47_1.toInt ∨ 0 ≤ v47_3.toInt ∧ 0 ≤ v47_4.toInt ∧ v47_5.toInt < u47_1.toInt) → 985 * (2 * (u47_1.toInt + 2147483648) + u47_2.toInt) + 70 * (12 - v47_6.toInt) + 5 * (12 - v47_7.toInt) + 1 < (n : Int) → ZW X (d + 8) 9 false (some .int) cX9_exchanged (zRI N [(416, 418, 1000), (434, 436, 1000), (386, 387, 70), (386, 387, 71), (386, 387, 72), (386, 387, 74), (386, 387, 77)] M0 (-2147483648) (2147483647) (fun _ _ => True)) (47, [some (.ref 386), some (.int u47_1), some (.int u47_2), some (.int v47_3), some (.int v47_4), some (.int v47_5), some (.int v47_6), some (.int v47_7), o47_8], [], M)) := by
    intro n
    induction n with
    | zero =>
      exact ⟨(fun M v17_1 v17_2 o17_3 o17_4 o17_5 o17_6 o17_7 o17_8 hJ v17_10 v17_11 v17_20 v17_21 hn => absurd hn (by omega)), (fun M u32_1 u32_2 v32_3 v32_4 v32_5 v32_6 o32_7 o32_8 hJ v32_30 v32_31 v32_40 v32_41 v32_50 v32_51 v32_60 v32_61 ann0 ann1 hn => absurd hn (by omega)), (fun M u47_1 u47_2 v47_3 v47_4 v47_5 v47_6 v47_7 o47_8 hJ v47_30 v47_31 v47_40 v47_41 v47_50 v47_51 v47_60 v47_61 v47_70 v47_71 ann0 ann1 hn => absurd hn (by omega))⟩
    | succ n ih =>
      obtain ⟨ih17, ih32, ih47⟩ := ih
      refine ⟨?_, ?_, ?_⟩
      · intro M v17_1 v17_2 o17_3 o17_4 o17_5 o17_6 o17_7 o17_8 hJ v17_10 v17_11 v17_20 v17_21 hn
        refine w_lo dX9_exchanged_17 rfl rfl rfl rfl ?_
        rcases Int.decEq v17_2.toInt (0 : Int) with h1 | h1
        · skip
          refine w_ieq_f dX9_exchanged_18 (t := 157) rfl (by omega) ?_
          refine w_ic dX9_exchanged_21 zi_m1 ?_
          refine w_lo (ml' := [some (.ref 386), some (.int v17_1), some (.int v17_2), some (.int (-1)), o17_4, o17_5, o17_6, o17_7, o17_8]) dX9_exchanged_22 rfl rfl rfl rfl ?_
          refine w_ic dX9_exchanged_23 zi_m1 ?_
          refine w_lo (ml' := [some (.ref 386), some (.int v17_1), some (.int v17_2), some (.int (-1)), some (.int (-1)), o17_5, o17_6, o17_7, o17_8]) dX9_exchanged_24 rfl rfl rfl rfl ?_
          refine w_lo dX9_exchanged_26 rfl rfl rfl rfl ?_
          refine w_lo (ml' := [some (.ref 386), some (.int v17_1), some (.int v17_2), some (.int (-1)), some (.int (-1)), some (.int v17_1), o17_6, o17_7, o17_8]) dX9_exchanged_27 rfl rfl rfl rfl ?_
          refine w_ic dX9_exchanged_29 zi_0 ?_
          refine w_lo (ml' := [some (.ref 386), some (.int v17_1), some (.int v17_2), some (.int (-1)), some (.int (-1)), some (.int v17_1), some (.int 0), o17_7, o17_8]) dX9_exchanged_30 rfl rfl rfl rfl ?_
          exact ih32 M v17_1 v17_2 (-1) (-1) v17_1 0 o17_7 o17_8 hJ (by have := zt_m1; omega) (by have := zt_m1; omega) (by have := zt_m1; omega) (by have := zt_m1; omega) (zbot _) (ztop _) (by have := zt_0; omega) (by have := zt_0; omega) (by have := zt_m1; have := zt_0; omega) (by have := zt_m1; have := zt_0; omega) (by have := zt_m1; have := zt_0; have := ztop v17_1; have := zbot v17_1; have := ztop v17_2; have := zbot v17_2; omega)
        · skip
          refine w_ieq_t dX9_exchanged_18 (t := 157) rfl (by omega) ?_
          refine w_lo dX9_exchanged_157 rfl rfl rfl rfl ?_
          refine w_eni dX9_exchanged_158 rfl rfl ?_
          exact ⟨_, _, rfl, (zbot _), (ztop _), hJ, trivial⟩
      · intro M u32_1 u32_2 v32_3 v32_4 v32_5 v32_6 o32_7 o32_8 hJ v32_30 v32_31 v32_40 v32_41 v32_50 v32_51 v32_60 v32_61 ann0 ann1 hn
        refine w_lo dX9_exchanged_32 rfl rfl rfl rfl ?_
        refine w_lo dX9_exchanged_34 rfl rfl rfl rfl ?_
        refine w_gfi dX9_exchanged_35 rfl hJ.1 zs_386 (Nat.le_of_ble_eq_true rfl) zo_386_70 ?_
        intro x2 f3 h4 h5
        rcases zcut v32_6.toInt x2.toInt with h6 | h6
        · skip
          refine w_cge_f dX9_exchanged_38 (t := 111) rfl (by omega) ?_
          refine w_lo dX9_exchanged_41 rfl rfl rfl rfl ?_
          refine w_ic dX9_exchanged_43 zi_1 ?_
          refine w_add dX9_exchanged_44 (by have := zt_1; omega) ?_
          intro x7 h8
          have := zt_1
          refine w_lo (ml' := [some (.ref 386), some (.int u32_1), some (.int u32_2), some (.int v32_3), some (.int v32_4), some (.int v32_5), some (.int v32_6), some (.int x7), o32_8]) dX9_exchanged_45 rfl rfl rfl rfl ?_
          exact ih47 M u32_1 u32_2 v32_3 v32_4 v32_5 v32_6 x7 o32_8 hJ (by omega) (by omega) (by omega) (by omega) (zbot _) (ztop _) (by omega) (by omega) (by omega) (by omega) (by omega) (by omega) (by have := ztop u32_1; have := zbot u32_1; have := ztop u32_2; have := zbot u32_2; have := ztop v32_3; have := zbot v32_3; have := ztop v32_4; have := zbot v32_4; have := ztop v32_5; have := zbot v32_5; have := ztop v32_6; have := zbot v32_6; have := ztop x7; have := zbot x7; omega)
        · skip
          refine w_cge_t dX9_exchanged_38 (t := 111) rfl (by omega) ?_
          refine w_lo dX9_exchanged_111 rfl rfl rfl rfl ?_
          refine w_ic dX9_exchanged_112 zi_m1 ?_
          rcases Int.decEq v32_3.toInt (-1 : Int) with h9 | h9
          · skip
            refine w_ceq_f dX9_exchanged_113 (t := 120) rfl (by have := zt_m1; omega) ?_
            refine w_ic dX9_exchanged_116 zi_1 ?_
            refine w_gt dX9_exchanged_117 (t := 121) rfl ?_
            refine w_lo (ml' := [some (.ref 386), some (.int u32_1), some (.int 1), some (.int v32_3), some (.int v32_4), some (.int v32_5), some (.int v32_6), o32_7, o32_8]) dX9_exchanged_121 rfl rfl rfl rfl ?_
            refine w_lo dX9_exchanged_122 rfl rfl rfl rfl ?_
            refine w_ieq_f dX9_exchanged_123 (t := 133) rfl (by have := zt_1; omega) ?_
            refine w_lo dX9_exchanged_126 rfl rfl rfl rfl ?_
            refine w_lo dX9_exchanged_127 rfl rfl rfl rfl ?_
            refine w_lo dX9_exchanged_128 rfl rfl rfl rfl ?_
            refine w_iv dX9_exchanged_130 rfl rfl (As := [.int v32_3, .int v32_4]) rfl rfl hJ.1.1 zs_386 (Nat.le_of_ble_eq_true rfl) ?_
            refine ZV.imp (k_2404 v32_3 (by omega) (by omega) v32_4 (by omega) (by omega) hN hJ.1) ?_
            rintro _ ⟨M10, rfl, hJ11, hq12⟩
            have hJ13 := zJ_trans hJ hJ11 (zSub_cons (fun _ _ h h' hk => zIR_s (zIR_a (by omega) (by omega))) zSub_nil)
            show ZW _ _ _ _ _ _ _ (133, [some (.ref 386), some (.int u32_1), some (.int 1), some (.int v32_3), some (.int v32_4), some (.int v32_5), some (.int v32_6), o32_7, o32_8], [], M10)
            refine w_lo dX9_exchanged_133 rfl rfl rfl rfl ?_
            refine w_pu dX9_exchanged_134 rfl rfl ?_
            refine w_gfi dX9_exchanged_135 rfl hJ13.1 zs_386 (Nat.le_of_ble_eq_true rfl) zo_386_77 ?_
            intro x14 f15 h16 h17
            refine w_lo dX9_exchanged_138 rfl rfl rfl rfl ?_
            refine w_ieq_f dX9_exchanged_139 (t := 146) rfl (by have := zt_1; omega) ?_
            refine w_ic dX9_exchanged_142 zi_1 ?_
            refine w_gt dX9_exchanged_143 (t := 147) rfl ?_
            refine w_puI dX9_exchanged_147 rfl rfl ?_
            intro x18
            refine w_pfi dX9_exchanged_148 rfl hJ13 zs_386 (Nat.le_of_ble_eq_true rfl) zo_386_77 (zbot _) (ztop _) (zIR_s (zIR_s (zIR_s (zIR_s (zIR_s (zIR_s (zIR_k (by omega) (by omega)))))))) rfl rfl rfl ?_
            intro M19 hJ20 f21 hn22
            refine w_lo dX9_exchanged_151 rfl rfl rfl rfl ?_
            refine w_lo (ml' := [some (.ref 386), some (.int v32_5), some (.int 1), some (.int v32_3), some (.int v32_4), some (.int v32_5), some (.int v32_6), o32_7, o32_8]) dX9_exchanged_153 rfl rfl rfl rfl ?_
            refine w_gt dX9_exchanged_154 (t := 17) rfl ?_
            exact ih17 M19 v32_5 1 (some (.int v32_3)) (some (.int v32_4)) (some (.int v32_5)) (some (.int v32_6)) o32_7 o32_8 hJ20 (zbot _) (ztop _) (by have := zt_1; omega) (by have := zt_1; omega) (by have := zt_1; have := ztop v32_5; have := zbot v32_5; have := ztop v32_3; have := zbot v32_3; have := ztop v32_4; have := zbot v32_4; have := ztop v32_6; have := zbot v32_6; omega)
          · skip
            refine w_ceq_t dX9_exchanged_113 (t := 120) rfl (by have := zt_m1; omega) ?_
            refine w_ic dX9_exchanged_120 zi_0 ?_
            refine w_lo (ml' := [some (.ref 386), some (.int u32_1), some (.int 0), some (.int v32_3), some (.int v32_4), some (.int v32_5), some (.int v32_6), o32_7, o32_8]) dX9_exchanged_121 rfl rfl rfl rfl ?_
            refine w_lo dX9_exchanged_122 rfl rfl rfl rfl ?_
            refine w_ieq_t dX9_exchanged_123 (t := 133) rfl (by have := zt_0; omega) ?_
            refine w_lo dX9_exchanged_133 rfl rfl rfl rfl ?_
            refine w_pu dX9_exchanged_134 rfl rfl ?_
            refine w_gfi dX9_exchanged_135 rfl hJ.1 zs_386 (Nat.le_of_ble_eq_true rfl) zo_386_77 ?_
            intro x23 f24 h25 h26
            refine w_lo dX9_exchanged_138 rfl rfl rfl rfl ?_
            refine w_ieq_t dX9_exchanged_139 (t := 146) rfl (by have := zt_0; omega) ?_
            refine w_ic dX9_exchanged_146 zi_0 ?_
            refine w_add dX9_exchanged_147 (by have := zt_0; omega) ?_
            intro x27 h28
            have := zt_0
            refine w_pfi dX9_exchanged_148 rfl hJ zs_386 (Nat.le_of_ble_eq_true rfl) zo_386_77 (zbot _) (ztop _) (zIR_s (zIR_s (zIR_s (zIR_s (zIR_s (zIR_s (zIR_k (by omega) (by omega)))))))) rfl rfl rfl ?_
            intro M29 hJ30 f31 hn32
            refine w_lo dX9_exchanged_151 rfl rfl rfl rfl ?_
            refine w_lo (ml' := [some (.ref 386), some (.int v32_5), some (.int 0), some (.int v32_3), some (.int v32_4), some (.int v32_5), some (.int v32_6), o32_7, o32_8]) dX9_exchanged_153 rfl rfl rfl rfl ?_
            refine w_gt dX9_exchanged_154 (t := 17) rfl ?_
            exact ih17 M29 v32_5 0 (some (.int v32_3)) (some (.int v32_4)) (some (.int v32_5)) (some (.int v32_6)) o32_7 o32_8 hJ30 (zbot _) (ztop _) (by have := zt_0; omega) (by have := zt_0; omega) (by have := zt_0; have := ztop v32_5; have := zbot v32_5; have := ztop v32_3; have := zbot v32_3; have := ztop v32_4; have := zbot v32_4; have := ztop v32_6; have := zbot v32_6; omega)
      · intro M u47_1 u47_2 v47_3 v47_4 v47_5 v47_6 v47_7 o47_8 hJ v47_30 v47_31 v47_40 v47_41 v47_50 v47_51 v47_60 v47_61 v47_70 v47_71 ann0 ann1 hn
        refine w_lo dX9_exchanged_47 rfl rfl rfl rfl ?_
        refine w_lo dX9_exchanged_49 rfl rfl rfl rfl ?_
        refine w_gfi dX9_exchanged_50 rfl hJ.1 zs_386 (Nat.le_of_ble_eq_true rfl) zo_386_70 ?_
        intro x33 f34 h35 h36
        rcases zcut v47_7.toInt x33.toInt with h37 | h37
        · skip
          refine w_cge_f dX9_exchanged_53 (t := 105) rfl (by omega) ?_
          refine w_lo dX9_exchanged_56 rfl rfl rfl rfl ?_
          refine w_lo dX9_exchanged_57 rfl rfl rfl rfl ?_
          refine w_lo dX9_exchanged_59 rfl rfl rfl rfl ?_
          refine w_iv dX9_exchanged_61 rfl rfl (As := [.int v47_6, .int v47_7]) rfl rfl hJ.1.1 zs_386 (Nat.le_of_ble_eq_true rfl) ?_
          refine ZV.imp (k_2404 v47_6 (by omega) (by omega) v47_7 (by omega) (by omega) hN hJ.1) ?_
          rintro _ ⟨M38, rfl, hJ39, hq40⟩
          have hJ41 := zJ_trans hJ hJ39 (zSub_cons (fun _ _ h h' hk => zIR_s (zIR_a (by omega) (by omega))) zSub_nil)
          show ZW _ _ _ _ _ _ _ (64, [some (.ref 386), some (.int u47_1), some (.int u47_2), some (.int v47_3), some (.int v47_4), some (.int v47_5), some (.int v47_6), some (.int v47_7), o47_8], [], M38)
          refine w_lo dX9_exchanged_64 rfl rfl rfl rfl ?_
          refine w_iv dX9_exchanged_65 rfl rfl (As := []) rfl rfl hJ41.1.1 zs_386 (Nat.le_of_ble_eq_true rfl) ?_
          refine ZV.imp (k_2401 hN hJ41.1) ?_
          rintro _ ⟨x45, M42, rfl, h46, h47, hJ43, hq44⟩
          have hJ48 := zJ_trans hJ41 hJ43 (zSub_cons (fun _ _ h h' hk => zIR_a (by omega) (by omega)) (zSub_cons (fun _ _ h h' hk => zIR_s (zIR_a (by omega) (by omega))) (zSub_cons (fun _ _ h h' hk => zIR_s (zIR_s (zIR_s (zIR_e (by omega) (by omega) hk)))) (zSub_cons (fun _ _ h h' hk => zIR_s (zIR_s (zIR_s (zIR_s (zIR_s (zIR_e (by omega) (by omega) hk)))))) zSub_nil))))
          show ZW _ _ _ _ _ _ _ (68, [some (.ref 386), some (.int u47_1), some (.int u47_2), some (.int v47_3), some (.int v47_4), some (.int v47_5), some (.int v47_6), some (.int v47_7), o47_8], [.int x45], M42)
          refine w_lo (ml' := [some (.ref 386), some (.int u47_1), some (.int u47_2), some (.int v47_3), some (.int v47_4), some (.int v47_5), some (.int v47_6), some (.int v47_7), some (.int x45)]) dX9_exchanged_68 rfl rfl rfl rfl ?_
          refine w_lo dX9_exchanged_70 rfl rfl rfl rfl ?_
          refine w_lo dX9_exchanged_71 rfl rfl rfl rfl ?_
          refine w_lo dX9_exchanged_73 rfl rfl rfl rfl ?_
          refine w_iv dX9_exchanged_75 rfl rfl (As := [.int v47_6, .int v47_7]) rfl rfl hJ48.1.1 zs_386 (Nat.le_of_ble_eq_true rfl) ?_
          refine ZV.imp (k_2404 v47_6 (by omega) (by omega) v47_7 (by omega) (by omega) hN hJ48.1) ?_
          rintro _ ⟨M49, rfl, hJ50, hq51⟩
          have hJ52 := zJ_trans hJ48 hJ50 (zSub_cons (fun _ _ h h' hk => zIR_s (zIR_a (by omega) (by omega))) zSub_nil)
          show ZW _ _ _ _ _ _ _ (78, [some (.ref 386), some (.int u47_1), some (.int u47_2), some (.int v47_3), some (.int v47_4), some (.int v47_5), some (.int v47_6), some (.int v47_7), some (.int x45)], [], M49)
          refine w_lo dX9_exchanged_78 rfl rfl rfl rfl ?_
          refine w_lo dX9_exchanged_80 rfl rfl rfl rfl ?_
          rcases zcut x45.toInt v47_5.toInt with h53 | h53
          · skip
            refine w_clt_t dX9_exchanged_82 (t := 88) rfl (by omega) ?_
            refine w_lo dX9_exchanged_88 rfl rfl rfl rfl ?_
            refine w_lo (ml' := [some (.ref 386), some (.int u47_1), some (.int u47_2), some (.int v47_3), some (.int v47_4), some (.int x45), some (.int v47_6), some (.int v47_7), some (.int x45)]) dX9_exchanged_90 rfl rfl rfl rfl ?_
            refine w_lo dX9_exchanged_92 rfl rfl rfl rfl ?_
            refine w_lo (ml' := [some (.ref 386), some (.int u47_1), some (.int u47_2), some (.int v47_6), some (.int v47_4), some (.int x45), some (.int v47_6), some (.int v47_7), some (.int x45)]) dX9_exchanged_94 rfl rfl rfl rfl ?_
            refine w_lo dX9_exchanged_95 rfl rfl rfl rfl ?_
            refine w_lo (ml' := [some (.ref 386), some (.int u47_1), some (.int u47_2), some (.int v47_6), some (.int v47_7), some (.int x45), some (.int v47_6), some (.int v47_7), some (.int x45)]) dX9_exchanged_97 rfl rfl rfl rfl ?_
            refine w_inc (kk := 7) dX9_exchanged_99 rfl (m := 1) (by decide) (by omega) ?_
            intro x54 h55
            refine ⟨_, rfl, ?_⟩
            show ZW _ _ _ _ _ _ _ (102, [some (.ref 386), some (.int u47_1), some (.int u47_2), some (.int v47_6), some (.int v47_7), some (.int x45), some (.int v47_6), some (.int x54), some (.int x45)], [], M49)
            refine w_gt dX9_exchanged_102 (t := 47) rfl ?_
            exact ih47 M49 u47_1 u47_2 v47_6 v47_7 x45 v47_6 x54 (some (.int x45)) hJ52 (by omega) (by omega) (by omega) (by omega) (zbot _) (ztop _) (by omega) (by omega) (by omega) (by omega) (by omega) (by omega) (by have := ztop u47_1; have := zbot u47_1; have := ztop u47_2; have := zbot u47_2; have := ztop v47_6; have := zbot v47_6; have := ztop v47_7; have := zbot v47_7; have := ztop x45; have := zbot x45; have := ztop x54; have := zbot x54; omega)
          · skip
            refine w_clt_f dX9_exchanged_82 (t := 88) rfl (by omega) ?_
            refine w_gt dX9_exchanged_85 (t := 99) rfl ?_
            refine w_inc (kk := 7) dX9_exchanged_99 rfl (m := 1) (by decide) (by omega) ?_
            intro x56 h57
            refine ⟨_, rfl, ?_⟩
            show ZW _ _ _ _ _ _ _ (102, [some (.ref 386), some (.int u47_1), some (.int u47_2), some (.int v47_3), some (.int v47_4), some (.int v47_5), some (.int v47_6), some (.int x56), some (.int x45)], [], M49)
            refine w_gt dX9_exchanged_102 (t := 47) rfl ?_
            exact ih47 M49 u47_1 u47_2 v47_3 v47_4 v47_5 v47_6 x56 (some (.int x45)) hJ52 (by omega) (by omega) (by omega) (by omega) (zbot _) (ztop _) (by omega) (by omega) (by omega) (by omega) (by omega) (by omega) (by have := ztop u47_1; have := zbot u47_1; have := ztop u47_2; have := zbot u47_2; have := ztop v47_3; have := zbot v47_3; have := ztop v47_4; have := zbot v47_4; have := ztop v47_5; have := zbot v47_5; have := ztop v47_6; have := zbot v47_6; have := ztop x56; have := zbot x56; have := ztop x45; have := zbot x45; omega)
        · skip
          refine w_cge_t dX9_exchanged_53 (t := 105) rfl (by omega) ?_
          refine w_inc (kk := 6) dX9_exchanged_105 rfl (m := 1) (by decide) (by omega) ?_
          intro x58 h59
          refine ⟨_, rfl, ?_⟩
          show ZW _ _ _ _ _ _ _ (108, [some (.ref 386), some (.int u47_1), some (.int u47_2), some (.int v47_3), some (.int v47_4), some (.int v47_5), some (.int x58), some (.int v47_7), o47_8], [], M)
          refine w_gt dX9_exchanged_108 (t := 32) rfl ?_
          exact ih32 M u47_1 u47_2 v47_3 v47_4 v47_5 x58 (some (.int v47_7)) o47_8 hJ (by omega) (by omega) (by omega) (by omega) (zbot _) (ztop _) (by omega) (by omega) (by omega) (by omega) (by have := ztop u47_1; have := zbot u47_1; have := ztop u47_2; have := zbot u47_2; have := ztop v47_3; have := zbot v47_3; have := ztop v47_4; have := zbot v47_4; have := ztop v47_5; have := zbot v47_5; have := ztop x58; have := zbot x58; have := ztop v47_7; have := zbot v47_7; omega)
  obtain ⟨ih17, ih32, ih47⟩ := main 8461085585992
  show ZW _ _ _ _ _ _ _ (0, [some (.ref 386), none, none, none, none, none, none, none, none], [], M0)
  refine w_lo dX9_exchanged_0 rfl rfl rfl rfl ?_
  refine w_ic dX9_exchanged_1 zi_0 ?_
  refine w_iv dX9_exchanged_2 rfl rfl (As := [.int 0]) rfl rfl hJ0.1.1 zs_386 (Nat.le_of_ble_eq_true rfl) ?_
  refine ZV.imp (k_2363 0 (by have := zt_0; omega) (by have := zt_0; omega) hN hJ0.1) ?_
  rintro _ ⟨M60, rfl, hJ61, hq62⟩
  have hJ63 := zJ_trans hJ0 hJ61 (zSub_cons (fun _ _ h h' hk => zIR_s (zIR_a (by omega) (by omega))) (zSub_cons (fun _ _ h h' hk => zIR_s (zIR_s (zIR_e (by omega) (by omega) hk))) (zSub_cons (fun _ _ h h' hk => zIR_s (zIR_s (zIR_s (zIR_e (by omega) (by omega) hk)))) (zSub_cons (fun _ _ h h' hk => zIR_s (zIR_s (zIR_s (zIR_s (zIR_e (by omega) (by omega) hk))))) zSub_nil))))
  show ZW _ _ _ _ _ _ _ (5, [some (.ref 386), none, none, none, none, none, none, none, none], [], M60)
  refine w_lo dX9_exchanged_5 rfl rfl rfl rfl ?_
  refine w_ic dX9_exchanged_6 zi_0 ?_
  refine w_pfi dX9_exchanged_7 rfl hJ63 zs_386 (Nat.le_of_ble_eq_true rfl) zo_386_77 (zbot _) (ztop _) (zIR_s (zIR_s (zIR_s (zIR_s (zIR_s (zIR_s (zIR_k (by omega) (by omega)))))))) rfl rfl rfl ?_
  intro M64 hJ65 f66 hn67
  refine w_lo dX9_exchanged_10 rfl rfl rfl rfl ?_
  refine w_iv dX9_exchanged_11 rfl rfl (As := []) rfl rfl hJ65.1.1 zs_386 (Nat.le_of_ble_eq_true rfl) ?_
  refine ZV.imp (k_2401 hN hJ65.1) ?_
  rintro _ ⟨x71, M68, rfl, h72, h73, hJ69, hq70⟩
  have hJ74 := zJ_trans hJ65 hJ69 (zSub_cons (fun _ _ h h' hk => zIR_a (by omega) (by omega)) (zSub_cons (fun _ _ h h' hk => zIR_s (zIR_a (by omega) (by omega))) (zSub_cons (fun _ _ h h' hk => zIR_s (zIR_s (zIR_s (zIR_e (by omega) (by omega) hk)))) (zSub_cons (fun _ _ h h' hk => zIR_s (zIR_s (zIR_s (zIR_s (zIR_s (zIR_e (by omega) (by omega) hk)))))) zSub_nil))))
  show ZW _ _ _ _ _ _ _ (14, [some (.ref 386), none, none, none, none, none, none, none, none], [.int x71], M68)
  refine w_lo (ml' := [some (.ref 386), some (.int x71), none, none, none, none, none, none, none]) dX9_exchanged_14 rfl rfl rfl rfl ?_
  refine w_ic dX9_exchanged_15 zi_1 ?_
  refine w_lo (ml' := [some (.ref 386), some (.int x71), some (.int 1), none, none, none, none, none, none]) dX9_exchanged_16 rfl rfl rfl rfl ?_
  exact ih17 M68 x71 1 none none none none none none hJ74 (zbot _) (ztop _) (by have := zt_1; omega) (by have := zt_1; omega) (by have := zt_1; have := ztop x71; have := zbot x71; omega)
set_option maxRecDepth 100000 in
theorem k_2405 {X : List Int32} {d N : Nat} {M0 : zM} (a0 : Int32) (hN : N ≤ 600) (hB0 : zB N M0) : ZV X (d + 10) 2405 [.ref 386, .int a0] M0 (zRI N [(416, 418, 1000), (434, 436, 1000), (386, 387, 70), (386, 387, 71), (386, 387, 72), (386, 387, 74), (386, 387, 77)] M0 (-2147483648) (2147483647) (fun _ _ => True)) := by
  have hJ0 : zJ N [(416, 418, 1000), (434, 436, 1000), (386, 387, 70), (386, 387, 71), (386, 387, 72), (386, 387, 74), (386, 387, 77)] M0 M0 := zJ_refl hB0
  refine ZV.of (ini := false) rfl (Nat.le_of_ble_eq_true rfl) (by decide +kernel) ?_
  show ZW _ _ _ _ _ _ _ (0, [some (.ref 386), some (.int a0), none], [], M0)
  refine w_lo dX9_exchange_0 rfl rfl rfl rfl ?_
  refine w_iv dX9_exchange_1 rfl rfl (As := []) rfl rfl hJ0.1.1 zs_386 (Nat.le_of_ble_eq_true rfl) ?_
  refine ZV.of (ini := false) rfl (Nat.le_of_ble_eq_true rfl) (by decide +kernel) ?_
  show ZW _ _ _ _ _ _ _ (0, [some (.ref 386)], [], M0)
  refine w_lo dX9_many_0 rfl rfl rfl rfl ?_
  refine w_gf dX9_many_1 rfl hJ0.1.1 zs_386 (zr_386_13 hJ0.1) ?_
  refine w_lo dX9_many_4 rfl rfl rfl rfl ?_
  refine w_gfi dX9_many_5 rfl hJ0.1 zs_386 (Nat.le_of_ble_eq_true rfl) zo_386_12 ?_
  intro x1 f2 h3 h4
  refine w_iai dX9_many_8 hJ0.1 zs_388 (by omega) (by omega) zu_388 ?_
  intro x8 f5 h6 h7
  refine w_eni dX9_many_9 rfl rfl ?_
  show ZW _ _ _ _ _ _ _ (4, [some (.ref 386), some (.int a0), none], [.int x8], M0)
  rcases Int.decEq x8.toInt (0 : Int) with h9 | h9
  · skip
    refine w_ieq_f dX9_exchange_4 (t := 26) rfl (by omega) ?_
    refine w_lo dX9_exchange_7 rfl rfl rfl rfl ?_
    refine w_ic dX9_exchange_8 zi_m1 ?_
    rcases Int.decEq a0.toInt (-1 : Int) with h10 | h10
    · skip
      refine w_ceq_f dX9_exchange_9 (t := 28) rfl (by have := zt_m1; omega) ?_
      refine w_lo dX9_exchange_12 rfl rfl rfl rfl ?_
      refine w_bi dX9_exchange_13 (c := 20) (by decide) ?_
      rcases Int.decEq a0.toInt (20 : Int) with h11 | h11
      · skip
        refine w_ceq_f dX9_exchange_15 (t := 28) rfl (by have := zt_20; omega) ?_
        refine w_lo dX9_exchange_18 rfl rfl rfl rfl ?_
        refine w_lo dX9_exchange_19 rfl rfl rfl rfl ?_
        refine w_iv dX9_exchange_20 rfl rfl (As := [.int a0]) rfl rfl hJ0.1.1 zs_386 (Nat.le_of_ble_eq_true rfl) ?_
        refine ZV.of (ini := false) rfl (Nat.le_of_ble_eq_true rfl) (by decide +kernel) ?_
        show ZW _ _ _ _ _ _ _ (0, [some (.ref 386), some (.int a0)], [], M0)
        refine w_lo dX9_isBoy_0 rfl rfl rfl rfl ?_
        rcases zcut a0.toInt (0 : Int) with h12 | h12
        · skip
          refine w_ilt_t dX9_isBoy_1 (t := 21) rfl (by omega) ?_
          refine w_ic dX9_isBoy_21 zi_0 ?_
          refine w_en dX9_isBoy_22 rfl ?_
          show ZW _ _ _ _ _ _ _ (23, [some (.ref 386), some (.int a0), none], [.int 0], M0)
          refine w_ine_f dX9_exchange_23 (t := 28) rfl (by have := zt_0; omega) ?_
          refine w_ic dX9_exchange_26 zi_m1 ?_
          refine w_en dX9_exchange_27 rfl ?_
          exact ⟨_, _, rfl, (zbot _), (ztop _), hJ0, trivial⟩
        · skip
          refine w_ilt_f dX9_isBoy_1 (t := 21) rfl (by omega) ?_
          refine w_lo dX9_isBoy_4 rfl rfl rfl rfl ?_
          refine w_lo dX9_isBoy_5 rfl rfl rfl rfl ?_
          refine w_gf dX9_isBoy_6 rfl hJ0.1.1 zs_386 (zr_386_13 hJ0.1) ?_
          refine w_lo dX9_isBoy_9 rfl rfl rfl rfl ?_
          refine w_gf dX9_isBoy_10 rfl hJ0.1.1 zs_386 f2 ?_
          refine w_ia dX9_isBoy_13 hJ0.1.1 zs_388 (znat (by omega)) f5 ?_
          rcases zcut a0.toInt x8.toInt with h16 | h16
          · skip
            refine w_cge_f dX9_isBoy_14 (t := 21) rfl (by omega) ?_
            refine w_ic dX9_isBoy_17 zi_1 ?_
            refine w_gt dX9_isBoy_18 (t := 22) rfl ?_
            refine w_en dX9_isBoy_22 rfl ?_
            show ZW _ _ _ _ _ _ _ (23, [some (.ref 386), some (.int a0), none], [.int 1], M0)
            refine w_ine_t dX9_exchange_23 (t := 28) rfl (by have := zt_1; omega) ?_
            refine w_lo dX9_exchange_28 rfl rfl rfl rfl ?_
            refine w_iv dX9_exchange_29 rfl rfl (As := []) rfl rfl hJ0.1.1 zs_386 (Nat.le_of_ble_eq_true rfl) ?_
            refine ZV.imp (k_2406 hN hJ0.1) ?_
            rintro _ ⟨x20, M17, rfl, h21, h22, hJ18, hq19⟩
            have hJ23 := zJ_trans hJ0 hJ18 (zSub_cons (fun _ _ h h' hk => zIR_a (by omega) (by omega)) (zSub_cons (fun _ _ h h' hk => zIR_s (zIR_a (by omega) (by omega))) (zSub_cons (fun _ _ h h' hk => zIR_s (zIR_s (zIR_e (by omega) (by omega) hk))) (zSub_cons (fun _ _ h h' hk => zIR_s (zIR_s (zIR_s (zIR_e (by omega) (by omega) hk)))) (zSub_cons (fun _ _ h h' hk => zIR_s (zIR_s (zIR_s (zIR_s (zIR_e (by omega) (by omega) hk))))) (zSub_cons (fun _ _ h h' hk => zIR_s (zIR_s (zIR_s (zIR_s (zIR_s (zIR_e (by omega) (by omega) hk)))))) (zSub_cons (fun _ _ h h' hk => zIR_s (zIR_s (zIR_s (zIR_s (zIR_s (zIR_s (zIR_e (by omega) (by omega) hk))))))) zSub_nil)))))))
            show ZW _ _ _ _ _ _ _ (32, [some (.ref 386), some (.int a0), none], [.int x20], M17)
            refine w_lo (ml' := [some (.ref 386), some (.int a0), some (.int x20)]) dX9_exchange_32 rfl rfl rfl rfl ?_
            refine w_lo dX9_exchange_33 rfl rfl rfl rfl ?_
            refine w_ic dX9_exchange_34 zi_m1 ?_
            refine w_cne_t dX9_exchange_35 (t := 42) rfl (by have := zt_m1; omega) ?_
            refine w_lo dX9_exchange_42 rfl rfl rfl rfl ?_
            refine w_bi dX9_exchange_43 (c := 20) (by decide) ?_
            refine w_cne_t dX9_exchange_45 (t := 55) rfl (by have := zt_20; omega) ?_
            refine w_lo dX9_exchange_55 rfl rfl rfl rfl ?_
            refine w_gf dX9_exchange_56 rfl hJ23.1.1 zs_386 (zr_386_69 hJ23.1) ?_
            refine w_lo dX9_exchange_59 rfl rfl rfl rfl ?_
            refine w_iai dX9_exchange_60 hJ23.1 zs_434 (by omega) (by omega) zu_434 ?_
            intro x27 f24 h25 h26
            refine w_eni dX9_exchange_61 rfl rfl ?_
            exact ⟨_, _, rfl, (zbot _), (ztop _), hJ23, trivial⟩
          · skip
            refine w_cge_t dX9_isBoy_14 (t := 21) rfl (by omega) ?_
            refine w_ic dX9_isBoy_21 zi_0 ?_
            refine w_en dX9_isBoy_22 rfl ?_
            show ZW _ _ _ _ _ _ _ (23, [some (.ref 386), some (.int a0), none], [.int 0], M0)
            refine w_ine_f dX9_exchange_23 (t := 28) rfl (by have := zt_0; omega) ?_
            refine w_ic dX9_exchange_26 zi_m1 ?_
            refine w_en dX9_exchange_27 rfl ?_
            exact ⟨_, _, rfl, (zbot _), (ztop _), hJ0, trivial⟩
      · skip
        refine w_ceq_t dX9_exchange_15 (t := 28) rfl (by have := zt_20; omega) ?_
        refine w_lo dX9_exchange_28 rfl rfl rfl rfl ?_
        refine w_iv dX9_exchange_29 rfl rfl (As := []) rfl rfl hJ0.1.1 zs_386 (Nat.le_of_ble_eq_true rfl) ?_
        refine ZV.imp (k_2406 hN hJ0.1) ?_
        rintro _ ⟨x31, M28, rfl, h32, h33, hJ29, hq30⟩
        have hJ34 := zJ_trans hJ0 hJ29 (zSub_cons (fun _ _ h h' hk => zIR_a (by omega) (by omega)) (zSub_cons (fun _ _ h h' hk => zIR_s (zIR_a (by omega) (by omega))) (zSub_cons (fun _ _ h h' hk => zIR_s (zIR_s (zIR_e (by omega) (by omega) hk))) (zSub_cons (fun _ _ h h' hk => zIR_s (zIR_s (zIR_s (zIR_e (by omega) (by omega) hk)))) (zSub_cons (fun _ _ h h' hk => zIR_s (zIR_s (zIR_s (zIR_s (zIR_e (by omega) (by omega) hk))))) (zSub_cons (fun _ _ h h' hk => zIR_s (zIR_s (zIR_s (zIR_s (zIR_s (zIR_e (by omega) (by omega) hk)))))) (zSub_cons (fun _ _ h h' hk => zIR_s (zIR_s (zIR_s (zIR_s (zIR_s (zIR_s (zIR_e (by omega) (by omega) hk))))))) zSub_nil)))))))
        show ZW _ _ _ _ _ _ _ (32, [some (.ref 386), some (.int a0), none], [.int x31], M28)
        refine w_lo (ml' := [some (.ref 386), some (.int a0), some (.int x31)]) dX9_exchange_32 rfl rfl rfl rfl ?_
        refine w_lo dX9_exchange_33 rfl rfl rfl rfl ?_
        refine w_ic dX9_exchange_34 zi_m1 ?_
        refine w_cne_t dX9_exchange_35 (t := 42) rfl (by have := zt_m1; omega) ?_
        refine w_lo dX9_exchange_42 rfl rfl rfl rfl ?_
        refine w_bi dX9_exchange_43 (c := 20) (by decide) ?_
        refine w_cne_f dX9_exchange_45 (t := 55) rfl (by have := zt_20; omega) ?_
        refine w_lo dX9_exchange_48 rfl rfl rfl rfl ?_
        refine w_gfi dX9_exchange_49 rfl hJ34.1 zs_386 (Nat.le_of_ble_eq_true rfl) zo_386_77 ?_
        intro x35 f36 h37 h38
        refine w_gt dX9_exchange_52 (t := 61) rfl ?_
        refine w_eni dX9_exchange_61 rfl rfl ?_
        exact ⟨_, _, rfl, (zbot _), (ztop _), hJ34, trivial⟩
    · skip
      refine w_ceq_t dX9_exchange_9 (t := 28) rfl (by have := zt_m1; omega) ?_
      refine w_lo dX9_exchange_28 rfl rfl rfl rfl ?_
      refine w_iv dX9_exchange_29 rfl rfl (As := []) rfl rfl hJ0.1.1 zs_386 (Nat.le_of_ble_eq_true rfl) ?_
      refine ZV.imp (k_2406 hN hJ0.1) ?_
      rintro _ ⟨x42, M39, rfl, h43, h44, hJ40, hq41⟩
      have hJ45 := zJ_trans hJ0 hJ40 (zSub_cons (fun _ _ h h' hk => zIR_a (by omega) (by omega)) (zSub_cons (fun _ _ h h' hk => zIR_s (zIR_a (by omega) (by omega))) (zSub_cons (fun _ _ h h' hk => zIR_s (zIR_s (zIR_e (by omega) (by omega) hk))) (zSub_cons (fun _ _ h h' hk => zIR_s (zIR_s (zIR_s (zIR_e (by omega) (by omega) hk)))) (zSub_cons (fun _ _ h h' hk => zIR_s (zIR_s (zIR_s (zIR_s (zIR_e (by omega) (by omega) hk))))) (zSub_cons (fun _ _ h h' hk => zIR_s (zIR_s (zIR_s (zIR_s (zIR_s (zIR_e (by omega) (by omega) hk)))))) (zSub_cons (fun _ _ h h' hk => zIR_s (zIR_s (zIR_s (zIR_s (zIR_s (zIR_s (zIR_e (by omega) (by omega) hk))))))) zSub_nil)))))))
      show ZW _ _ _ _ _ _ _ (32, [some (.ref 386), some (.int a0), none], [.int x42], M39)
      refine w_lo (ml' := [some (.ref 386), some (.int a0), some (.int x42)]) dX9_exchange_32 rfl rfl rfl rfl ?_
      refine w_lo dX9_exchange_33 rfl rfl rfl rfl ?_
      refine w_ic dX9_exchange_34 zi_m1 ?_
      refine w_cne_f dX9_exchange_35 (t := 42) rfl (by have := zt_m1; omega) ?_
      refine w_lo dX9_exchange_38 rfl rfl rfl rfl ?_
      refine w_gt dX9_exchange_39 (t := 61) rfl ?_
      refine w_eni dX9_exchange_61 rfl rfl ?_
      exact ⟨_, _, rfl, (zbot _), (ztop _), hJ45, trivial⟩
  · skip
    refine w_ieq_t dX9_exchange_4 (t := 26) rfl (by omega) ?_
    refine w_ic dX9_exchange_26 zi_m1 ?_
    refine w_en dX9_exchange_27 rfl ?_
    exact ⟨_, _, rfl, (zbot _), (ztop _), hJ0, trivial⟩
set_option maxRecDepth 100000 in
theorem k_2407 {X : List Int32} {d N : Nat} {M0 : zM}  (hN : N ≤ 600) (hB0 : zB N M0) : ZV X (d + 10) 2407 [.ref 386] M0 (zRI N [(415, 433, 1000), (434, 436, 1000), (386, 387, 64), (386, 387, 65), (386, 387, 70), (386, 387, 71), (386, 387, 72), (386, 387, 74), (386, 387, 77)] M0 (-2147483648) (2147483647) (fun _ _ => True)) := by
  have hJ0 : zJ N [(415, 433, 1000), (434, 436, 1000), (386, 387, 64), (386, 387, 65), (386, 387, 70), (386, 387, 71), (386, 387, 72), (386, 387, 74), (386, 387, 77)] M0 M0 := zJ_refl hB0
  refine ZV.of (ini := false) rfl (Nat.le_of_ble_eq_true rfl) (by decide +kernel) ?_
  have main : ∀ n : Nat,
      (∀ (M : zM) (v33_1 : Int32), zJ N [(415, 433, 1000), (434, 436, 1000), (386, 387, 64), (386, 387, 65), (386, 387, 70), (386, 387, 71), (386, 387, 72), (386, 387, 74), (386, 387, 77)] M0 M → ((0 : Int) ≤ v33_1.toInt) → (v33_1.toInt ≤ 12) → 3 * (12 - v33_1.toInt) + 1 < (n : Int) → ZW X (d + 9) 9 false (some .int) cX9_lay (zRI N [(415, 433, 1000), (434, 436, 1000), (386, 387, 64), (386, 387, 65), (386, 387, 70), (386, 387, 71), (386, 387, 72), (386, 387, 74), (386, 387, 77)] M0 (-2147483648) (2147483647) (fun _ _ => True)) (33, [some (.ref 386), some (.int v33_1)], [], M)) := by
    intro n
    induction n with
    | zero =>
      exact (fun M v33_1 hJ v33_10 v33_11 hn => absurd hn (by omega))
    | succ n ih =>
      have ih33 := ih
      · intro M v33_1 hJ v33_10 v33_11 hn
        refine w_lo dX9_lay_33 rfl rfl rfl rfl ?_
        refine w_lo dX9_lay_34 rfl rfl rfl rfl ?_
        refine w_gfi dX9_lay_35 rfl hJ.1 zs_386 (Nat.le_of_ble_eq_true rfl) zo_386_70 ?_
        intro x1 f2 h3 h4
        rcases zcut v33_1.toInt x1.toInt with h5 | h5
        · skip
          refine w_cge_f dX9_lay_38 (t := 59) rfl (by omega) ?_
          refine w_lo dX9_lay_41 rfl rfl rfl rfl ?_
          refine w_gf dX9_lay_42 rfl hJ.1.1 zs_386 (zr_386_50 hJ.1) ?_
          refine w_lo dX9_lay_45 rfl rfl rfl rfl ?_
          refine w_lo dX9_lay_46 rfl rfl rfl rfl ?_
          refine w_gf dX9_lay_47 rfl hJ.1.1 zs_386 (zr_386_69 hJ.1) ?_
          refine w_lo dX9_lay_50 rfl rfl rfl rfl ?_
          refine w_iai dX9_lay_51 hJ.1 zs_434 (by omega) (by omega) zu_434 ?_
          intro x9 f6 h7 h8
          refine w_isi dX9_lay_52 hJ zs_419 (by omega) (by omega) zu_419 (by omega) (by omega) (zIR_a (by omega) (by omega)) ?_
          intro M10 hJ11 f12 hn13
          refine w_inc (kk := 1) dX9_lay_53 rfl (m := 1) (by decide) (by omega) ?_
          intro x14 h15
          refine ⟨_, rfl, ?_⟩
          show ZW _ _ _ _ _ _ _ (56, [some (.ref 386), some (.int x14)], [], M10)
          refine w_gt dX9_lay_56 (t := 33) rfl ?_
          exact ih33 M10 x14 hJ11 (by omega) (by omega) (by omega)
        · skip
          refine w_cge_t dX9_lay_38 (t := 59) rfl (by omega) ?_
          refine w_lo dX9_lay_59 rfl rfl rfl rfl ?_
          refine w_gfi dX9_lay_60 rfl hJ.1 zs_386 (Nat.le_of_ble_eq_true rfl) zo_386_77 ?_
          intro x16 f17 h18 h19
          refine w_eni dX9_lay_63 rfl rfl ?_
          exact ⟨_, _, rfl, (zbot _), (ztop _), hJ, trivial⟩
  have ih33 := main 48
  show ZW _ _ _ _ _ _ _ (0, [some (.ref 386), none], [], M0)
  refine w_lo dX9_lay_0 rfl rfl rfl rfl ?_
  refine w_iv dX9_lay_1 rfl rfl (As := []) rfl rfl hJ0.1.1 zs_386 (Nat.le_of_ble_eq_true rfl) ?_
  refine ZV.of (ini := false) rfl (Nat.le_of_ble_eq_true rfl) (by decide +kernel) ?_
  show ZW _ _ _ _ _ _ _ (0, [some (.ref 386)], [], M0)
  refine w_lo dX9_many_0 rfl rfl rfl rfl ?_
  refine w_gf dX9_many_1 rfl hJ0.1.1 zs_386 (zr_386_13 hJ0.1) ?_
  refine w_lo dX9_many_4 rfl rfl rfl rfl ?_
  refine w_gfi dX9_many_5 rfl hJ0.1 zs_386 (Nat.le_of_ble_eq_true rfl) zo_386_12 ?_
  intro x20 f21 h22 h23
  refine w_iai dX9_many_8 hJ0.1 zs_388 (by omega) (by omega) zu_388 ?_
  intro x27 f24 h25 h26
  refine w_eni dX9_many_9 rfl rfl ?_
  show ZW _ _ _ _ _ _ _ (4, [some (.ref 386), none], [.int x27], M0)
  rcases Int.decEq x27.toInt (0 : Int) with h28 | h28
  · skip
    refine w_ine_t dX9_lay_4 (t := 13) rfl (by omega) ?_
    refine w_lo dX9_lay_13 rfl rfl rfl rfl ?_
    refine w_iv dX9_lay_14 rfl rfl (As := []) rfl rfl hJ0.1.1 zs_386 (Nat.le_of_ble_eq_true rfl) ?_
    refine ZV.imp (k_2406 hN hJ0.1) ?_
    rintro _ ⟨x32, M29, rfl, h33, h34, hJ30, hq31⟩
    have hJ35 := zJ_trans hJ0 hJ30 (zSub_cons (fun _ _ h h' hk => zIR_a (by omega) (by omega)) (zSub_cons (fun _ _ h h' hk => zIR_s (zIR_a (by omega) (by omega))) (zSub_cons (fun _ _ h h' hk => zIR_s (zIR_s (zIR_s (zIR_s (zIR_e (by omega) (by omega) hk))))) (zSub_cons (fun _ _ h h' hk => zIR_s (zIR_s (zIR_s (zIR_s (zIR_s (zIR_e (by omega) (by omega) hk)))))) (zSub_cons (fun _ _ h h' hk => zIR_s (zIR_s (zIR_s (zIR_s (zIR_s (zIR_s (zIR_e (by omega) (by omega) hk))))))) (zSub_cons (fun _ _ h h' hk => zIR_s (zIR_s (zIR_s (zIR_s (zIR_s (zIR_s (zIR_s (zIR_e (by omega) (by omega) hk)))))))) (zSub_cons (fun _ _ h h' hk => zIR_s (zIR_s (zIR_s (zIR_s (zIR_s (zIR_s (zIR_s (zIR_s (zIR_e (by omega) (by omega) hk))))))))) zSub_nil)))))))
    show ZW _ _ _ _ _ _ _ (17, [some (.ref 386), none], [.int x32], M29)
    refine w_pu dX9_lay_17 rfl rfl ?_
    refine w_lo dX9_lay_18 rfl rfl rfl rfl ?_
    refine w_gfi dX9_lay_19 rfl hJ35.1 zs_386 (Nat.le_of_ble_eq_true rfl) zo_386_77 ?_
    intro x36 f37 h38 h39
    rcases Int.decEq x36.toInt (0 : Int) with h40 | h40
    · skip
      refine w_ine_t dX9_lay_22 (t := 27) rfl (by omega) ?_
      refine w_lo dX9_lay_27 rfl rfl rfl rfl ?_
      refine w_iv dX9_lay_28 rfl rfl (As := []) rfl rfl hJ35.1.1 zs_386 (Nat.le_of_ble_eq_true rfl) ?_
      refine ZV.imp (k_2377 hN hJ35.1) ?_
      rintro _ ⟨M41, rfl, hJ42, hq43⟩
      have hJ44 := zJ_trans hJ35 hJ42 (zSub_cons (fun _ _ h h' hk => zIR_a (by omega) (by omega)) (zSub_cons (fun _ _ h h' hk => zIR_s (zIR_s (zIR_e (by omega) (by omega) hk))) (zSub_cons (fun _ _ h h' hk => zIR_s (zIR_s (zIR_s (zIR_e (by omega) (by omega) hk)))) zSub_nil)))
      show ZW _ _ _ _ _ _ _ (31, [some (.ref 386), none], [], M41)
      refine w_ic dX9_lay_31 zi_0 ?_
      refine w_lo (ml' := [some (.ref 386), some (.int 0)]) dX9_lay_32 rfl rfl rfl rfl ?_
      exact ih33 M41 0 hJ44 (by have := zt_0; omega) (by have := zt_0; omega) (by have := zt_0; omega)
    · skip
      refine w_ine_f dX9_lay_22 (t := 27) rfl (by omega) ?_
      refine w_ic dX9_lay_25 zi_0 ?_
      refine w_en dX9_lay_26 rfl ?_
      exact ⟨_, _, rfl, (zbot _), (ztop _), hJ35, trivial⟩
  · skip
    refine w_ine_f dX9_lay_4 (t := 13) rfl (by omega) ?_
    refine w_lo dX9_lay_7 rfl rfl rfl rfl ?_
    refine w_ic dX9_lay_8 zi_3 ?_
    refine w_iv dX9_lay_9 rfl rfl (As := [.int 3]) rfl rfl hJ0.1.1 zs_386 (Nat.le_of_ble_eq_true rfl) ?_
    refine ZV.imp (k_2306 3 (by have := zt_3; omega) (by have := zt_3; omega) hN hJ0.1) ?_
    rintro _ ⟨x48, M45, rfl, h49, h50, hJ46, hq47⟩
    have hJ51 := zJ_trans hJ0 hJ46 (zSub_cons (fun _ _ h h' hk => zIR_a (by omega) (by omega)) zSub_nil)
    show ZW _ _ _ _ _ _ _ (12, [some (.ref 386), none], [.int x48], M45)
    refine w_eni dX9_lay_12 rfl rfl ?_
    exact ⟨_, _, rfl, (zbot _), (ztop _), hJ51, trivial⟩
